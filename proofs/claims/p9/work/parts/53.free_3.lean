section
variable {x : Cn} {Q : Int32 → Cn → Prop}
theorem sb_X4_hasPlaceFor {q : Nat} {T : TT} {W C S A N : Nat} (E : SEB x q T W C S A N) {a p h : Nat} {wo : Int32} (hp : kk KW p = some (0, 0)) (hq : ASR x p T a) (hh : h < 24) (k : ∀ y, EQx x y (q + 5) → Q (bP (fitA T S N a h wo)) y) : mSI mX4_hasPlaceFor [.ref q, .ref p, .int (nI h), .int wo] KW x Q := by
  refine v_X4_hasPlaceFor_0 hp (ks0 E.1) ?_
  rw [hq 1 (by decide), hq 3 (by decide), hq 4 (by decide), hq 5 (by decide)]
  exact sb_X4_hasPlace E hh (fun y hy => ⟨bP_01 _, k y hy⟩)
theorem sb_X4_hourFor {q : Nat} {T : TT} {W C S A N : Nat} (E : SEB x q T W C S A N) {a p : Nat} (ha : a < A) (hg : gr x (q + 4) a = some p) (k : ∀ y, EQx x y (q + 5) → Q (hrF T S N a) y) : mSI mX4_hourFor [.ref q, .ref p] KW x Q := by
  have hn := E.nums
  have hA : A ≤ 24 := hn.2.2.2.2.2.2.2.1
  have hS : S ≤ 24 := hn.2.2.2.2.2.2.1
  obtain ⟨p', e1, e2, e3, ⟨-, -, ⟨h, h1, h2⟩, -, ⟨f, l, f1, f2, f3, f4⟩, ⟨b, b1, b2⟩⟩⟩ := E.ask ha
  have epp : p' = p := Option.some.inj (e1.symm.trans hg)
  subst epp
  have hW : W ≤ 30 := hn.2.2.2.2.1
  have hN : N ≤ W := hn.2.2.2.2.2.2.2.2
  have ep : ∀ y, EQx x y (q + 5) → ASR y p' T a := fun y hy => (E.eqx hy (Or.inl rfl)).2.2.1.2.2.2.2.2.2.2 a p' ha (by unfold gr; rw [hy.1]; exact hg)
  refine v_X4_hourFor_0 (ks0 E.1) e2 ?_
  rw [hn.2.2.1, hn.2.1, e3 5 (by decide), f4, e3 2 (by decide), h2]
  refine ⟨fun z => ?_, fun z => ⟨fun z2 => ?_, fun z2 => ?_⟩⟩
  · have hz : S = 24 := by
      have := (nI_leI (a := 24) (b := S) (by decide) (by omega)).mp z
      omega
    have := k x (EQx.rf _ _)
    unfold hrF at this
    rwa [if_pos (Or.inr hz)] at this
  · have z3 : N ≤ l := (nI_leI (by omega) (by omega)).mp z2
    have z4 : ¬ S = 24 := fun e => z (by rw [e]; exact Int32.le_refl _)
    have k2 : ∀ y, EQx x y (q + 5) → Q (lpR (stH (fun h => fitA T S N a h 0) h) (fun _ => -1) (b + 1) 0 ()) y := by
      intro y hy
      have := k y hy
      unfold hrF at this
      rwa [f4, nI_clamp (by omega), if_neg (by omega), h2, nI_clamp (by omega), b2, nI_clamp (by omega)] at this
    rw [e3 1 (by decide), e3 3 (by decide), e3 4 (by decide), f3]
    have fA : ∀ h, fitC T S N (ao T a 1) h (ao T a 3) (f_sb (nI f) (nI l)) 0 = fitA T S N a h 0 := fun h => by unfold fitA; rw [f3, f4]
    refine sb_X4_hasPlace E h1 (fun y hy => ?_)
    rw [fA]
    refine ⟨fun w => ?_, fun w => ?_⟩
    · have k3 : ∀ y, EQx x y (q + 5) → Q (lpR (stH (fun h => fitA T S N a h 0) h) (fun _ => -1) b 1 ()) y := by
        intro y hy
        have := k2 y hy
        simp only [lpR] at this
        have e0 : stH (fun h => fitA T S N a h 0) h 0 () = .inl () := by
          unfold stH
          rw [if_neg (fun u => u.2 (by simpa using w)), if_neg (fun u => u.2 (by simpa using w))]
        rw [e0] at this
        exact this
      refine lp_gen (stH (fun h => fitA T S N a h 0) h) (fun _ => -1) (fun d _ => ∀ y, EQx x y (q + 5) → GI mX4_hourFor 55 [some (.ref q), some (.ref p'), some (.int (f_sb (nI f) (nI l))), some (.int (nI d)), none, none] [] KW y Q) (fun r => ∀ y, EQx x y (q + 5) → Q r y) (b + 1) (fun _ k y hy => ?_) (fun d _ hd n1 n2 y hy => ?_) b 1 () (by omega) k3 y hy
      · refine v_X4_hourFor_55 e2 (ks0 E.1) ?_
        rw [ep y hy 6 (by decide), b2]
        exact ⟨fun _ => k y hy, fun z => absurd (nI_lt (by omega) (by omega)) z⟩
      · have E2 := E.eqx hy (Or.inl rfl)
        refine v_X4_hourFor_55 e2 (ks0 E.1) ?_
        rw [ep y hy 6 (by decide), b2, ep y hy 2 (by decide), h2, ep y hy 1 (by decide), ep y hy 3 (by decide), nI_add, nI_1]
        refine ⟨fun z => absurd z (nI_nlt (by omega) (by omega)), fun _ => ?_⟩
        have up : ∀ y, EQx x y (q + 5) → ¬ (d ≤ h ∧ ¬ bP (fitA T S N a (h - d) 0) = 0) → (nI 24 ≤ nI (h + d) → GI mX4_hourFor 55 [some (.ref q), some (.ref p'), some (.int (f_sb (nI f) (nI l))), some (.int (nI (d + 1))), none, none] [] KW y Q) ∧ (¬ nI 24 ≤ nI (h + d) → mSI mX4_hasPlace [.ref q, .int (ao T a 1), .int (nI (h + d)), .int (ao T a 3), .int (f_sb (nI f) (nI l)), .int 0] KW y (fun r y_4 => (r = 0 → GI mX4_hourFor 55 [some (.ref q), some (.ref p'), some (.int (f_sb (nI f) (nI l))), some (.int (nI (d + 1))), none, none] [] KW y_4 Q) ∧ (¬ r = 0 → Q (nI (h + d)) y_4))) := by
          intro y hy w
          refine ⟨fun z => n1 () ?_ y hy, fun z => ?_⟩
          · unfold stH
            rw [if_neg w, if_neg (fun u => nI_ge u.1 (by decide) z)]
          · have hd2 : h + d < 24 := by
              by_cases c : h + d < 24
              · exact c
              · exact absurd (nI_le (by omega) (by omega)) z
            refine sb_X4_hasPlace (E.eqx hy (Or.inl rfl)) hd2 (fun y2 hy2 => ?_)
            rw [fA]
            refine ⟨fun u => n1 () ?_ y2 (hy.tr hy2), fun u => n2 _ ?_ y2 (hy.tr hy2)⟩
            · unfold stH
              rw [if_neg w, if_neg (fun g => g.2 u)]
            · unfold stH
              rw [if_neg w, if_pos ⟨hd2, u⟩]
        refine ⟨fun z => up y hy (fun u => ?_), fun z => ?_⟩
        · rw [pk_sub u.1] at z
          exact nI_pos (by omega) z
        · have hd2 : d ≤ h := by
            by_cases c : d ≤ h
            · exact c
            · exact absurd (pk_sneg (by omega) (by omega)) z
          rw [pk_sub hd2]
          refine sb_X4_hasPlace E2 (by omega) (fun y2 hy2 => ?_)
          rw [fA]
          refine ⟨fun u => ?_, fun u => n2 _ ?_ y2 (hy.tr hy2)⟩
          · have hy3 := hy.tr hy2
            rw [ep y2 hy3 2 (by decide), h2, ep y2 hy3 1 (by decide), ep y2 hy3 3 (by decide), nI_add]
            exact up y2 hy3 (fun g => g.2 u)
          · unfold stH
            rw [if_pos ⟨hd2, u⟩]
    · have := k2 y hy
      simp only [lpR] at this
      have e0 : stH (fun h => fitA T S N a h 0) h 0 () = .inr (nI h) := by
        unfold stH
        rw [if_pos ⟨Nat.zero_le _, by simpa using w⟩]
        rfl
      rw [e0] at this
      rw [ep y hy 2 (by decide), h2]
      exact this
  · have z3 : l < N := by
      by_cases c : l < N
      · exact c
      · exact absurd (nI_le (by omega) (by omega)) z2
    have := k x (EQx.rf _ _)
    unfold hrF at this
    rw [f4, nI_clamp (by omega), if_pos (Or.inl z3)] at this
    exact this
end

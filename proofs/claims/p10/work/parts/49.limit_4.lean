section
variable {x : Cn} {Q : Int32 → Cn → Prop}
theorem sq_X8_limit {y : Cn} {Q : Int32 → Cn → Prop} {T : TT} {W C S A N n : Nat} {H : Nat → TT} {a b c : Int32} (r : RS y T n H) (F : WF T W C S A N) (k1 : ¬ ((0 < nI W ∧ 0 ≤ a ∧ a < 24) ∧ (0 ≤ b ∧ b ≤ 9) ∧ (0 ≤ c ∧ c ≤ b)) → Q (-2) y) (k2 : ∀ h p q, a = nI h → b = nI p → c = nI q → h < 24 → p ≤ 9 → q ≤ p → 0 < nI W → ¬ bP (abv T S W N h p q) = 0 → Q (-6) y) (k3 : ∀ h p q, a = nI h → b = nI p → c = nI q → h < 24 → p ≤ 9 → q ≤ p → 0 < nI W → bP (abv T S W N h p q) = 0 → T (6 + 2 * h) = nI p → T (7 + 2 * h) = nI q → ∀ z, RFr y z → RS z T n H → Q ((10 * T (6 + 2 * h)) + T (7 + 2 * h)) z) (k4 : ∀ h p q, a = nI h → b = nI p → c = nI q → h < 24 → p ≤ 9 → q ≤ p → 0 < nI W → bP (abv T S W N h p q) = 0 → ¬ (T (6 + 2 * h) = nI p ∧ T (7 + 2 * h) = nI q) → ∀ z, RFr y z → RS z (lmT T h (nI p) (nI q)) (pn n) (push H n T) → Q ((10 * T (6 + 2 * h)) + T (7 + 2 * h)) z) : mSI mX8_limit [.ref 717, .int a, .int b, .int c] KW y Q := by
  have hW : W ≤ 30 := F.2.2.1
  have M := r.1
  refine v_X8_limit_0 km M.1 km1 ⟨v0 (k := 0) (by decide) rfl rfl, ?_⟩
  rw [r.2.1, F.1, d24]
  refine ⟨fun z => k1 (fun u => z u.1), fun z1 => ⟨fun z => k1 (fun u => z u.2.1), fun z2 => ⟨fun z3 => ?_, fun z => k1 (fun u => z u.2.2)⟩⟩⟩
  obtain ⟨h, hh, rfl⟩ := inN (n := 24) (by decide) z1.2
  obtain ⟨p, hp, rfl⟩ := nI_of2 (M := 9) (n := 9) (by decide) (Int32.not_lt.mpr z2.1) z2.2
  obtain ⟨q, hq, rfl⟩ := nI_of (Int32.not_lt.mpr z3.1)
  have hqp : q ≤ p := (nI_leI hq (by omega)).mp z3.2
  have k2 := k2 h p q rfl rfl rfl hh hp hqp z1.1
  have k3 := k3 h p q rfl rfl rfl hh hp hqp z1.1
  have k4 := k4 h p q rfl rfl rfl hh hp hqp z1.1
  refine sp_X8_isAbove M (by rw [r.2.1]; exact F) hh hp (by omega) ?_
  rw [r.2.1, ixh1, ixh, nI_clamp (show 6 + 2 * h < 2 ^ 31 by omega), nI_clamp (show 7 + 2 * h < 2 ^ 31 by omega)]
  refine ⟨fun u => ⟨M.1, vp_in_nI (by omega) (by decide), vp_in_nI (by omega) (by decide), ?_⟩, fun u => k2 u⟩
  have wr : ¬ (T (6 + 2 * h) = nI p ∧ T (7 + 2 * h) = nI q) → mSV mX8_keeps [.ref 717] KW y (fun y_12 => gr y_12 717 1 = some 718 ∧ (Q ((10 * T (6 + 2 * h)) + T (7 + 2 * h)) (ui (ui y_12 718 (6 + 2 * h) (nI p)) 718 (7 + 2 * h) (nI q)))) := fun g => r.keeps (fun z f1 r1 => ⟨r1.1.1, k4 u g _ f1.u8.u8 r1.u8.u8⟩)
  refine ⟨fun v => wr (fun g => v g.1), fun v => ⟨fun v2 => ?_, fun v2 => wr (fun g => v2 g.2)⟩⟩
  refine k3 u v v2 _ (RFr.rf y).u8.u8 ?_
  have := (r.u8 (k := 6 + 2 * h) (v := nI p)).u8 (k := 7 + 2 * h) (v := nI q)
  have e : uT (uT T (6 + 2 * h) (nI p)) (7 + 2 * h) (nI q) = T := by
    funext i
    unfold uT
    by_cases c1 : i = 7 + 2 * h
    · rw [if_pos c1, c1]; exact v2.symm
    · rw [if_neg c1]
      by_cases c2 : i = 6 + 2 * h
      · rw [if_pos c2, c2]; exact v.symm
      · rw [if_neg c2]
  rwa [e] at this
theorem AC.lim {x y : Cn} {W C S A N n h p q : Nat} {T : TT} {H : Nat → TT} (a : AC x y W C S A N n T H) (hh : h < 24) (hp : p ≤ 10) (hq : q ≤ 10) : AC x (ui (ui y 3 h (nI p)) 4 h (nI q)) W C S A N n (lmT T h (nI p) (nI q)) H := by
  have E := a.2.2.2.2
  obtain ⟨e1, e2, ⟨v0, v1, v2, v3, v4, v5, v6, v7⟩, w1, w2, w3, w4, w5, w6, w7, w8, w9, w10, w11, w12, w13, w14⟩ := E
  obtain ⟨r1, r2, r3, r4, r5, r6, r7, r8, r9⟩ := id e2
  have eo : ∀ b k, b ≠ 3 → b ≠ 4 → gi (ui (ui y 3 h (nI p)) 4 h (nI q)) b k = gi y b k := fun b k c1 c2 => by rw [gi_ui, if_neg (fun z => c2 z.1), gi_ui, if_neg (fun z => c1 z.1)]
  have eT : ∀ i, i ≠ 6 + 2 * h → i ≠ 7 + 2 * h → lmT T h (nI p) (nI q) i = T i := fun i c1 c2 => by unfold lmT; rw [uT_ne _ _ c2, uT_ne _ _ c1]
  have e6 : lmT T h (nI p) (nI q) (6 + 2 * h) = nI p := by unfold lmT; rw [uT_ne _ _ (by omega), uT_at]
  have e7 : lmT T h (nI p) (nI q) (7 + 2 * h) = nI q := by unfold lmT; rw [uT_at]
  refine a.up (fun b k c => eo b k (by omega) (by omega)) rfl ⟨e1, e2.keep rfl, ⟨?_, ?_, ?_, ?_, ?_, ?_, ?_, ?_⟩, ?_⟩
  · rw [eo 2 0 (by omega) (by omega), eT 0 (by omega) (by omega)]; exact v0
  · rw [eo 2 1 (by omega) (by omega), eT 4 (by omega) (by omega)]; exact v1
  · rw [eo 2 2 (by omega) (by omega), eT 5 (by omega) (by omega)]; exact v2
  · rw [eo 2 3 (by omega) (by omega), eT 2 (by omega) (by omega)]; exact v3
  · rw [eo 2 4 (by omega) (by omega), eT 3 (by omega) (by omega)]; exact v4
  · intro i hi
    by_cases c : i = h
    · subst c
      rw [e6, e7]
      exact ⟨by rw [gi_ui, if_neg (by omega), gi_ui, if_pos ⟨rfl, rfl⟩], by rw [gi_ui, if_pos ⟨rfl, rfl⟩]⟩
    · rw [eT _ (by omega) (by omega), eT _ (by omega) (by omega), gi_ui, if_neg (by omega), gi_ui, if_neg (by omega), gi_ui, if_neg (by omega), gi_ui, if_neg (by omega)]
      exact v5 i hi
  · intro s p' hs hp'
    obtain ⟨j, hj, ej⟩ := r6 s (by omega)
    have ep : p' = 2 + 6 + j := Option.some.inj (hp'.symm.trans ej)
    exact (v6 s p' hs hp').cg (fun k _ => eo p' k (by omega) (by omega)) (fun k hk => eT _ (by omega) (by omega))
  · intro s p' hs hp'
    obtain ⟨j, hj, ej⟩ := r8 s (by omega)
    have ep : p' = 2 + 30 + j := Option.some.inj (hp'.symm.trans ej)
    exact (v7 s p' hs hp').cg (fun k _ => eo p' k (by omega) (by omega)) (fun k hk => eT _ (by omega) (by omega))
  · refine ⟨by rw [eT 0 (by omega) (by omega)]; exact w1, w2, w3, by rw [eT 1 (by omega) (by omega)]; exact w4, w5, by rw [eT 2 (by omega) (by omega)]; exact w6, w7, by rw [eT 3 (by omega) (by omega)]; exact w8, w9, by rw [eT 4 (by omega) (by omega)]; exact w10, w11, fun i hi => ?_, fun s hs => (w13 s hs).cg (fun k hk => eT _ (by omega) (by omega)), fun a ha => (w14 a ha).cg (fun k hk => eT _ (by omega) (by omega))⟩
    by_cases c : i = h
    · subst c
      rw [e6, e7]
      exact ⟨p, q, hp, hq, rfl, rfl⟩
    · rw [eT _ (by omega) (by omega), eT _ (by omega) (by omega)]
      exact w12 i hi
end
theorem eq_limit (a b c : Int32) : Both mX7_limit mX8_limit [.int a, .int b, .int c] := by
  intro x R
  obtain ⟨W, C, S, A, N, n, H, ac, rs, nm⟩ := R.ac
  have E := ac.2.2.2.2
  have hn := E.nums
  have hW : W ≤ 30 := hn.2.2.2.2.1
  have hC : C ≤ 8 := hn.2.2.2.2.2.1
  have no : ¬ ((0 < nI W ∧ 0 ≤ a ∧ a < 24) ∧ (0 ≤ b ∧ b ≤ 9) ∧ (0 ≤ c ∧ c ≤ b)) → mSI mX8_limit [.ref 717, .int a, .int b, .int c] KW x (fun r' z => -2 = r' ∧ Rel z) := by
    intro g
    have ab : ∀ h p q, a = nI h → b = nI p → c = nI q → h < 24 → p ≤ 9 → q ≤ p → 0 < nI W → False := fun h p q e1 e2 e3 h1 h2 h3 h4 => g (by
      rw [e1, e2, e3]
      exact ⟨⟨h4, nI_pos' (by omega), nI_lt (b := 24) h1 (by decide)⟩, ⟨nI_pos' (by omega), nI_le (b := 9) h2 (by decide)⟩, nI_pos' (by omega), nI_le h3 (by omega)⟩)
    exact sq_X8_limit rs E.2.2.2 (fun _ => ⟨rfl, R⟩) (fun h p q e1 e2 e3 h1 h2 h3 h4 => (ab h p q e1 e2 e3 h1 h2 h3 h4).elim) (fun h p q e1 e2 e3 h1 h2 h3 h4 => (ab h p q e1 e2 e3 h1 h2 h3 h4).elim) (fun h p q e1 e2 e3 h1 h2 h3 h4 => (ab h p q e1 e2 e3 h1 h2 h3 h4).elim)
  refine v_X7_limit_0 k0 R.1.2.1 (ks0 E.1) ?_
  rw [hn.1]
  refine ⟨fun z => no (fun u => z u.1), fun z1 => ⟨fun z => no (fun u => z u.2.1), fun z2 => ⟨fun z3 => ?_, fun z => no (fun u => z u.2.2)⟩⟩⟩
  obtain ⟨h, hh, rfl⟩ := inN (n := 24) (by decide) z1.2
  obtain ⟨p, hp, rfl⟩ := nI_of2 (M := 9) (n := 9) (by decide) (Int32.not_lt.mpr z2.1) z2.2
  obtain ⟨q, hq, rfl⟩ := nI_of (Int32.not_lt.mpr z3.1)
  have hqp : q ≤ p := (nI_leI hq (by omega)).mp z3.2
  have inj : ∀ h' p' q', nI h = nI h' → nI p = nI p' → nI q = nI q' → h' < 24 → p' ≤ 9 → q' ≤ p' → h' = h ∧ p' = p ∧ q' = q := fun h' p' q' e1 e2 e3 g1 g2 g3 => ⟨((nI_eq (by omega) (by omega)).mp e1).symm, ((nI_eq (by omega) (by omega)).mp e2).symm, ((nI_eq (by omega) (by omega)).mp e3).symm⟩
  refine sp_X4_holdsMore E hh hp (by omega) (fun y hy => ?_)
  have ay := ac.e7 hy
  have Ey := ay.2.2.2.2
  rw [nI_clamp (show h < 2 ^ 31 by omega)]
  have l5 := Ey.2.2.1.2.2.2.2.2.1 h hh
  refine ⟨fun u => ⟨ay.2.1.2.1, 3, Ey.2.1.1, 24, ks1 E.1, vp_in_nI hh (by decide), 4, Ey.2.1.2.1, 24, ks2 E.1, vp_in_nI hh (by decide), ?_⟩, fun u => ?_⟩
  · rw [show gi y 3 h = gi x 718 (6 + 2 * h) from l5.1, show gi y 4 h = gi x 718 (7 + 2 * h) from l5.2]
    have go : ¬ (gi x 718 (6 + 2 * h) = nI p ∧ gi x 718 (7 + 2 * h) = nI q) → mSV mX7_remember [.ref 0] KW y (fun y_19 => gr y_19 0 2 = some 2 ∧ (∃ c_21, gr y_19 2 5 = some c_21 ∧ (∃ n_24, kk KW c_21 = some (20, n_24) ∧ (vp_in (nI h) n_24 ∧ (∃ c_26, gr y_19 2 6 = some c_26 ∧ (∃ n_29, kk KW c_26 = some (20, n_29) ∧ (vp_in (nI h) n_29 ∧ (mSI mX8_limit [.ref 717, .int (nI h), .int (nI p), .int (nI q)] KW (ui (ui y_19 c_21 h (nI p)) c_26 h (nI q)) (fun r' z => ((10 * gi x 718 (6 + 2 * h)) + gi x 718 (7 + 2 * h)) = r' ∧ Rel z))))))))) := by
      intro g
      refine ay.rem (fun _ _ => rfl) (fun z az z1' z2' => ⟨az.2.1.2.1, 3, az.2.2.2.2.2.1.1, 24, ks1 E.1, vp_in_nI hh (by decide), 4, az.2.2.2.2.2.1.2.1, 24, ks2 E.1, vp_in_nI hh (by decide), ?_⟩)
      have a2 := az.lim hh (show p ≤ 10 by omega) (show q ≤ 10 by omega)
      refine sq_X8_limit (a2.rs rs) E.2.2.2 (fun v => absurd ⟨z1, z2, z3⟩ v) (fun h' p' q' e1 e2 e3 g1 g2 g3 _ v => ?_) (fun h' p' q' e1 e2 e3 g1 g2 g3 _ _ v1 v2 => ?_) (fun h' p' q' e1 e2 e3 g1 g2 g3 _ _ _ v f r2 => ?_) <;> obtain ⟨rfl, rfl, rfl⟩ := inj h' p' q' e1 e2 e3 g1 g2 g3
      · exact absurd u v
      · exact absurd ⟨v1, v2⟩ g
      · refine ⟨rfl, a2.fin R nm (fun c hc => ?_) f r2⟩
        unfold lmT
        rw [uT_ne _ _ (by omega), uT_ne _ _ (by omega)]
    refine ⟨fun v => go (fun g => v g.1), fun v => ⟨fun v2 => ?_, fun v2 => go (fun g => v2 g.2)⟩⟩
    refine sq_X8_limit (ay.rs rs) E.2.2.2 (fun v => absurd ⟨z1, z2, z3⟩ v) (fun h' p' q' e1 e2 e3 g1 g2 g3 _ w => ?_) (fun h' p' q' e1 e2 e3 g1 g2 g3 _ _ _ _ z f r2 => ?_) (fun h' p' q' e1 e2 e3 g1 g2 g3 _ _ w => ?_) <;> obtain ⟨rfl, rfl, rfl⟩ := inj h' p' q' e1 e2 e3 g1 g2 g3
    · exact absurd u w
    · exact ⟨rfl, ay.fin R nm (fun _ _ => rfl) f r2⟩
    · exact absurd ⟨v, v2⟩ w
  · refine sq_X8_limit (ay.rs rs) E.2.2.2 (fun v => absurd ⟨z1, z2, z3⟩ v) (fun h' p' q' e1 e2 e3 g1 g2 g3 _ w => ⟨rfl, (R.e7 hy).1⟩) (fun h' p' q' e1 e2 e3 g1 g2 g3 _ w => ?_) (fun h' p' q' e1 e2 e3 g1 g2 g3 _ w => ?_) <;> obtain ⟨rfl, rfl, rfl⟩ := inj h' p' q' e1 e2 e3 g1 g2 g3
    · exact absurd w u
    · exact absurd w u



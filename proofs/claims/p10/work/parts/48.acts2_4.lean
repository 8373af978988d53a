section
theorem sq_X8_gives {y : Cn} {Q : Int32 → Cn → Prop} {T : TT} {W C S A N n : Nat} {H : Nat → TT} {a b : Int32} (r : RS y T n H) (F : WF T W C S A N) (k1 : ¬ ((0 ≤ a ∧ a < nI C) ∧ (0 < nI W ∧ 0 ≤ b ∧ b < 7)) → Q (-2) y) (k2 : (0 ≤ a ∧ a < nI C) → (0 < nI W ∧ 0 ≤ b ∧ b < 7) → ∀ z m, RFr y z → (accT (gvS W N a b) S (T, 0)).2 = nI m → m ≤ 32 * S → (m = 0 → RS z T n H ∧ (accT (gvS W N a b) S (T, 0)).1 = T) → (¬ m = 0 → RS z (accT (gvS W N a b) S (T, 0)).1 (pn n) (push H n T)) → Q (accT (gvS W N a b) S (T, 0)).2 z) : mSI mX8_gives [.ref 717, .int a, .int b] KW y Q := by
  have hS : S ≤ 24 := F.2.2.2.2.2.2.1
  have hW : W ≤ 30 := F.2.2.1
  have hN : N ≤ W := F.2.2.2.2.2.2.2.2.2.2.1
  have hC : C ≤ 8 := F.2.2.2.2.1
  have M := r.1
  refine v_X8_gives_0 km M.1 km1 ⟨v0 (k := 1) (by decide) rfl rfl, ?_⟩
  rw [r.2.1, F.2.2.2.1, F.1, inN' (by omega), d7]
  refine ⟨fun z => k1 (fun u => z u.1), fun z1 => ⟨v0 (k := 0) (by decide) rfl rfl, fun z2 => ?_, fun z => k1 (fun u => z u.2)⟩⟩
  have k2 := k2 z1 z2
  refine lp_acc (gvS W N a b) (fun s t => ∀ v m, RFr y v → t.2 = nI m → m ≤ 32 * s → WF t.1 W C S A N → (m = 0 → RS v T n H ∧ t.1 = T) → (¬ m = 0 → RS v t.1 (pn n) (push H n T)) → GI mX8_gives 24 [some (.ref 717), some (.int a), some (.int b), some (.int t.2), some (.int (nI s)), none] [] KW v Q) S (T, 0) ?_ (fun s t hs n1 => ?_) y 0 (RFr.rf y) rfl (by omega) F (fun _ => ⟨r, rfl⟩) (fun u => absurd rfl u)
  · intro v m f e1 e2 e3 e4 e5
    have hr : MRf v 718 ∧ gi v 718 2 = nI S := by
      by_cases c : m = 0
      · obtain ⟨q1, q2⟩ := e4 c
        exact ⟨q1.1, by rw [q1.2.1]; exact F.2.2.2.2.2.1⟩
      · have q1 := e5 c
        exact ⟨q1.1, by rw [q1.2.1]; exact e3.2.2.2.2.2.1⟩
    exact v_X8_gives_24 km hr.1.1 km1 hr.1.2.2.1 km1 ⟨v0 (k := 2) (by decide) rfl rfl, fun _ => k2 v m f e1 e2 e4 e5, fun z => absurd (by rw [hr.2]; exact Int32.le_refl _) z⟩
  · obtain ⟨T1, tot⟩ := t
    intro v m f (e1 : tot = nI m) e2 (e3 : WF T1 W C S A N) (e4 : m = 0 → RS v T n H ∧ T1 = T) (e5 : ¬ m = 0 → RS v T1 (pn n) (push H n T))
    subst e1
    have hr : ∃ n' H', RS v T1 n' H' := by
      by_cases c : m = 0
      · obtain ⟨q1, q2⟩ := e4 c
        rw [q2]
        exact ⟨n, H, q1⟩
      · exact ⟨_, _, e5 c⟩
    obtain ⟨n', H', rv⟩ := hr
    have w0 := e3.2.2.2.2.2.2.2.2.2.2.2.2.1 s hs
    have skip : ¬ (so T1 s 0 = a ∧ so T1 s 1 = b) → GI mX8_gives 24 [some (.ref 717), some (.int a), some (.int b), some (.int (nI m)), some (.int (nI s + 1)), none] [] KW v Q := by
      intro c
      rw [nI_1]
      exact n1 (T1, nI m) (if_neg c) v m f rfl (by omega) e3 e4 e5
    refine v_X8_gives_24 km rv.1.1 km1 rv.1.2.2.1 km1 ⟨v0 (k := 2) (by decide) rfl rfl, fun z => absurd (by rw [rv.2.1, e3.2.2.2.2.2.1] at z; exact z) (nI_ge hs (by omega)), fun _ => ⟨l24_nI (by omega) rfl, ?_⟩⟩
    rw [rv.2.1, nI_clamp (by omega), e3.2.2.2.2.2.2.2.2.2.1, show nI N + 4 = nI (N + 4) from nI_add N 4]
    refine ⟨fun u => skip (fun c => u c.1), fun u1 => ⟨fun u2 => ⟨v0 (k := 4) (by decide) rfl rfl, ?_⟩, fun u => skip (fun c => u c.2)⟩⟩
    have stp : gvS W N a b s (T1, nI m) = (goT T1 s (opf T1 W s (N + 4)) 0 4, nI m + nI (cpt (opf T1 W s (N + 4)))) := if_pos ⟨u1, u2⟩
    have st2 : gvS W N a b s (T1, nI m) = (goT T1 s (opf T1 W s (N + 4)) 0 4, nI (m + cpt (opf T1 W s (N + 4)))) := stp.trans (by rw [nI_add])
    have cl := cpt_le (opf T1 W s (N + 4))
    have wf2 : WF (goT T1 s (opf T1 W s (N + 4)) 0 4) W C S A N := by
      obtain ⟨w1, w2, w3, w4, w5, w6, w7, w8, w9, w10, w11, w12, w13, w14⟩ := e3
      have eT : ∀ i, ¬ (62 + 12 * s ≤ i ∧ i < 74 + 12 * s) → goT T1 s (opf T1 W s (N + 4)) 0 4 i = T1 i := fun i h => goT_off _ _ _ (by decide) (by decide) i h
      refine ⟨by rw [eT 0 (by omega)]; exact w1, w2, w3, by rw [eT 1 (by omega)]; exact w4, w5, by rw [eT 2 (by omega)]; exact w6, w7, by rw [eT 3 (by omega)]; exact w8, w9, by rw [eT 4 (by omega)]; exact w10, w11, fun i hi => by rw [eT _ (by omega), eT _ (by omega)]; exact w12 i hi, fun s' hs' => ?_, fun a ha => (w14 a ha).cg (fun k hk => eT _ (by omega))⟩
      by_cases c : s' = s
      · rw [c]; exact w0.go (by decide) (by decide) (by decide) (opf_in w0 hW (by omega))
      · exact (w13 s' hs').cg (fun k hk => eT _ (by omega))
    refine sp_X8_openFrom rv e3 (by omega) (by omega) ⟨fun z => ?_, fun z => ⟨fun z2 => ?_, fun z2 => ?_⟩⟩
    · have c0 : cpt (opf T1 W s (N + 4)) = 0 := by rw [z, cpt_0]
      have e0 : goT T1 s (opf T1 W s (N + 4)) 0 4 = T1 := by rw [z, goT_0 _ _ _ _ (by decide) (by decide) (by decide)]
      rw [nI_1, nI_add]
      by_cases c : m = 0
      · obtain ⟨q1, q2⟩ := e4 c
        refine sp_X8_goes (k := 0) (o := 4) (T := T1) (by rw [q2]; exact q1) (by omega) (by decide) (by decide) (by decide) (fun v2 f2 r2 => ?_)
        refine n1 (goT T1 s (opf T1 W s (N + 4)) 0 4, nI (m + cpt (opf T1 W s (N + 4)))) st2 v2 (m + cpt (opf T1 W s (N + 4))) (f.tr f2) rfl (by omega) wf2 (fun u => ⟨?_, e0.trans q2⟩) (fun u => by omega)
        rw [e0, q2] at r2
        exact r2
      · refine sp_X8_goes (k := 0) (o := 4) (e5 c) (by omega) (by decide) (by decide) (by decide) (fun v2 f2 r2 => ?_)
        exact n1 (goT T1 s (opf T1 W s (N + 4)) 0 4, nI (m + cpt (opf T1 W s (N + 4)))) st2 v2 (m + cpt (opf T1 W s (N + 4))) (f.tr f2) rfl (by omega) wf2 (fun u => by omega) (fun _ => r2)
    · rw [show (0 : Int32) = nI 0 by decide, nI_eq (by omega) (by decide)] at z2
      refine sp_X8_goes (k := 0) (o := 4) (e5 z2) (by omega) (by decide) (by decide) (by decide) (fun v2 f2 r2 => ?_)
      rw [nI_1, nI_add]
      exact n1 (goT T1 s (opf T1 W s (N + 4)) 0 4, nI (m + cpt (opf T1 W s (N + 4)))) st2 v2 (m + cpt (opf T1 W s (N + 4))) (f.tr f2) rfl (by omega) wf2 (fun u => by omega) (fun _ => r2)
    · rw [show (0 : Int32) = nI 0 by decide, nI_eq (by omega) (by decide)] at z2
      obtain ⟨q1, q2⟩ := e4 z2
      subst q2
      refine q1.keeps (fun v3 f3 r3 => sp_X8_goes (k := 0) (o := 4) r3 (by omega) (by decide) (by decide) (by decide) (fun v2 f2 r2 => ?_))
      rw [nI_1, nI_add]
      have cp : ¬ cpt (opf T1 W s (N + 4)) = 0 := fun e => z (cpt_z e)
      exact n1 (goT T1 s (opf T1 W s (N + 4)) 0 4, nI (m + cpt (opf T1 W s (N + 4)))) st2 v2 (m + cpt (opf T1 W s (N + 4))) ((f.tr f3).tr f2) rfl (by omega) wf2 (fun u => by omega) (fun _ => r2)
end
theorem eq_tick : Both mX7_tick mX8_tick [] := by
  intro x R
  obtain ⟨W, C, S, A, N, n, H, ac, rs, nm⟩ := R.ac
  have E := ac.2.2.2.2
  have hn := E.nums
  have hS : S ≤ 24 := hn.2.2.2.2.2.2.1
  have hW : W ≤ 30 := hn.2.2.2.2.1
  have hC : C ≤ 8 := hn.2.2.2.2.2.1
  have hN : N ≤ W := hn.2.2.2.2.2.2.2.2
  refine v_X7_tick_0 k0 R.1.2.1 (ks0 E.1) ?_
  rw [hn.1, hn.2.1, nI_leI (by omega) (by omega)]
  refine ⟨fun z1 => ⟨fun z2 => ac.rem (fun _ _ => rfl) (fun y ay y1 y2 => ⟨ay.2.1.2.1, ?_⟩), fun z2 => sq_X8_tick rs E.2.2.2 (fun u => absurd z1 u) (fun _ _ => ⟨rfl, R⟩) (fun _ u => absurd (by omega) u)⟩, fun z => sq_X8_tick rs E.2.2.2 (fun _ => ⟨rfl, R⟩) (fun u => absurd u z) (fun u => absurd u z)⟩
  rw [ay.2.2.2.2.nums.2.1]
  refine lp_acc (tkS N) (fun s T' => ∀ v, AC x v W C S A N (pn n) T' (push H n (gi x 718)) → GI mX7_tick 38 [some (.ref 0), some (.int (1 <<< (nI N &&& 31))), some (.int (nI s))] [] KW v _) S (gi x 718) ?_ (fun s T' hs n1 => ?_) y ay
  · intro v av
    have hv := av.2.2.2.2.nums
    refine v_X7_tick_38 k0 av.2.1.2.1 (ks0 E.1) av.2.2.2.2.2.1.2.2.1 (ks3 E.1) ⟨fun _ => ?_, fun z => absurd (by rw [hv.2.2.1]; exact Int32.le_refl _) z⟩
    rw [gi_ui, if_pos ⟨rfl, rfl⟩, hv.2.1, nI_1]
    have a2 := av.now (N' := N + 1) (by omega)
    refine sq_X8_tick (a2.rs rs) E.2.2.2 (fun u => absurd z1 u) (fun _ u => by omega) (fun _ _ z f r2 => ⟨rfl, a2.fin R nm (fun c hc => ?_) f r2⟩)
    rw [uT_ne _ _ (by omega)]
    exact tk_off S hS _ (by omega)
  · intro v av
    have hv := av.2.2.2.2.nums
    obtain ⟨p, e1, e2, e3, e4, e5, e6⟩ := av.2.2.2.2.ser hs
    refine v_X7_tick_38 k0 av.2.1.2.1 (ks0 E.1) av.2.2.2.2.2.1.2.2.1 (ks3 E.1) ⟨fun z => absurd (by rw [hv.2.2.1] at z; exact z) (nI_ge hs (by omega)), fun _ => ⟨vp_in_nI (by omega) (by decide), p, by rw [nI_clamp (by omega)]; exact e1, e2, ?_⟩⟩
    rw [e5, nI_1]
    refine n1 _ rfl _ (av.go hs e1 ((EQx.rf v p).ui) (by decide) (by decide) (by decide) and_in (by rw [gi_ui, if_neg (by omega)]) (fun j h1 h2 => ?_))
    rw [gi_ui, so_goT _ _ _ (by decide) (by decide) h1]
    by_cases c : j = 8
    · rw [if_pos ⟨rfl, c⟩, if_pos c, e3.1 8 (by decide) (by decide)]
    · rw [if_neg (fun v => c v.2), if_neg c, if_neg h2]
      exact e3.1 j h1 h2
theorem eq_gives (a b : Int32) : Both mX7_gives mX8_gives [.int a, .int b] := by
  intro x R
  obtain ⟨W, C, S, A, N, n, H, ac, rs, nm⟩ := R.ac
  have E := ac.2.2.2.2
  have hn := E.nums
  have hS : S ≤ 24 := hn.2.2.2.2.2.2.1
  have hW : W ≤ 30 := hn.2.2.2.2.1
  have hC : C ≤ 8 := hn.2.2.2.2.2.1
  have hN : N ≤ W := hn.2.2.2.2.2.2.2.2
  refine v_X7_gives_0 k0 R.1.2.2.1 (by decide) R.1.2.1 (ks0 E.1) ?_
  rw [nm.1, hn.1, hn.2.1, show nI N + 4 = nI (N + 4) from nI_add N 4]
  refine ⟨fun z => sq_X8_gives rs E.2.2.2 (fun _ => ⟨rfl, R⟩) (fun u => absurd u z), fun z1 => ⟨fun z2 => ?_, fun z => sq_X8_gives rs E.2.2.2 (fun _ => ⟨rfl, R⟩) (fun _ u => absurd u z)⟩⟩
  have hb : ¬ b = -1 := by
    intro e
    rw [e] at z2
    exact absurd z2.2.1 (by decide)
  refine lp_acc (gvS W N a b) (fun s t => ∀ v m, t.2 = nI m → m ≤ 32 * s → (∀ i, i < 62 → t.1 i = gi x 718 i) → (m = 0 → AC x v W C S A N n (gi x 718) H ∧ t.1 = gi x 718) → (¬ m = 0 → AC x v W C S A N (pn n) t.1 (push H n (gi x 718))) → GI mX7_gives 38 [some (.ref 0), some (.int a), some (.int b), some (.int (f_bf (nI (N + 4)))), some (.int t.2), some (.int (nI s)), none, none] [] KW v _) S (gi x 718, 0) ?_ (fun s t hs n1 => ?_) x 0 rfl (by omega) (fun _ _ => rfl) (fun _ => ⟨ac, rfl⟩) (fun u => absurd rfl u)
  · intro v m e1 e2 e3 e4 e5
    have hr : ∃ n' T' H', AC x v W C S A N n' T' H' := by
      by_cases c : m = 0
      · exact ⟨_, _, _, (e4 c).1⟩
      · exact ⟨_, _, _, e5 c⟩
    obtain ⟨n', T', H', av⟩ := hr
    have hv := av.2.2.2.2.nums
    refine v_X7_gives_38 k0 av.2.1.2.1 (ks0 E.1) av.2.2.2.2.2.1.2.2.1 (ks3 E.1) ⟨fun _ => ?_, fun z => absurd (by rw [hv.2.2.1]; exact Int32.le_refl _) z⟩
    refine sq_X8_gives (av.rs rs) E.2.2.2 (fun u => absurd ⟨z1, z2⟩ u) (fun _ _ z m' f i1 i2 i3 i4 => ⟨rfl, ?_⟩)
    have em : m' = m := (nI_eq (by omega) (by omega)).mp (i1.symm.trans e1)
    subst em
    by_cases c : m' = 0
    · exact (e4 c).1.fin R nm (fun _ _ => rfl) f (i3 c).1
    · exact (e5 c).fin R nm (fun c hc => e3 _ (by omega)) f (i4 c)
  · obtain ⟨T1, tot⟩ := t
    intro v m (e1 : tot = nI m) e2 (e3 : ∀ i, i < 62 → T1 i = gi x 718 i) (e4 : m = 0 → AC x v W C S A N n (gi x 718) H ∧ T1 = gi x 718) (e5 : ¬ m = 0 → AC x v W C S A N (pn n) T1 (push H n (gi x 718)))
    subst e1
    have hr : ∃ n' H', AC x v W C S A N n' T1 H' := by
      by_cases c : m = 0
      · obtain ⟨q1, q2⟩ := e4 c
        rw [q2]
        exact ⟨n, H, q1⟩
      · exact ⟨_, _, e5 c⟩
    obtain ⟨n', H', av⟩ := hr
    have hv := av.2.2.2.2.nums
    obtain ⟨p, g1, g2, g3, g4, g5, g6⟩ := av.2.2.2.2.ser hs
    refine v_X7_gives_38 k0 av.2.1.2.1 (ks0 E.1) av.2.2.2.2.2.1.2.2.1 (ks3 E.1) ⟨fun z => absurd (by rw [hv.2.2.1] at z; exact z) (nI_ge hs (by omega)), fun _ => ⟨vp_in_nI (by omega) (by decide), p, by rw [nI_clamp (by omega)]; exact g1, g2, ?_⟩⟩
    rw [g3.1 0 (by decide) (by decide), g3.1 1 (by decide) (by decide), g5, ← opf_eq g6 hW (show N + 4 < 100 by omega), nI_1]
    refine ⟨fun u => n1 (T1, nI m) (if_neg (fun c => u ⟨c.1, Or.inr c.2⟩)) v m rfl (by omega) e3 e4 e5, fun u => ?_⟩
    have stp : gvS W N a b s (T1, nI m) = (goT T1 s (opf T1 W s (N + 4)) 0 4, nI m + nI (cpt (opf T1 W s (N + 4)))) := if_pos ⟨u.1, u.2.resolve_left hb⟩
    have st2 : gvS W N a b s (T1, nI m) = (goT T1 s (opf T1 W s (N + 4)) 0 4, nI (m + cpt (opf T1 W s (N + 4)))) := stp.trans (by rw [nI_add])
    have cl := cpt_le (opf T1 W s (N + 4))
    have e3' : ∀ i, i < 62 → goT T1 s (opf T1 W s (N + 4)) 0 4 i = gi x 718 i := fun i hi => by rw [goT_off _ _ _ (by decide) (by decide) i (by omega)]; exact e3 i hi
    refine ⟨fun z => ?_, fun z => ⟨fun z2' => ?_, fun z2' => ?_⟩⟩
    · have e0 : goT T1 s (opf T1 W s (N + 4)) 0 4 = T1 := by rw [z, goT_0 _ _ _ _ (by decide) (by decide) (by decide)]
      have c0 : cpt (opf T1 W s (N + 4)) = 0 := by rw [z, cpt_0]
      refine n1 (T1, nI m) (stp.trans ?_) v m rfl (by omega) e3 e4 e5
      rw [e0, c0, nI_0, Int32.add_zero]
    · rw [nI_z (by omega)] at z2'
      rw [nI_add]
      exact n1 (goT T1 s (opf T1 W s (N + 4)) 0 4, nI (m + cpt (opf T1 W s (N + 4)))) st2 _ (m + cpt (opf T1 W s (N + 4))) rfl (by omega) e3' (fun u => by omega) (fun _ => (e5 z2').giv hs (by omega) g1)
    · rw [nI_z (by omega)] at z2'
      obtain ⟨q1, q2⟩ := e4 z2'
      subst q2
      refine q1.rem (fun _ _ => rfl) (fun y ay y1 y2 => ?_)
      rw [nI_add]
      have cp : ¬ cpt (opf (gi x 718) W s (N + 4)) = 0 := fun e => z (cpt_z e)
      exact n1 (goT (gi x 718) s (opf (gi x 718) W s (N + 4)) 0 4, nI (m + cpt (opf (gi x 718) W s (N + 4)))) st2 _ (m + cpt (opf (gi x 718) W s (N + 4))) rfl (by omega) e3' (fun u => by omega) (fun _ => ay.giv hs (by omega) ((y2 5 s (by decide)).trans g1))



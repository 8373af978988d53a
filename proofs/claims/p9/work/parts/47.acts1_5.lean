theorem eq_back (a b : Int32) : Both mX7_back mX8_back [.int a, .int b] := by
  intro x R
  obtain ⟨W, C, S, A, N, n, H, ac, rs, nm⟩ := R.ac
  have E := ac.2.2.2.2
  have hn := E.nums
  have hS : S ≤ 24 := hn.2.2.2.2.2.2.1
  have hW : W ≤ 30 := hn.2.2.2.2.1
  have hC : C ≤ 8 := hn.2.2.2.2.2.1
  refine v_X7_back_0 k0 R.1.2.1 (ks0 E.1) E.2.1.2.2.1 (ks3 E.1) ?_
  rw [hn.2.2.1, hn.1, hn.2.1]
  refine ⟨fun z => sq_X8_back rs E.2.2.2 (fun _ => ⟨rfl, R⟩) (fun u => absurd u z) (fun u => absurd u z) (fun u => absurd u z), fun z1 => ⟨fun z2 => ⟨fun u => ?_, fun u => sq_X8_back rs E.2.2.2 (fun v => absurd ⟨z1, z2⟩ v) (fun _ _ _ => ⟨rfl, R⟩) (fun _ _ v => absurd v u) (fun _ _ v => absurd v u)⟩, fun z => sq_X8_back rs E.2.2.2 (fun _ => ⟨rfl, R⟩) (fun _ u => absurd u z) (fun _ u => absurd u z) (fun _ u => absurd u z)⟩⟩
  obtain ⟨s, hs, rfl⟩ := inN (by omega) z1
  obtain ⟨w, hw, rfl⟩ := inN (by omega) z2
  obtain ⟨p, e1, e2, e3, e4, e5, e6⟩ := E.ser hs
  rw [nI_clamp (show s < 2 ^ 31 by omega)]
  refine ⟨vp_in_nI (by omega) (by decide), p, e1, e2, ?_⟩
  rw [e5, ← opf_eq e6 hW (by omega)]
  refine ⟨fun v => ?_, fun v => ac.rem (fun _ _ => rfl) (fun z az z1' z2' => ?_)⟩
  · refine sq_X8_back rs E.2.2.2 (fun v => absurd ⟨z1, z2⟩ v) (fun _ _ v => absurd u v) (fun _ _ _ _ => ⟨?_, R⟩) (fun _ _ _ v' => absurd ?_ v')
    · rw [v, cpt_0]; rfl
    · rw [nI_clamp (by omega), nI_clamp (by omega)]; exact v
  · have a2 := az.giv hs (show w < 100 by omega) ((z2' 5 s (by decide)).trans e1)
    refine sq_X8_back (a2.rs rs) E.2.2.2 (fun v => absurd ⟨z1, z2⟩ v) (fun _ _ v => absurd u v) (fun _ _ _ v' => absurd v' ?_) (fun _ _ _ _ v f r2 => ?_)
    · rw [nI_clamp (by omega), nI_clamp (by omega)]; exact v
    · rw [nI_clamp (show s < 2 ^ 31 by omega), nI_clamp (show w < 2 ^ 31 by omega)] at r2 ⊢
      exact ⟨rfl, a2.fin R nm (fun c hc => goT_nm _ _ _ _ _ _ (by omega)) f r2⟩
theorem eq_retime (a b : Int32) : Both mX7_retime mX8_retime [.int a, .int b] := by
  intro x R
  obtain ⟨W, C, S, A, N, n, H, ac, rs, nm⟩ := R.ac
  have E := ac.2.2.2.2
  have hn := E.nums
  have hS : S ≤ 24 := hn.2.2.2.2.2.2.1
  have hW : W ≤ 30 := hn.2.2.2.2.1
  have hC : C ≤ 8 := hn.2.2.2.2.2.1
  refine v_X7_retime_0 k0 R.1.2.1 (ks0 E.1) ?_
  rw [hn.2.2.1, hn.1]
  refine ⟨fun z => sq_X8_retime rs E.2.2.2 (fun _ => ⟨rfl, R⟩) (fun u => absurd u z) (fun u => absurd u z), fun z1 => ⟨fun z2 => ?_, fun z => sq_X8_retime rs E.2.2.2 (fun _ => ⟨rfl, R⟩) (fun _ u => absurd u z) (fun _ u => absurd u z)⟩⟩
  obtain ⟨s, hs, rfl⟩ := inN (by omega) z1
  obtain ⟨h, hh, rfl⟩ := inN (n := 24) (by decide) z2.2
  obtain ⟨p, e1, e2, e3, e4, e5, e6⟩ := E.ser hs
  refine sp_X7_canRetime R.1 E hs hh (fun y hy => ⟨fun u => ?_, fun u => ?_⟩)
  · have ay := ac.e7 hy
    refine ay.rem (fun _ _ => rfl) (fun z az z1' z2' => ⟨az.2.1.2.1, 5, az.2.2.2.2.2.1.2.2.1, 24, ks3 E.1, vp_in_nI (by omega) (by decide), p, ?_, e2, ?_⟩)
    · have : gr y 5 s = some p := by unfold gr; rw [hy.1]; exact e1
      rw [nI_clamp (by omega), z2' 5 s (by decide)]; exact this
    · have hp : gr z 5 s = some p := by
        have : gr y 5 s = some p := by unfold gr; rw [hy.1]; exact e1
        rw [z2' 5 s (by decide)]; exact this
      have es := az.2.2.2.2.2.2.1.2.2.2.2.2.2.1 s p hs hp
      have a2 := az.one (v := nI h) hs hp (show 2 < 7 by decide) (e6.u2 hh)
      rw [es.1 2 (by decide) (by decide)]
      refine sq_X8_retime (a2.rs rs) E.2.2.2 (fun v => absurd ⟨z1, z2⟩ v) (fun _ _ v => absurd v ?_) (fun _ _ _ v f r2 => ?_)
      · rw [nI_clamp (by omega), nI_clamp (by omega)]; exact u
      · rw [nI_clamp (show s < 2 ^ 31 by omega)] at r2 ⊢
        exact ⟨rfl, a2.fin R nm (fun c hc => uT_ne _ _ (by omega)) f r2⟩
  · have ay := ac.e7 hy
    refine sq_X8_retime (ay.rs rs) E.2.2.2 (fun v => absurd ⟨z1, z2⟩ v) (fun _ _ _ => ⟨rfl, (R.e7 hy).1⟩) (fun _ _ v => absurd ?_ v)
    rw [nI_clamp (by omega), nI_clamp (by omega)]; exact u
theorem eq_hand (a b : Int32) : Both mX7_hand mX8_hand [.int a, .int b] := by
  intro x R
  obtain ⟨W, C, S, A, N, n, H, ac, rs, nm⟩ := R.ac
  have E := ac.2.2.2.2
  have hn := E.nums
  have hS : S ≤ 24 := hn.2.2.2.2.2.2.1
  have hC : C ≤ 8 := hn.2.2.2.2.2.1
  refine v_X7_hand_0 k0 R.1.2.1 (ks0 E.1) R.1.2.2.1 (by decide) E.2.1.2.2.1 (ks3 E.1) ?_
  rw [hn.2.2.1, nm.1]
  refine ⟨fun z => sq_X8_hand rs E.2.2.2 (fun _ => ⟨rfl, R⟩) (fun u => absurd u z) (fun u => absurd u z) (fun u => absurd u z), fun z1 => ⟨fun z2 => ?_, fun z => sq_X8_hand rs E.2.2.2 (fun _ => ⟨rfl, R⟩) (fun _ u => absurd u z) (fun _ u => absurd u z) (fun _ u => absurd u z)⟩⟩
  obtain ⟨s, hs, rfl⟩ := inN (by omega) z1
  obtain ⟨c, hc, rfl⟩ := inN (by omega) z2
  obtain ⟨p, e1, e2, e3, e4, e5, e6⟩ := E.ser hs
  have h01 := e6.2.2.2.2.1
  rw [nI_clamp (show s < 2 ^ 31 by omega)]
  refine ⟨vp_in_nI (by omega) (by decide), p, e1, e2, ?_⟩
  rw [e3.1 4 (by decide) (by decide), e3.1 0 (by decide) (by decide)]
  refine ⟨fun u => ⟨fun u2 => ac.rem (fun _ _ => rfl) (fun z az z1' z2' => ?_), fun u2 => ?_⟩, fun u => ?_⟩
  · have hp : gr z 5 s = some p := (z2' 5 s (by decide)).trans e1
    have es := az.2.2.2.2.2.2.1.2.2.2.2.2.2.1 s p hs hp
    have a2 := az.one (v := nI c) hs hp (show 0 < 7 by decide) (e6.u0 hc)
    rw [es.1 0 (by decide) (by decide)]
    refine sq_X8_hand (a2.rs rs) E.2.2.2 (fun v => absurd ⟨z1, z2⟩ v) (fun _ _ v => absurd v ?_) (fun _ _ _ v => absurd v ?_) (fun _ _ _ _ v f r2 => ?_)
    · rw [nI_clamp (by omega), u]; decide
    · rw [nI_clamp (by omega)]; exact u2
    · rw [nI_clamp (show s < 2 ^ 31 by omega)] at r2 ⊢
      exact ⟨rfl, a2.fin R nm (fun c hc => uT_ne _ _ (by omega)) f r2⟩
  · refine sq_X8_hand rs E.2.2.2 (fun v => absurd ⟨z1, z2⟩ v) (fun _ _ v => absurd v ?_) (fun _ _ _ _ => ⟨rfl, R⟩) (fun _ _ _ v => absurd ?_ v)
    · rw [nI_clamp (by omega), u]; decide
    · rw [nI_clamp (by omega)]; exact u2
  · refine sq_X8_hand rs E.2.2.2 (fun v => absurd ⟨z1, z2⟩ v) (fun _ _ _ => ⟨rfl, R⟩) (fun _ _ v => absurd ?_ v) (fun _ _ v => absurd ?_ v)
    · rw [nI_clamp (by omega)]; exact h01.resolve_left u
    · rw [nI_clamp (by omega)]; exact h01.resolve_left u



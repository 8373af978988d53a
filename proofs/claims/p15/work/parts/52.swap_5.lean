theorem eq_partners (a : Int32) : Both mX7_partners mX8_partners [.int a] := by
  intro x R
  obtain ⟨W, C, S, A, N, n, H, ac, rs, nm⟩ := R.ac
  have E := ac.2.2.2.2
  have hn := E.nums
  have hS : S ≤ 24 := hn.2.2.2.2.2.2.1
  have F := E.2.2.2
  have t2 : gi x 718 2 = nI S := F.2.2.2.2.2.1
  refine v_X7_partners_0 k0 R.1.2.1 (ks0 E.1) ?_
  rw [hn.2.2.1]
  refine ⟨fun z => ?_, fun z => v_X8_partners_0 km rs.1.1 km1 ⟨v0 (k := 2) (by decide) rfl rfl, fun u => absurd (by rw [t2, inN' (by omega)] at u; exact u) z, fun _ => ⟨rfl, R⟩⟩⟩
  obtain ⟨s, hs, rfl⟩ := inN (by omega) z
  let c : Nat → Int32 := fun t => bP ((so (gi x 718) s 4 = 0 ∧ so (gi x 718) t 4 = 0) ∧ csw (gi x 718) S N s t)
  refine lp_acc (orP c) (fun t acc => ∀ v, AC x v W C S A N n (gi x 718) H → GI mX7_partners 15 [some (.ref 0), some (.int (nI s)), some (.int acc), some (.int (nI t))] [] KW v _) S 0 ?_ (fun t acc ht n1 => ?_) x ac
  · intro v av
    refine v_X7_partners_15 k0 av.2.1.2.1 (ks0 E.1) ⟨fun _ => ?_, fun z => absurd (by rw [av.2.2.2.2.nums.2.2.1]; exact Int32.le_refl _) z⟩
    have rv := av.rs rs
    refine v_X8_partners_0 km rv.1.1 km1 ⟨v0 (k := 2) (by decide) rfl rfl, fun _ => ?_, fun u => absurd (by rw [rv.2.1, t2, inN' (by omega)]; exact ⟨nI_pos' (by omega), nI_lt hs (by omega)⟩) u⟩
    refine lp_acc (orP c) (fun t acc => ∀ w, RFr v w → RS w (gi x 718) n H → GI mX8_partners 15 [some (.ref 717), some (.int (nI s)), some (.int acc), some (.int (nI t))] [] KW w _) S 0 ?_ (fun t acc ht n1 => ?_) v (RFr.rf v) rv
    · intro w f rw1
      exact v_X8_partners_15 km rw1.1.1 km1 rw1.1.2.2.1 km1 ⟨v0 (k := 2) (by decide) rfl rfl, fun _ => ⟨rfl, av.fin R nm (fun _ _ => rfl) f rw1⟩, fun z => absurd (by rw [rw1.2.1, t2]; exact Int32.le_refl _) z⟩
    · intro w f rw1
      have o1 := (F.2.2.2.2.2.2.2.2.2.2.2.2.1 s hs).2.2.2.2.1
      have o2 := (F.2.2.2.2.2.2.2.2.2.2.2.2.1 t ht).2.2.2.2.1
      have nx0 : ∀ w, RFr v w → RS w (gi x 718) n H → ¬ ((so (gi x 718) s 4 = 0 ∧ so (gi x 718) t 4 = 0) ∧ csw (gi x 718) S N s t) → GI mX8_partners 15 [some (.ref 717), some (.int (nI s)), some (.int (acc ||| 0)), some (.int (nI (t + 1)))] [] KW w _ := fun w f rw1 g => by
        rw [show acc ||| 0 = acc by simp]
        exact n1 acc (by unfold orP; rw [if_pos (bP_f g)]) w f rw1
      refine v_X8_partners_15 km rw1.1.1 km1 rw1.1.2.2.1 km1 ⟨v0 (k := 2) (by decide) rfl rfl, fun z => absurd (by rw [rw1.2.1, t2] at z; exact z) (nI_ge ht (by omega)), fun _ => ⟨l24_nI (by omega) rfl, ?_⟩⟩
      rw [nI_1, rw1.2.1, nI_clamp (show s < 2 ^ 31 by omega), nI_clamp (show t < 2 ^ 31 by omega)]
      refine ⟨fun z3 => nx0 w f rw1 (fun u => absurd (u.1.1.symm.trans z3) (by decide)), fun z3 => ⟨l24_nI (by omega) rfl, fun z4 => nx0 w f rw1 (fun u => absurd (u.1.2.symm.trans z4) (by decide)), fun z4 => sq_X8_canSwap rw1 F hs ht (fun w2 f2 r2 => ⟨fun z5 => nx0 w2 (f.tr f2) r2 (fun u => bP_z.mp z5 u.2), fun z5 => ?_⟩)⟩⟩
      have yes : csw (gi x 718) S N s t := Classical.byContradiction (fun g => z5 (bP_z.mpr g))
      exact n1 _ (by unfold orP; rw [if_neg (fun g => bP_z.mp g ⟨⟨o1.resolve_right z3, o2.resolve_right z4⟩, yes⟩)]) w2 (f.tr f2) r2
  · intro v av
    refine v_X7_partners_15 k0 av.2.1.2.1 (ks0 E.1) ⟨fun z => absurd (by rw [av.2.2.2.2.nums.2.2.1] at z; exact z) (nI_ge ht (by omega)), fun _ => ?_⟩
    rw [nI_1]
    refine sp_X7_whySwapFails av hs ht (fun c1 => ⟨fun _ => ?_, fun z => absurd z (by decide)⟩) (fun c0 c1 w aw => ⟨fun _ => ?_, fun z => absurd z (by decide)⟩) (fun c0 c1 w aw => ⟨fun z => absurd rfl z, fun _ => ?_⟩)
    · exact n1 acc (by unfold orP; rw [if_pos (bP_f (fun u => c1 u.1))]) v av
    · exact n1 acc (by unfold orP; rw [if_pos (bP_f (fun u => c1 u.2))]) w aw
    · exact n1 _ (by unfold orP; rw [if_neg (fun g => bP_z.mp g ⟨c0, c1⟩)]) w aw



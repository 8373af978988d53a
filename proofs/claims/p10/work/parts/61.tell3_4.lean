section
theorem sp_X8_tell_1 {x : Cn} {Q : Int32 → Cn → Prop} {T : TT} {W C S A N : Nat} (M : MRf x 718) (hT : gi x 718 = T) (F : WF T W C S A N) (hW : 0 < W) (hnm : ∀ c, c < C → ∃ v, (0 < v ∧ v < 387420489) ∧ T (54 + c) = nI v) (k : ∀ y, OFr x y → OR y (tl4 T W C S A) 2346 → Q (nI (tl4 T W C S A).length) y) : mSI mX8_tell [.ref 717] KW x Q := by
  have hW30 : W ≤ 30 := F.2.2.1
  have hC : C ≤ 8 := F.2.2.2.2.1
  have hS : S ≤ 24 := F.2.2.2.2.2.2.1
  have hA : A ≤ 24 := F.2.2.2.2.2.2.2.2.1
  have Mg : ∀ y : Cn, OFr x y → MRf y 718 := fun y fy => M.keep fy.1
  have tg : ∀ y : Cn, OFr x y → gi y 718 = T := fun y fy => by rw [← hT]; funext i; exact fy.2 718 i (by decide) (by omega)
  have l4 : ∀ y, OFr x y → OR y (tl3 T W C S) 1482 → GI mX8_tell 242 [some (.ref 717), some (.int 0)] [] KW y Q := by
    intro y fy wy
    refine lp_acc (fun a l => l ++ askS T a) (fun a l => ∀ z, OFr x z → OR z l (1482 + 36 * a) → GI mX8_tell 242 [some (.ref 717), some (.int (nI a))] [] KW z Q) A (tl3 T W C S) ?_ (fun a l ha n1 => ?_) y fy wy
    · intro z fz wz
      refine v_X8_tell_242 km (Mg z fz).1 km1 ⟨v0 (k := 3) (by decide) rfl rfl, fun _ => ?_, fun u => absurd (by rw [tg z fz, F.2.2.2.2.2.2.2.1]; exact Int32.le_refl _) u⟩
      rw [wz.1]
      exact k z fz (wz.le (by omega))
    · intro z fz wz
      obtain ⟨⟨cr, hc, ec⟩, ⟨d, hd, ed⟩, ⟨h, hh, eh⟩, -, ⟨f, t, f1, f2, f3, f4⟩, ⟨b, hb9, eb⟩⟩ := F.2.2.2.2.2.2.2.2.2.2.2.2.2 a ha
      obtain ⟨v, ⟨hv0, hv1⟩, hv2⟩ := hnm cr hc
      have ea : askS T a = askP v d h (ao T a 3) f t b := by
        unfold askS nmv
        rw [ec, ed, eh, f3, f4, eb, nI_clamp (by omega), nI_clamp (by omega), nI_clamp (by omega), nI_clamp (by omega), nI_clamp (by omega), nI_clamp (by omega), hv2, nI_clamp (by omega)]
      have ib : (350 : Int32) + 7 * nI a = nI (350 + 7 * a) := by
        have := ix2 a (v := 0) 0 rfl
        rw [Int32.add_zero] at this
        exact this
      refine v_X8_tell_242 km (Mg z fz).1 km1 ⟨v0 (k := 3) (by decide) rfl rfl, fun u => absurd (by rw [tg z fz, F.2.2.2.2.2.2.2.1] at u; exact u) (nI_ge ha (by omega)), fun _ => ?_⟩
      rw [ib, nI_1]
      refine sp_X8_saysCommon (j := 35) (m := 4) (f0 := 4) (way := ao T a 3) T (tg z fz) (by omega) (by decide) ec ed eh rfl f3 f4 (by omega) hv1 hv2 hd (by omega) (by omega) (by omega) (by decide) (by decide) (Mg z fz) wz (by omega) (fun y1 g1 w1 => ⟨718, (Mg y1 (fz.tr g1)).2.2.1, 518, km1, l24_nI (by omega) rfl, ?_⟩)
      rw [tg y1 (fz.tr g1), nI_clamp (by omega), eb, show nI b ≤ 0 ↔ b ≤ 0 from nI_leI (b := 0) (by omega) (by decide)]
      have fin : ∀ (y2 : Cn) B2, OFr x y2 → OR y2 (l ++ comP (wd 35) v d h (ao T a 3) f t ++ (if b = 0 then [] else wd 36 ++ numL b)) B2 → B2 + 1 ≤ 1482 + 36 * (a + 1) → mSV mX8_says [.ref 717, .int 59] KW y2 (fun y_11 => GI mX8_tell 242 [some (.ref 717), some (.int (nI (a + 1)))] [] KW y_11 Q) := by
        intro y2 B2 G2 w2 hB2
        refine sp_X8_says (n := 59) (by decide) (Mg y2 G2) w2 (by omega) (fun y3 g3 w3 => n1 _ rfl y3 (G2.tr g3) ?_)
        have e : l ++ comP (wd 35) v d h (ao T a 3) f t ++ (if b = 0 then [] else wd 36 ++ numL b) ++ [59] = l ++ askS T a := by
          rw [ea]
          simp only [askP, List.append_assoc]
        rw [e] at w3
        exact w3.le (by omega)
      have G1 := fz.tr g1
      refine ⟨fun u => ⟨fun _ => fin y1 _ G1 (by rw [if_pos (by omega), List.append_nil]; exact w1) (by omega), fun u2 => absurd u u2⟩, fun u => sp_X8_saysText (j := 36) (m := 4) (mSq_at (by decide)) (by decide) (Mg y1 G1) w1 (by omega) (fun y2 g2 w2 => ⟨718, (Mg y2 (G1.tr g2)).2.2.1, 518, km1, l24_nI (by omega) rfl, ?_⟩)⟩
      rw [tg y2 (G1.tr g2), eb, show nI b ≤ 0 ↔ b ≤ 0 from nI_leI (b := 0) (by omega) (by decide)]
      refine ⟨fun u2 => absurd u2 u, fun _ => sp_X8_saysNumber (n := b) (by omega) (Mg y2 (G1.tr g2)) w2 (by omega) (fun y3 g3 w3 => fin y3 (1482 + 36 * a + 23 + 4 + 4 + 2) (G1.tr (g2.tr g3)) ?_ (by omega))⟩
      rw [if_neg (by omega), ← List.append_assoc]
      exact w3
  have l3 : ∀ y, OFr x y → OR y (tl2 T W C) 594 → GI mX8_tell 188 [some (.ref 717), some (.int 0)] [] KW y Q := by
    intro y fy wy
    refine lp_acc (fun s l => l ++ serT T s) (fun s l => ∀ z, OFr x z → OR z l (594 + 37 * s) → GI mX8_tell 188 [some (.ref 717), some (.int (nI s))] [] KW z Q) S (tl2 T W C) ?_ (fun s l hs n1 => ?_) y fy wy
    · intro z fz wz
      exact v_X8_tell_188 km (Mg z fz).1 km1 ⟨v0 (k := 2) (by decide) rfl rfl, fun _ => l4 z fz (wz.le (by omega)), fun u => absurd (by rw [tg z fz, F.2.2.2.2.2.1]; exact Int32.le_refl _) u⟩
    · intro z fz wz
      obtain ⟨⟨cr, hc, ec⟩, ⟨d, hd, ed⟩, ⟨h, hh, eh⟩, -, o4, ⟨f, t, f1, f2, f3, f4⟩, -⟩ := F.2.2.2.2.2.2.2.2.2.2.2.2.1 s hs
      obtain ⟨v, ⟨hv0, hv1⟩, hv2⟩ := hnm cr hc
      have es : serT T s = serP v d h (so T s 3) f t (so T s 4) := by
        unfold serT nmv
        rw [ec, ed, eh, f3, f4, nI_clamp (by omega), nI_clamp (by omega), nI_clamp (by omega), nI_clamp (by omega), nI_clamp (by omega), hv2, nI_clamp (by omega)]
      have ib : (62 : Int32) + 12 * nI s = nI (62 + 12 * s) := by
        have := ix1 s (v := 0) 0 rfl
        rw [Int32.add_zero] at this
        exact this
      refine v_X8_tell_188 km (Mg z fz).1 km1 ⟨v0 (k := 2) (by decide) rfl rfl, fun u => absurd (by rw [tg z fz, F.2.2.2.2.2.1] at u; exact u) (nI_ge hs (by omega)), fun _ => ?_⟩
      rw [ib, nI_1]
      refine sp_X8_saysCommon (j := 31) (m := 7) (f0 := 5) (way := so T s 3) T (tg z fz) (by omega) (by decide) ec ed eh rfl f3 f4 (by omega) hv1 hv2 hd (by omega) (by omega) (by omega) (by decide) (by decide) (Mg z fz) wz (by omega) (fun y1 g1 w1 => ⟨718, (Mg y1 (fz.tr g1)).2.2.1, 518, km1, l24_nI (by omega) rfl, ?_⟩)
      have G1 := fz.tr g1
      rw [tg y1 G1, nI_clamp (by omega)]
      refine ⟨fun u => sp_X8_saysText (j := 34) (m := 1) (mSq_at (by decide)) (by decide) (Mg y1 G1) w1 (by omega) (fun y2 g2 w2 => n1 _ rfl y2 (G1.tr g2) ?_), fun u => sp_X8_saysText (j := 33) (m := 5) (mSq_at (by decide)) (by decide) (Mg y1 G1) w1 (by omega) (fun y2 g2 w2 => n1 _ rfl y2 (G1.tr g2) ?_)⟩
      · rw [es]
        unfold serP
        rw [if_neg u, ← List.append_assoc]
        exact w2.le (by omega)
      · rw [es]
        unfold serP
        rw [if_pos u, ← List.append_assoc]
        exact w2.le (by omega)
  have l2 : ∀ y, OFr x y → OR y (tl1 T W) 466 → GI mX8_tell 152 [some (.ref 717), some (.int 0)] [] KW y Q := by
    intro y fy wy
    refine lp_acc (fun c l => l ++ carP (nmv T c)) (fun cr l => ∀ z, OFr x z → OR z l (466 + 16 * cr) → GI mX8_tell 152 [some (.ref 717), some (.int (nI cr))] [] KW z Q) C (tl1 T W) ?_ (fun cr l hc n1 => ?_) y fy wy
    · intro z fz wz
      exact v_X8_tell_152 km (Mg z fz).1 km1 ⟨v0 (k := 1) (by decide) rfl rfl, fun _ => l3 z fz (wz.le (by omega)), fun u => absurd (by rw [tg z fz, F.2.2.2.1]; exact Int32.le_refl _) u⟩
    · intro z fz wz
      obtain ⟨v, ⟨hv0, hv1⟩, hv2⟩ := hnm cr hc
      have ec : nmv T cr = v := by
        unfold nmv
        rw [hv2, nI_clamp (by omega)]
      refine v_X8_tell_152 km (Mg z fz).1 km1 ⟨v0 (k := 1) (by decide) rfl rfl, fun u => absurd (by rw [tg z fz, F.2.2.2.1] at u; exact u) (nI_ge hc (by omega)), fun _ => ?_⟩
      rw [nI_1]
      refine sp_X8_saysText (j := 30) (m := 8) (mSq_at (by decide)) (by decide) (Mg z fz) wz (by omega) (fun y1 g1 w1 => sp_X8_saysName (v := v) (by omega) hv1 (by rw [tg y1 (fz.tr g1)]; exact hv2) (Mg y1 (fz.tr g1)) w1 (by omega) (fun y2 g2 w2 => sp_X8_says (n := 59) (by decide) (Mg y2 (fz.tr (g1.tr g2))) w2 (by omega) (fun y3 g3 w3 => n1 _ rfl y3 (fz.tr (g1.tr (g2.tr g3))) ?_)))
      have e : l ++ wq (mSq 30) ++ nmL v ++ [59] = l ++ carP (nmv T cr) := by
        rw [ec]
        simp only [carP, List.append_assoc]
      rw [e] at w3
      exact w3.le (by omega)
  have l1 : ∀ y, OFr x y → OR y (tl0 W) 10 → GI mX8_tell 40 [some (.ref 717), some (.int 0)] [] KW y Q := by
    intro y fy wy
    refine lp_acc (fun h l => l ++ limT T h) (fun h l => ∀ z, OFr x z → OR z l (10 + 19 * h) → GI mX8_tell 40 [some (.ref 717), some (.int (nI h))] [] KW z Q) 24 (tl0 W) ?_ (fun h l hh n1 => ?_) y fy wy
    · intro z fz wz
      exact v_X8_tell_40 km (Mg z fz).1 km1 ⟨fun _ => l2 z fz wz, fun u => absurd (Int32.le_refl _) u⟩
    · intro z fz wz
      obtain ⟨a, b, ha, hb', ea, eb⟩ := F.2.2.2.2.2.2.2.2.2.2.2.1 h hh
      have put : ¬ (T (6 + 2 * h) = 4 ∧ T (7 + 2 * h) = 4) → mSV mX8_saysText [.ref 717, .ref (mSB + 28)] KW z (fun y_4 => mSV mX8_saysNumber [.ref 717, .int (nI h)] KW y_4 (fun y_5 => mSV mX8_says [.ref 717, .int 32] KW y_5 (fun y_6 => gr y_6 717 1 = some 718 ∧ mSV mX8_saysNumber [.ref 717, .int (gi y_6 718 (6 + 2 * h))] KW y_6 (fun y_8 => mSV mX8_saysText [.ref 717, .ref (mSB + 29)] KW y_8 (fun y_9 => gr y_9 717 1 = some 718 ∧ mSV mX8_saysNumber [.ref 717, .int (gi y_9 718 (7 + 2 * h))] KW y_9 (fun y_12 => mSV mX8_says [.ref 717, .int 59] KW y_12 (fun y_13 => GI mX8_tell 40 [some (.ref 717), some (.int (nI (h + 1)))] [] KW y_13 Q))))))) := by
        intro hne
        have el : limT T h = limP h a b := by
          unfold limT
          rw [if_neg hne, ea, eb, nI_clamp (by omega), nI_clamp (by omega)]
        refine sp_X8_saysText (j := 28) (m := 6) (mSq_at (by decide)) (by decide) (Mg z fz) wz (by omega) (fun y1 g1 w1 => sp_X8_saysNumber (n := h) (by omega) (Mg y1 (fz.tr g1)) w1 (by omega) (fun y2 g2 w2 => sp_X8_says (n := 32) (by decide) (Mg y2 (fz.tr (g1.tr g2))) w2 (by omega) (fun y3 g3 w3 => ⟨(Mg y3 (fz.tr (g1.tr (g2.tr g3)))).1, ?_⟩)))
        have G3 := fz.tr (g1.tr (g2.tr g3))
        rw [tg y3 G3, ea]
        refine sp_X8_saysNumber (n := a) (by omega) (Mg y3 G3) w3 (by omega) (fun y4 g4 w4 => sp_X8_saysText (j := 29) (m := 4) (mSq_at (by decide)) (by decide) (Mg y4 (G3.tr g4)) w4 (by omega) (fun y5 g5 w5 => ⟨(Mg y5 (G3.tr (g4.tr g5))).1, ?_⟩))
        have G5 := G3.tr (g4.tr g5)
        rw [tg y5 G5, eb]
        refine sp_X8_saysNumber (n := b) (by omega) (Mg y5 G5) w5 (by omega) (fun y6 g6 w6 => sp_X8_says (n := 59) (by decide) (Mg y6 (G5.tr g6)) w6 (by omega) (fun y7 g7 w7 => n1 _ rfl y7 (G5.tr (g6.tr g7)) ?_))
        have e : l ++ wq (mSq 28) ++ numL h ++ [32] ++ numL a ++ wq (mSq 29) ++ numL b ++ [59] = l ++ limT T h := by
          rw [el]
          simp only [limP, List.append_assoc]
        rw [e] at w7
        exact w7.le (by omega)
      refine v_X8_tell_40 km (Mg z fz).1 km1 ⟨fun u => absurd u (nI_ge (b := 24) hh (by decide)), fun _ => ?_⟩
      rw [ixh1, ixh, nI_clamp (show 6 + 2 * h < 2 ^ 31 by omega), nI_clamp (show 7 + 2 * h < 2 ^ 31 by omega), nI_1, tg z fz]
      have i7 : vp_in (nI (7 + 2 * h)) 518 := vp_in_nI (by omega) (by decide)
      refine ⟨vp_in_nI (by omega) (by decide), fun u => mSV_mono (put (fun g => u g.1)) (fun y1 q1 => mSV_mono q1 (fun y2 q2 => mSV_mono q2 (fun y3 q3 => ⟨q3.1, mSV_mono q3.2 (fun y4 q4 => mSV_mono q4 (fun y5 q5 => ⟨q5.1, i7, q5.2⟩))⟩))), fun u => ⟨i7, fun u2 => put (fun g => u2 g.2), fun u2 => ?_⟩⟩
      have el : limT T h = [] := by
        unfold limT
        rw [if_pos ⟨u, u2⟩]
      exact n1 l (by rw [el, List.append_nil]) z fz (wz.le (by omega))
  have w0 : OR (ui x 717 22 0) [] 0 := ⟨by rw [gi_ui, if_pos ⟨rfl, rfl⟩]; rfl, fun i hi => absurd hi (Nat.not_lt_zero _), Nat.le_refl _⟩
  have f0 : OFr x (ui x 717 22 0) := ⟨rfl, fun a j a1 a2 => by rw [gi_ui, if_neg a2]⟩
  have gW : gi x 718 0 = nI W := by rw [hT]; exact F.1
  refine v_X8_tell_0 km M.1 km1 ⟨v0 (k := 0) (by decide) rfl rfl, fun _ => sp_X8_saysText (j := 27) (m := 6) (mSq_at (by decide)) (by decide) (Mg _ f0) w0 (by omega) (fun y1 f1 w1 => ⟨(Mg _ (f0.tr f1)).1, ?_⟩), fun u => absurd (by rw [gW]; exact nI_lt (a := 0) hW (by omega)) u⟩
  rw [tg _ (f0.tr f1), F.1]
  refine sp_X8_saysNumber (by omega) (Mg _ (f0.tr f1)) w1 (by omega) (fun y2 f2 w2 => sp_X8_says (n := 59) (by decide) (Mg _ (f0.tr (f1.tr f2))) w2 (by omega) (fun y3 f3 w3 => l1 y3 (f0.tr (f1.tr (f2.tr f3))) ?_))
  have e : [] ++ wq (mSq 27) ++ numL W ++ [59] = tl0 W := by
    simp only [tl0, List.nil_append]
  rw [e] at w3
  exact w3.le (by omega)
end
set_option maxHeartbeats 2000000 in
theorem v_X7_tell_0 {K : Sh} {x : Cn} {Q : Int32 → Cn → Prop} {b0 : Nat} {b0_2 : Nat} {b0_10 : Nat} {b0_3 : Nat} (k_b0 : kk K b0 = some (7, 0)) (g_b0_2 : gr x b0 2 = some b0_2) (k_b0_2 : kk K b0_2 = some (4, 0)) (g_b0_10 : gr x b0 10 = some b0_10) (g_b0_3 : gr x b0 3 = some b0_3) (k_b0_10 : kk K b0_10 = some (6, 0)) (K0 : ((0 < gi x b0_2 0) → (mSI mX6_write [.ref b0_10, .ref b0_2, .ref b0_3] K x (fun r_3 y_2 => Q r_3 y_2))) ∧ (¬ (0 < gi x b0_2 0) → (Q (-2) x))) : mSI mX7_tell [.ref b0] K x Q := by
  refine s_I (by decide) (by simp [Value.category]) (Nat.le_of_ble_eq_true rfl) ?_
  show mGM mX7_tell 0 [some (.ref b0)] [] (hp K x) (PI K Q)
  refine r_aload_n (pc := 0) dX7_tell_0 rfl ?_
  refine s_VI (pc := 1) mX7_hasText (ci := 7) (a := b0) (As := []) dX7_tell_1 lk_X7_121 in_X7_hasText mo_X7_hasText ⟨by decide, rfl⟩ ⟨by decide, by decide⟩ (Nat.le_of_ble_eq_true rfl) k_b0 (sp_X7_hasText k_b0 g_b0_2 k_b0_2 ?_)
  refine r_if_ne (pc := 4) (tgt := 10) dX7_tell_4 (by decide) (fun q => ?_) (fun q => ?_)
  · have q := b2i_nz q
    have K0 := K0.1 q
    refine r_aload_n (pc := 10) dX7_tell_10 rfl ?_
    refine s_getR (pc := 11) dX7_tell_11 fl_X7_61 rfl k_b0 g_b0_10 ?_
    refine r_aload_n (pc := 14) dX7_tell_14 rfl ?_
    refine s_getR (pc := 15) dX7_tell_15 fl_X7_20 rfl k_b0 g_b0_2 ?_
    refine r_aload_n (pc := 18) dX7_tell_18 rfl ?_
    refine s_getR (pc := 19) dX7_tell_19 fl_X7_27 rfl k_b0 g_b0_3 ?_
    refine s_VI (pc := 22) mX6_write (ci := 6) (a := b0_10) (As := [.ref b0_2, .ref b0_3]) dX7_tell_22 lk_X7_379 in_X6_write mo_X6_write ⟨by decide, rfl⟩ ⟨by decide, by decide⟩ (Nat.le_of_ble_eq_true rfl) k_b0_10 (mSI_mono K0 (fun r_3 y_2 K0 => ?_))
    exact s_iret rfl dX7_tell_25 K0
  · have q := (b2i_z _).mp q
    have K0 := K0.2 q
    refine r_bipush (pc := 7) (v := (-2)) dX7_tell_7 (by decide) ?_
    exact s_iret rfl dX7_tell_9 K0
theorem eq_tell : Both mX7_tell mX8_tell [] := by
  intro x R
  obtain ⟨W, C, S, A, N, E, nm, hs⟩ := R.sea
  have hn := E.nums
  have hW30 : W ≤ 30 := hn.2.2.2.2.1
  have t0 := (Rel.t2 E).1
  have c1 := R.1
  refine v_X7_tell_0 k0 R.1.2.1 (ks0 E.1) R.1.c10 R.1.2.2.1 k175 ?_
  rw [hn.1]
  refine ⟨fun z => sp_X6_write R.1 E nm (fun y fy wy => ?_), fun z => v_X8_tell_0 km R.2.1.1 km1 ⟨v0 (k := 0) (by decide) rfl rfl, fun u => absurd (by rw [t0] at u; exact u) z, fun _ => ⟨rfl, R⟩⟩⟩
  have hW : 0 < W := (nI_ltI (a := 0) (b := W) (by decide) (by omega)).mp z
  have My : MRf y 718 := R.2.1.keep fy.1
  have e718 : gi y 718 = gi x 718 := funext (fun i => fy.2 718 i (by decide) (by omega))
  refine sp_X8_tell_1 My e718 E.2.2.2 hW (fun c hc => by obtain ⟨v, h1, h2, -⟩ := nm.2 c hc; exact ⟨v, h1, h2⟩) (fun u fu wu => ⟨rfl, ?_⟩)
  have eq : ∀ a j, a ≠ 176 → ¬ (a = 175 ∧ j = 1) → a ≠ 725 → ¬ (a = 717 ∧ j = 22) → gi u a j = gi x a j := fun a j a1 a2 a3 a4 => (fu.2 a j a3 a4).trans (fy.2 a j a1 a2)
  have er : u.2 = x.2 := fu.1.trans fy.1
  have e8 : gi u 718 = gi x 718 := funext (fun i => eq 718 i (by decide) (by omega) (by decide) (by omega))
  refine ⟨R.1.keep er, R.2.1.keep er, ⟨?_, ?_⟩, R.2.2.2.1.keep (eq 0 1 (by decide) (by omega) (by decide) (by omega)) (eq 717 5 (by decide) (by omega) (by decide) (by omega)) (fun i => eq 1 i (by decide) (by omega) (by decide) (by omega)) (fun i => eq 720 i (by decide) (by omega) (by decide) (by omega)), ⟨(tl4 (gi x 718) W C S A).length, ?_, ?_, wu.1, fun i hi => ?_⟩, W, C, S, A, N, ?_, ?_, ?_⟩
  · trivial
  · trivial
  · have := wy.2.2; omega
  · rw [fu.2 175 1 (by decide) (by omega)]; exact wy.1
  · rw [fu.2 176 i (by decide) (by omega), (wy.2.1 i hi).1, (wu.2.1 i hi).1]
  · rw [e8]; exact E.keep er (fun a j a1 a2 _ => eq a j (by omega) (by omega) (by omega) (by omega))
  · rw [e8]; exact nm.keep (eq 56 0 (by decide) (by omega) (by decide) (by omega)) (fun i => eq 57 i (by decide) (by omega) (by decide) (by omega)) (fun _ _ => rfl)
  · rw [e8]; exact hs.keep c1 er (eq 717 19 (by decide) (by omega) (by decide) (by omega)) (eq 0 5 (by decide) (by omega) (by decide) (by omega)) (fun a j a1 a2 => eq a j (by omega) (by omega) (by omega) (by omega)) (fun i => eq 724 i (by decide) (by omega) (by decide) (by omega)) (fun _ _ => rfl)



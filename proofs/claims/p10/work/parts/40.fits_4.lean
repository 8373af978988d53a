set_option maxHeartbeats 2000000 in
theorem v_X8_blocked_40 {K : Sh} {x : Cn} {Q : Int32 → Cn → Prop} {b0 : Nat} {l1 : Int32} {l2 : Int32} {l3 : Int32} {b0_1 : Nat} {n_b0_1 : Nat} {b0_3 : Nat} {n_b0_3 : Nat} (k_b0 : kk K b0 = some (8, 0)) (g_b0_1 : gr x b0 1 = some b0_1) (k_b0_1 : kk K b0_1 = some (20, n_b0_1)) (g_b0_3 : gr x b0 3 = some b0_3) (k_b0_3 : kk K b0_3 = some (20, n_b0_3)) (K0 : vp_in 2 n_b0_1 ∧ (((gi x b0_1 2) ≤ l3 → (Q l2 x)) ∧ (¬ (gi x b0_1 2) ≤ l3 → ((l24 l1 n_b0_3) ∧ (mSI mX8_canAsk [.ref b0, .int l1, .int (ao (gi x b0_3) (l1 : Int32).toNatClampNeg 2), .int l3] K x (fun r_5 y_4 => (r_5 = 0 → (GI mX8_blocked 40 [some (.ref b0), some (.int l1), some (.int (l2 ||| 0)), some (.int (l3 + 1))] [] K y_4 Q)) ∧ (¬ r_5 = 0 → (GI mX8_blocked 40 [some (.ref b0), some (.int l1), some (.int (l2 ||| (1 <<< (l3 &&& 31)))), some (.int (l3 + 1))] [] K y_4 Q)))))))) : GI mX8_blocked 40 [some (.ref b0), some (.int l1), some (.int l2), some (.int l3)] [] K x Q := by
  show mGM mX8_blocked 40 [some (.ref b0), some (.int l1), some (.int l2), some (.int l3)] [] (hp K x) (PI K Q)
  refine r_iload_n (pc := 40) dX8_blocked_40 rfl ?_
  refine r_aload_n (pc := 41) dX8_blocked_41 rfl ?_
  refine s_getR (pc := 42) dX8_blocked_42 fl_X8_9 rfl k_b0 g_b0_1 ?_
  refine r_iconst (pc := 45) (v := 2) dX8_blocked_45 (by decide) ?_
  obtain ⟨i_1, K0⟩ := K0
  refine s_iald (pc := 46) dX8_blocked_46 k_b0_1 i_1 ?_
  refine r_icmp_ge (pc := 47) (tgt := 81) dX8_blocked_47 (by decide) (fun q => ?_) (fun q => ?_)
  · have K0 := K0.1 q
    refine r_iload_n (pc := 81) dX8_blocked_81 rfl ?_
    exact s_iret rfl dX8_blocked_82 K0
  · have K0 := K0.2 q
    refine r_iload_n (pc := 50) dX8_blocked_50 rfl ?_
    refine r_aload_n (pc := 51) dX8_blocked_51 rfl ?_
    refine r_iload_n (pc := 52) dX8_blocked_52 rfl ?_
    refine r_aload_n (pc := 53) dX8_blocked_53 rfl ?_
    refine r_iload_n (pc := 54) dX8_blocked_54 rfl ?_
    refine r_iconst (pc := 55) (v := 2) dX8_blocked_55 (by decide) ?_
    obtain ⟨p_3, K0⟩ := K0
    refine s_VI (pc := 56) mX8_ask0 (ci := 8) (a := b0) (As := [.int l1, .int 2]) dX8_blocked_56 lk_X8_284 in_X8_ask0 mo_X8_ask0 ⟨by decide, rfl⟩ ⟨by decide, by decide⟩ (Nat.le_of_ble_eq_true rfl) k_b0 (sr_X8_ask0 k_b0 g_b0_3 k_b0_3 p_3 ⟨by decide, by decide⟩ ?_)
    refine r_iload_n (pc := 59) dX8_blocked_59 rfl ?_
    refine s_VI (pc := 60) mX8_canAsk (ci := 8) (a := b0) (As := [.int l1, .int (ao (gi x b0_3) (l1 : Int32).toNatClampNeg 2), .int l3]) dX8_blocked_60 lk_X8_329 in_X8_canAsk mo_X8_canAsk ⟨by decide, rfl⟩ ⟨by decide, by decide⟩ (Nat.le_of_ble_eq_true rfl) k_b0 (mSI_mono K0 (fun r_5 y_4 K0 => ?_))
    refine r_if_eq (pc := 63) (tgt := 72) dX8_blocked_63 (by decide) (fun q => ?_) (fun q => ?_)
    · have K0 := K0.1 q
      refine r_iconst (pc := 72) (v := 0) dX8_blocked_72 (by decide) ?_
      refine r_ior (pc := 73) dX8_blocked_73 ?_
      refine r_istore_n (pc := 74) dX8_blocked_74 (by decide) ?_
      refine r_iinc (pc := 75) (L := [some (.ref b0), some (.int l1), some (.int (l2 ||| 0)), some (.int l3)]) (v := l3 + 1) dX8_blocked_75 rfl rfl (by decide) ?_
      refine r_goto (pc := 78) (L := [some (.ref b0), some (.int l1), some (.int (l2 ||| 0)), some (.int (l3 + 1))]) (tgt := 40) dX8_blocked_78 (by decide) ?_
      exact r_le (L' := [some (.ref b0), some (.int l1), some (.int (l2 ||| 0)), some (.int (l3 + 1))]) ⟨rfl, ⟨rfl, ⟨rfl, ⟨rfl, trivial⟩⟩⟩⟩ K0
    · have K0 := K0.2 q
      refine r_iconst (pc := 66) (v := 1) dX8_blocked_66 (by decide) ?_
      refine r_iload_n (pc := 67) dX8_blocked_67 rfl ?_
      refine r_ishl (pc := 68) dX8_blocked_68 ?_
      refine r_goto (pc := 69) (tgt := 73) dX8_blocked_69 (by decide) ?_
      refine r_ior (pc := 73) dX8_blocked_73 ?_
      refine r_istore_n (pc := 74) dX8_blocked_74 (by decide) ?_
      refine r_iinc (pc := 75) (L := [some (.ref b0), some (.int l1), some (.int (l2 ||| (1 <<< (l3 &&& 31)))), some (.int l3)]) (v := l3 + 1) dX8_blocked_75 rfl rfl (by decide) ?_
      refine r_goto (pc := 78) (L := [some (.ref b0), some (.int l1), some (.int (l2 ||| (1 <<< (l3 &&& 31)))), some (.int (l3 + 1))]) (tgt := 40) dX8_blocked_78 (by decide) ?_
      exact r_le (L' := [some (.ref b0), some (.int l1), some (.int (l2 ||| (1 <<< (l3 &&& 31)))), some (.int (l3 + 1))]) ⟨rfl, ⟨rfl, ⟨rfl, ⟨rfl, trivial⟩⟩⟩⟩ K0
theorem eq_fits (a : Int32) : Both mX7_fits mX8_fits [.int a] := by
  intro x R
  obtain ⟨W, C, S, A, N, E, -, -⟩ := R.sea
  have hn := E.nums
  have hA : A ≤ 24 := hn.2.2.2.2.2.2.2.1
  have hW : W ≤ 30 := hn.2.2.2.2.1
  have hN : N ≤ W := hn.2.2.2.2.2.2.2.2
  have ia := inN' (v := a) (n := A) (by omega)
  let F : TT → Int32 := fun T => if 0 ≤ a ∧ a < nI A then (if nI N ≤ ao T a.toNatClampNeg 5 then bP (fitA T S N a.toNatClampNeg (ao T a.toNatClampNeg 2).toNatClampNeg 0) else -1) else -2
  have rf : ∀ y, EQx x y 7 → mSI mX8_fits [.ref 717, .int a] KW y (fun r' z => F (gi x 718) = r' ∧ Rel z) := by
    intro y hy
    obtain ⟨R2, eT⟩ := R.e7 hy
    have E2 := E.eqx hy (Or.inl rfl)
    rw [← eT] at E2 ⊢
    have ht := Rel.t2 E2
    refine v_X8_fits_0 km R2.2.1.1 km1 R2.2.1.2.2.1 km1 ⟨v0 (k := 3) (by decide) rfl rfl, ?_⟩
    rw [ht.2.2.2.1, ia]
    refine ⟨fun z => ?_, fun z => ⟨if_neg z, R2⟩⟩
    have eF : F (gi y 718) = (if nI N ≤ ao (gi y 718) a.toNatClampNeg 5 then bP (fitA (gi y 718) S N a.toNatClampNeg (ao (gi y 718) a.toNatClampNeg 2).toNatClampNeg 0) else -1) := if_pos z
    rw [eF]
    obtain ⟨i, hi, rfl⟩ := inN (by omega) z
    rw [nI_clamp (show i < 2 ^ 31 by omega)]
    obtain ⟨-, -, ⟨h, h1, h2⟩, -, ⟨f, l, f1, f2, f3, f4⟩, -⟩ := E2.2.2.2.2.2.2.2.2.2.2.2.2.2.2.2.2 i hi
    refine ⟨l24_nI (by omega) rfl, ?_⟩
    rw [f3, f4, ht.2.2.2.2, ht.1, span_and0 (by omega) f2 hW hN, h2, nI_clamp (show h < 2 ^ 31 by omega)]
    refine ⟨fun w => ?_, fun w => ⟨if_neg (nI_ge w (by omega)), R2⟩⟩
    rw [if_pos (nI_le (by omega) (by omega))]
    exact sp_X8_canAsk R2.2.1 km1 E2.2.2.2 hi h1 wo_0 ⟨fun g => ⟨g, R2⟩, fun g => ⟨(bP_01 _).resolve_left g, R2⟩⟩
  refine v_X7_fits_0 k0 R.1.2.1 (ks0 E.1) E.2.1.2.2.2.1 (ks4 E.1) ?_
  rw [hn.2.2.2.1, hn.2.1]
  refine ⟨fun z => ?_, fun z => ?_⟩
  · have eF : F (gi x 718) = (if nI N ≤ ao (gi x 718) a.toNatClampNeg 5 then bP (fitA (gi x 718) S N a.toNatClampNeg (ao (gi x 718) a.toNatClampNeg 2).toNatClampNeg 0) else -1) := if_pos z
    rw [eF] at rf
    obtain ⟨i, hi, rfl⟩ := inN (by omega) z
    rw [nI_clamp (show i < 2 ^ 31 by omega)] at rf ⊢
    obtain ⟨p, e1, e2, e3, e4⟩ := E.ask hi
    obtain ⟨-, -, ⟨h, h1, h2⟩, -⟩ := e4
    refine ⟨vp_in_nI (by omega) (by decide), p, e1, e2, ?_⟩
    rw [e3 5 (by decide), e3 2 (by decide), h2]
    rw [h2, nI_clamp (show h < 2 ^ 31 by omega)] at rf
    refine ⟨fun w => ?_, fun w => ?_⟩
    · rw [if_pos w] at rf
      exact sp_X4_hasPlaceFor E e2 e3 h1 (fun y hy => ⟨fun g => by have := rf y hy; rwa [g] at this, fun g => by have := rf y hy; rwa [(bP_01 _).resolve_left g] at this⟩)
    · have := rf x (EQx.rf _ _)
      rwa [if_neg w] at this
  · have eF : F (gi x 718) = -2 := if_neg z
    have := rf x (EQx.rf _ _)
    rwa [eF] at this
theorem eq_fitting (a b c d : Int32) : Both mX7_fitting mX8_fitting [.int a, .int b, .int c, .int d] := by
  intro x R
  obtain ⟨W, C, S, A, N, E, -, -⟩ := R.sea
  have hn := E.nums
  have hW : W ≤ 30 := hn.2.2.2.2.1
  have hN : N ≤ W := hn.2.2.2.2.2.2.2.2
  have ic := inN' (v := c) (n := W) (by omega)
  have id := inN' (v := d) (n := W) (by omega)
  have ib : (0 ≤ b ∧ b ≤ 1) ↔ (b = 0 ∨ b = 1) := by
    constructor
    · intro z
      obtain ⟨j, hj, rfl⟩ := nI_of2 (M := 1) (n := 1) (by decide) (Int32.not_lt.mpr z.1) z.2
      have : j = 0 ∨ j = 1 := by omega
      rcases this with rfl | rfl
      · exact Or.inl rfl
      · exact Or.inr rfl
    · rintro (rfl | rfl) <;> decide
  let OK : Prop := (0 < nI W ∧ 0 ≤ a ∧ a < 7) ∧ (b = 0 ∨ b = 1) ∧ (0 ≤ c ∧ c < nI W) ∧ (0 ≤ d ∧ d < nI W) ∧ c ≤ d
  let g : TT → Nat → Int32 → Int32 := fun T => orP (fun h => bP (fitC T S N a h b (f_sb c d) 0))
  have rf : ∀ y, EQx x y 7 → mSI mX8_fitting [.ref 717, .int a, .int b, .int c, .int d] KW y (fun r' z => ((OK → accT (g (gi x 718)) 24 0 = r') ∧ (¬ OK → -2 = r')) ∧ Rel z) := by
    intro y hy
    obtain ⟨R2, eT⟩ := R.e7 hy
    have E2 := E.eqx hy (Or.inl rfl)
    rw [← eT] at E2 ⊢
    have ht := Rel.t2 E2
    refine v_X8_fitting_0 km R2.2.1.1 km1 ⟨v0 (k := 0) (by decide) rfl rfl, ?_⟩
    rw [ht.1, d7, ib, ic, id]
    have no : ¬ OK → ((OK → accT (g (gi y 718)) 24 0 = -2) ∧ (¬ OK → (-2 : Int32) = -2)) ∧ Rel y := fun z => ⟨⟨fun w => absurd w z, fun _ => rfl⟩, R2⟩
    refine ⟨fun z => no (fun w => z w.1), fun z1 => ⟨fun z => no (fun w => z w.2.1), fun z2 => ⟨fun z => no (fun w => z w.2.2.1), fun z3 => ⟨fun z => no (fun w => z w.2.2.2.1), fun z4 => ⟨fun z5 => ?_, fun z => no (fun w => z w.2.2.2.2)⟩⟩⟩⟩⟩
    have ok : OK := ⟨z1, z2, z3, z4, z5⟩
    obtain ⟨f, hf, rfl⟩ := inN (by omega) z3
    obtain ⟨l, hl, rfl⟩ := inN (by omega) z4
    have hfl : f ≤ l := (nI_leI (by omega) (by omega)).mp z5
    refine lp_acc (g (gi y 718)) (fun h n => GI mX8_fitting 50 [some (.ref 717), some (.int a), some (.int b), some (.int (nI f)), some (.int (nI l)), some (.int n), some (.int (nI h))] [] KW y _) 24 0 ?_ (fun h n hh n1 => ?_)
    · exact v_X8_fitting_50 km ⟨fun _ => ⟨⟨fun _ => rfl, fun w => absurd ok w⟩, R2⟩, fun z => absurd (Int32.le_refl _) z⟩
    · refine v_X8_fitting_50 km ⟨fun z => absurd z (nI_ge (b := 24) hh (by decide)), fun _ => ?_⟩
      refine sp_X8_canBe R2.2.1 km1 E2.2.2.2 hh z2 ?_ wo_0 ?_
      · intro i hi w1 _
        rw [tb_span0 f (by omega) l (by omega) i hi] at w1
        have := of_decide_eq_true w1
        omega
      · rw [nI_1, Int32.or_zero, ← sb_span hfl (by omega)]
        exact ⟨fun w => n1 _ (if_pos w), fun w => n1 _ (if_neg w)⟩
  have rfn : ¬ OK → mSI mX8_fitting [.ref 717, .int a, .int b, .int c, .int d] KW x (fun r' z => -2 = r' ∧ Rel z) := fun z => mSI_mono (rf x (EQx.rf _ _)) (fun r y w => ⟨w.1.2 z, w.2⟩)
  refine v_X7_fitting_0 k0 R.1.2.1 (ks0 E.1) ?_
  rw [hn.1]
  refine ⟨fun z => rfn (fun w => z w.1), fun z1 => ⟨fun z => rfn (fun w => z w.2.1), fun z2 => ⟨fun z => rfn (fun w => z w.2.2.1), fun z3 => ⟨fun z => rfn (fun w => z w.2.2.2.1), fun z4 => ⟨fun z5 => ?_, fun z => rfn (fun w => z w.2.2.2.2)⟩⟩⟩⟩⟩
  have ok : OK := ⟨z1, z2, z3, z4, z5⟩
  refine lp_acc (g (gi x 718)) (fun h n => ∀ y, EQx x y 7 → GI mX7_fitting 55 [some (.ref 0), some (.int a), some (.int b), some (.int c), some (.int d), some (.int (f_sb c d)), some (.int n), some (.int (nI h))] [] KW y _) 24 0 ?_ (fun h n hh n1 => ?_) x (EQx.rf _ _)
  · intro y hy
    have c1 := R.1.keep hy.1
    exact v_X7_fitting_55 k0 c1.2.1 (ks0 E.1) ⟨fun _ => mSI_mono (rf y hy) (fun r z w => ⟨w.1.1 ok, w.2⟩), fun z => absurd (Int32.le_refl _) z⟩
  · intro y hy
    have c1 := R.1.keep hy.1
    have E2 := E.eqx hy (Or.inl rfl)
    refine v_X7_fitting_55 k0 c1.2.1 (ks0 E.1) ⟨fun z => absurd z (nI_ge (b := 24) hh (by decide)), fun _ => ?_⟩
    refine sp_X4_hasPlace E2 hh (fun z hz => ?_)
    rw [nI_1]
    exact ⟨fun w => n1 _ (if_pos w) z (hy.tr hz), fun w => n1 _ (if_neg w) z (hy.tr hz)⟩
theorem eq_blocked (a : Int32) : Both mX7_blocked mX8_blocked [.int a] := by
  intro x R
  obtain ⟨W, C, S, A, N, E, -, -⟩ := R.sea
  have hn := E.nums
  have hA : A ≤ 24 := hn.2.2.2.2.2.2.2.1
  have hS : S ≤ 24 := hn.2.2.2.2.2.2.1
  have hW : W ≤ 30 := hn.2.2.2.2.1
  have hN : N ≤ W := hn.2.2.2.2.2.2.2.2
  have ia := inN' (v := a) (n := A) (by omega)
  let g : TT → Nat → Nat → Nat → Int32 → Int32 := fun T i h => orP (fun s => bP (fitA T S N i h (1 <<< (nI s &&& 31))))
  let F : TT → Int32 := fun T => if 0 ≤ a ∧ a < nI A then (if bP (fitA T S N a.toNatClampNeg (ao T a.toNatClampNeg 2).toNatClampNeg 0) = 0 then accT (g T a.toNatClampNeg (ao T a.toNatClampNeg 2).toNatClampNeg) S 0 else 0) else -2
  have rf : ∀ y, EQx x y 7 → mSI mX8_blocked [.ref 717, .int a] KW y (fun r' z => F (gi x 718) = r' ∧ Rel z) := by
    intro y hy
    obtain ⟨R2, eT⟩ := R.e7 hy
    have E2 := E.eqx hy (Or.inl rfl)
    rw [← eT] at E2 ⊢
    have ht := Rel.t2 E2
    refine v_X8_blocked_0 km R2.2.1.1 km1 R2.2.1.2.2.1 km1 ⟨v0 (k := 3) (by decide) rfl rfl, ?_⟩
    rw [ht.2.2.2.1, ia]
    refine ⟨fun z => ?_, fun z => ⟨if_neg z, R2⟩⟩
    have eF : F (gi y 718) = (if bP (fitA (gi y 718) S N a.toNatClampNeg (ao (gi y 718) a.toNatClampNeg 2).toNatClampNeg 0) = 0 then accT (g (gi y 718) a.toNatClampNeg (ao (gi y 718) a.toNatClampNeg 2).toNatClampNeg) S 0 else 0) := if_pos z
    rw [eF]
    obtain ⟨i, hi, rfl⟩ := inN (by omega) z
    rw [nI_clamp (show i < 2 ^ 31 by omega)]
    obtain ⟨-, -, ⟨h, h1, h2⟩, -, ⟨f, l, f1, f2, f3, f4⟩, -⟩ := E2.2.2.2.2.2.2.2.2.2.2.2.2.2.2.2.2 i hi
    refine ⟨l24_nI (by omega) rfl, ?_⟩
    rw [h2, nI_clamp (show h < 2 ^ 31 by omega)]
    refine ⟨fun w => ?_, fun _ => sp_X8_canAsk R2.2.1 km1 E2.2.2.2 hi h1 wo_0 ⟨fun w => ?_, fun w => ⟨if_neg w, R2⟩⟩⟩
    · rw [f3, f4, ht.2.2.2.2, ht.1, span_and0 (by omega) f2 hW hN] at w
      rw [if_neg]
      · exact ⟨rfl, R2⟩
      · rw [bP_t]
        · decide
        · intro j hj w1 w2
          rw [f3, f4, tb_sb0 f (by omega) l (by omega) (by omega) j hj] at w1
          have := of_decide_eq_true w1
          omega
    · rw [if_pos w]
      refine lp_acc (g (gi y 718) i h) (fun s n => GI mX8_blocked 40 [some (.ref 717), some (.int (nI i)), some (.int n), some (.int (nI s))] [] KW y _) S 0 ?_ (fun s n hs n1 => ?_)
      · exact v_X8_blocked_40 km R2.2.1.1 km1 R2.2.1.2.2.1 km1 ⟨v0 (k := 2) (by decide) rfl rfl, fun _ => ⟨rfl, R2⟩, fun z => absurd (by rw [ht.2.2.1]; exact Int32.le_refl _) z⟩
      · refine v_X8_blocked_40 km R2.2.1.1 km1 R2.2.1.2.2.1 km1 ⟨v0 (k := 2) (by decide) rfl rfl, fun z => absurd (by rw [ht.2.2.1] at z; exact z) (nI_ge hs (by omega)), fun _ => ⟨l24_nI (by omega) rfl, ?_⟩⟩
        rw [nI_clamp (show i < 2 ^ 31 by omega), h2, nI_1, Int32.or_zero]
        exact sp_X8_canAsk R2.2.1 km1 E2.2.2.2 hi h1 (wo_1 (by omega)) ⟨fun w => n1 _ (if_pos w), fun w => n1 _ (if_neg w)⟩
  refine v_X7_blocked_0 k0 R.1.2.1 (ks0 E.1) E.2.1.2.2.2.1 (ks4 E.1) ?_
  rw [hn.2.2.2.1]
  refine ⟨fun z => ?_, fun z => ?_⟩
  · have eF : F (gi x 718) = (if bP (fitA (gi x 718) S N a.toNatClampNeg (ao (gi x 718) a.toNatClampNeg 2).toNatClampNeg 0) = 0 then accT (g (gi x 718) a.toNatClampNeg (ao (gi x 718) a.toNatClampNeg 2).toNatClampNeg) S 0 else 0) := if_pos z
    rw [eF] at rf
    obtain ⟨i, hi, rfl⟩ := inN (by omega) z
    rw [nI_clamp (show i < 2 ^ 31 by omega)] at rf ⊢
    obtain ⟨p, e1, e2, e3, e4⟩ := E.ask hi
    obtain ⟨-, -, ⟨h, h1, h2⟩, -⟩ := e4
    refine ⟨vp_in_nI (by omega) (by decide), p, e1, e2, ?_⟩
    rw [e3 2 (by decide), h2]
    rw [h2, nI_clamp (show h < 2 ^ 31 by omega)] at rf
    refine sp_X4_hasPlaceFor E e2 e3 h1 (fun y hy => ⟨fun w => ?_, fun w => by have := rf y hy; rwa [if_neg w] at this⟩)
    rw [if_pos w] at rf
    refine lp_acc (g (gi x 718) i h) (fun s n => ∀ y, EQx x y 7 → GI mX7_blocked 44 [some (.ref 0), some (.int (nI i)), some (.ref p), some (.int n), some (.int (nI s))] [] KW y _) S 0 ?_ (fun s n hs n1 => ?_) y hy
    · intro y hy
      have c1 := R.1.keep hy.1
      have hn2 := (E.eqx hy (Or.inl rfl)).nums
      exact v_X7_blocked_44 k0 c1.2.1 (ks0 E.1) e2 ⟨fun _ => rf y hy, fun z => absurd (by rw [hn2.2.2.1]; exact Int32.le_refl _) z⟩
    · intro y hy
      have c1 := R.1.keep hy.1
      have E2 := E.eqx hy (Or.inl rfl)
      have hn2 := E2.nums
      have ep : gr y 6 i = some p := by unfold gr; rw [hy.1]; exact e1
      have e3' := E2.2.2.1.2.2.2.2.2.2.2 i p hi ep
      refine v_X7_blocked_44 k0 c1.2.1 (ks0 E.1) e2 ⟨fun z => absurd (by rw [hn2.2.2.1] at z; exact z) (nI_ge hs (by omega)), fun _ => ?_⟩
      rw [e3' 2 (by decide), h2, nI_1]
      exact sp_X4_hasPlaceFor E2 e2 e3' h1 (fun z hz => ⟨fun w => n1 _ (if_pos w) z (hy.tr hz), fun w => n1 _ (if_neg w) z (hy.tr hz)⟩)
  · have eF : F (gi x 718) = -2 := if_neg z
    have := rf x (EQx.rf _ _)
    rwa [eF] at this



section
theorem sp_X2_countSlots {x : Cn} {Q : Cn → Prop} {T : TT} {W C S A N : Nat} (P : PLf x) (E : SEB x 118 T W C S A N) (k : ∀ y, EQx x y 172 → HLD y T S → Q y) : mSV mX2_countSlots [.ref 117] KW x Q := by
  have hC : C ≤ 8 := E.nums.2.2.2.2.2.1
  have hS : S ≤ 24 := E.nums.2.2.2.2.2.2.1
  have key2 : ∀ c s y, s + c = S → EQx x y 172 → HLD y T s → GV mX2_countSlots 26 [some (.ref 117), some (.int (nI s))] [] KW y Q := by
    intro c
    induction c with
    | zero =>
      intro s y hs hy h
      have E2 := E.eqx hy (Or.inr (Or.inr (by decide)))
      have P2 := P.keep hy.1
      have : s = S := by omega
      subst this
      exact v_X2_countSlots_26 k117 P2.1 (ks0 E.1) P2.2.1 E2.2.1.2.2.1 (ks3 E.1) k172 ⟨fun _ => k y hy h, fun z => absurd (by rw [E2.nums.2.2.1]; exact Int32.le_refl _) z⟩
    | succ c ih =>
      intro s y hs hy h
      have E2 := E.eqx hy (Or.inr (Or.inr (by decide)))
      have P2 := P.keep hy.1
      obtain ⟨p, e1, e2, e3, e4, e5, w⟩ := E2.ser (s := s) (by omega)
      obtain ⟨⟨c0, hc0, ec0⟩, ⟨d0, hd0, ed0⟩, -⟩ := w
      refine v_X2_countSlots_26 k117 P2.1 (ks0 E.1) P2.2.1 E2.2.1.2.2.1 (ks3 E.1) k172 ⟨fun z => absurd (by rw [E2.nums.2.2.1] at z; exact z) (nI_ge (by omega) (by omega)), fun _ => ⟨vp_in_nI (by omega) (by decide), p, by rw [nI_clamp (by omega)]; exact e1, e2, ?_⟩⟩
      rw [e3.1 0 (by decide) (by decide), e3.1 1 (by decide) (by decide), ec0, ed0, show (7 : Int32) = nI 7 by decide, pk_mul, nI_add, nI_clamp (by omega), nI_1]
      exact ⟨vp_in_nI (by omega) (by decide), ih (s + 1) _ (by omega) hy.ui (h.inc (by omega) hd0 ec0 ed0 (fun _ _ => ⟨rfl, rfl⟩))⟩
  have key1 : ∀ c m y, m + c = 56 → EQx x y 172 → (∀ i, i < m → gi y 172 i = 0) → GV mX2_countSlots 2 [some (.ref 117), some (.int (nI m))] [] KW y Q := by
    intro c
    induction c with
    | zero =>
      intro m y hm hy h
      have P2 := P.keep hy.1
      have : m = 56 := by omega
      subst this
      exact v_X2_countSlots_2 k117 P2.2.1 k172 ⟨fun _ => key2 S 0 y (by omega) hy (fun c d hc hd => h _ (by omega)), fun z => absurd (Int32.le_refl _) z⟩
    | succ c ih =>
      intro m y hm hy h
      have P2 := P.keep hy.1
      refine v_X2_countSlots_2 k117 P2.2.1 k172 ⟨fun z => absurd z (nI_ge (b := 56) (by omega) (by decide)), fun _ => ?_⟩
      rw [nI_1, nI_clamp (by omega)]
      refine ⟨vp_in_nI (by omega) (by decide), ih (m + 1) _ (by omega) hy.ui (fun i hi => ?_)⟩
      rw [gi_ui]
      by_cases c1 : i = m
      · rw [if_pos ⟨rfl, c1⟩]
      · rw [if_neg (fun u => c1 u.2)]; exact h i (by omega)
  exact v_X2_countSlots_0 (key1 56 0 x (by omega) (EQx.rf x _) (fun i hi => by omega))
theorem tb_alls : ∀ A, A < 25 → ∀ a, a < 32 → tb (((1 : Int32) <<< (nI A &&& 31)) - 1) a = decide (a < A) := by decide
/-- a series comes, of fields f -/
def adT (T : TT) (S : Nat) (f : Nat → Int32) : TT := fun i => if i = 2 then nI (S + 1) else if 62 + 12 * S ≤ i ∧ i < 74 + 12 * S then f (i - (62 + 12 * S)) else T i
theorem so_adT {T : TT} {S k : Nat} {f : Nat → Int32} (hk : k < 12) : so (adT T S f) S k = f k := by
  unfold so adT
  rw [if_neg (by omega), if_pos (by omega)]
  congr 1
  omega
theorem adT_off {T : TT} {S i : Nat} {f : Nat → Int32} (h2 : i ≠ 2) (h : ¬ (62 + 12 * S ≤ i ∧ i < 74 + 12 * S)) : adT T S f i = T i := by
  unfold adT
  rw [if_neg h2, if_neg h]
theorem so_adT' {T : TT} {S s k : Nat} {f : Nat → Int32} (hk : k < 12) (hs : s ≠ S) : so (adT T S f) s k = so T s k := by
  unfold so
  rw [adT_off (by omega) (by omega)]
theorem WFB.add {T : TT} {W C S A N : Nat} {f : Nat → Int32} (F : WFB T W C S A N) (hS : S < 24) (hw : Wse (adT T S f) C W S) : WFB (adT T S f) W C (S + 1) A N := by
  obtain ⟨w1, w2, w3, w4, w5, w6, w7, w8, w9, w10, w11, w12, w13, w14⟩ := F
  refine ⟨by rw [adT_off (by decide) (by omega)]; exact w1, w2, w3, by rw [adT_off (by decide) (by omega)]; exact w4, w5, if_pos rfl, by omega, by rw [adT_off (by decide) (by omega)]; exact w8, w9, by rw [adT_off (by decide) (by omega)]; exact w10, w11, w12, fun s hs => ?_, fun a ha => (w14 a ha).cg (fun k hk => adT_off (by omega) (by omega))⟩
  by_cases c : s = S
  · rw [c]; exact hw
  · exact (w13 s (by omega)).cg (fun k hk => so_adT' hk c)
theorem SEB.addS {x z : Cn} {q p : Nat} {T : TT} {W C S A N : Nat} {f : Nat → Int32} (E : SEB x q T W C S A N) (hS : S < 24) (hp : gr x (q + 3) S = some p) (h1 : z.2 = x.2) (h2 : ∀ b k, q ≤ b → b < q + 54 → b ≠ p → ¬ (b = q ∧ k = 3) → b ≠ q + 5 → gi z b k = gi x b k) (h3 : gi z q 3 = nI (S + 1)) (h4 : ∀ k, k < 12 → gi z p k = f k) (h8 : ∀ k, 8 ≤ k → k < 12 → f k = 0) (hw : Wse (adT T S f) C W S) : SEB z q (adT T S f) W C (S + 1) A N := by
  have F := E.2.2.2.add hS hw
  obtain ⟨e1, e2, ⟨v0, v1, v2, v3, v4, v5, v6, v7⟩, w1, w2, w3, w4, w5, w6, w7, w8, w9, w10, w11, w12, w13, w14⟩ := E
  obtain ⟨r1, r2, r3, r4, r5, r6, r7, r8, r9⟩ := id e2
  have hg : ∀ b k, gr z b k = gr x b k := fun b k => by unfold gr; rw [h1]
  obtain ⟨j, hj, ej⟩ := r6 S hS
  have ep : p = q + 6 + j := Option.some.inj (hp.symm.trans ej)
  have hT : ∀ i, i ≠ 2 → ¬ (62 + 12 * S ≤ i ∧ i < 74 + 12 * S) → adT T S f i = T i := fun i => adT_off
  refine ⟨e1, e2.keep h1, ⟨?_, ?_, ?_, ?_, ?_, ?_, ?_, ?_⟩, F⟩
  · rw [h2 q 0 (by omega) (by omega) (by omega) (by omega) (by omega), hT 0 (by decide) (by omega)]; exact v0
  · rw [h2 q 1 (by omega) (by omega) (by omega) (by omega) (by omega), hT 4 (by decide) (by omega)]; exact v1
  · rw [h2 q 2 (by omega) (by omega) (by omega) (by omega) (by omega), hT 5 (by decide) (by omega)]; exact v2
  · rw [h3]; exact (if_pos rfl).symm
  · rw [h2 q 4 (by omega) (by omega) (by omega) (by omega) (by omega), hT 3 (by decide) (by omega)]; exact v4
  · intro h hh
    rw [h2 (q + 1) h (by omega) (by omega) (by omega) (by omega) (by omega), h2 (q + 2) h (by omega) (by omega) (by omega) (by omega) (by omega), hT _ (by omega) (by omega), hT _ (by omega) (by omega)]
    exact v5 h hh
  · intro s p' hs hp'
    rw [hg] at hp'
    by_cases c : s = S
    · subst c
      have : p' = p := Option.some.inj (hp'.symm.trans hp)
      subst this
      refine ⟨fun k hk _ => by rw [h4 k hk, so_adT hk], ?_⟩
      unfold bas
      rw [h4 7 (by decide), so_adT (by decide), so_adT (by decide), so_adT (by decide), so_adT (by decide), so_adT (by decide), h8 8 (by decide) (by decide), h8 9 (by decide) (by decide), h8 10 (by decide) (by decide), h8 11 (by decide) (by decide)]
      simp
    · have hne : p' ≠ p := fun e => c (r7 s S (by omega) hS (by rw [hp', hp, e]))
      obtain ⟨j', hj', ej'⟩ := r6 s (by omega)
      have ep' : p' = q + 6 + j' := Option.some.inj (hp'.symm.trans ej')
      exact (v6 s p' (by omega) hp').cg (fun k _ => h2 p' k (by omega) (by omega) hne (by omega) (by omega)) (fun k hk => so_adT' hk c)
  · intro a p' ha hp'
    rw [hg] at hp'
    obtain ⟨j', hj', ej'⟩ := r8 a (by omega)
    have ep' : p' = q + 30 + j' := Option.some.inj (hp'.symm.trans ej')
    exact (v7 a p' ha hp').cg (fun k _ => h2 p' k (by omega) (by omega) (by omega) (by omega) (by omega)) (fun k hk => hT _ (by omega) (by omega))
/-- what an ask is granted -/
def grf (T : TT) (a : Nat) (h : Int32) (k : Nat) : Int32 := if k = 0 then ao T a 0 else if k = 1 then ao T a 1 else if k = 2 then h else if k = 3 then ao T a 3 else if k = 4 then 1 else if k = 5 then (if ao T a 4 < T 4 then T 4 else ao T a 4) else if k = 6 then ao T a 5 else if k = 7 then f_span (ao T a 4) (ao T a 5) &&& f_span (T 4) (T 0 - 1) else 0
abbrev grT (T : TT) (S a : Nat) (h : Int32) : TT := adT T S (grf T a h)
theorem mx_nI {f N : Nat} (hf : f < 2 ^ 31) (hN : N < 2 ^ 31) : (if nI f < nI N then nI N else nI f) = nI (if f < N then N else f) := by
  by_cases c : f < N
  · rw [if_pos c, if_pos (nI_lt c hN)]
  · rw [if_neg c, if_neg (nI_nlt (by omega) hf)]
theorem gr_wk {f l N W : Nat} (h1 : f ≤ l) (h2 : l < W) (h3 : W ≤ 30) (h4 : N ≤ l) : f_sb (nI (if f < N then N else f)) (nI l) = f_span (nI f) (nI l) &&& f_span (nI N) (nI W - 1) := by
  refine tb_ext (fun i hi => ?_)
  have hm : (if f < N then N else f) ≤ l ∧ ∀ i, (if f < N then N else f) ≤ i ↔ f ≤ i ∧ N ≤ i := by
    by_cases c : f < N
    · rw [if_pos c]; exact ⟨h4, fun i => by omega⟩
    · rw [if_neg c]; exact ⟨h1, fun i => by omega⟩
  rw [tb_and, tb_sb0 _ (by omega) l (by omega) hm.1 i hi, tb_span0 f (by omega) l (by omega) i hi, tb_fn h3 (by omega) hi (by omega), ← Bool.decide_and]
  refine decide_eq_decide.mpr ?_
  rw [hm.2]
  omega
theorem Was.gr {T : TT} {W C S A N a h : Nat} (F : WFB T W C S A N) (ha : a < A) (hh : h < 24) (hl : ¬ (ao T a 5).toNatClampNeg < N) : Wse (grT T S a (nI h)) C W S := by
  have hW : W ≤ 30 := F.2.2.1
  obtain ⟨⟨c, hc, ec⟩, ⟨d, hd, ed⟩, -, a3, ⟨f, l, f1, f2, f3, f4⟩, -⟩ := F.2.2.2.2.2.2.2.2.2.2.2.2.2 a ha
  rw [f4, nI_clamp (by omega)] at hl
  have e : ∀ k, k < 12 → so (grT T S a (nI h)) S k = grf T a (nI h) k := fun k hk => so_adT hk
  have z : ∀ k, k < 5 → k ≠ 0 → so (grT T S a (nI h)) S (7 + k) = 0 := fun k hk h0 => by
    rw [e _ (by omega)]
    unfold grf
    rw [if_neg (by omega), if_neg (by omega), if_neg (by omega), if_neg (by omega), if_neg (by omega), if_neg (by omega), if_neg (by omega), if_neg (by omega)]
  refine ⟨⟨c, hc, by rw [e 0 (by decide)]; exact ec⟩, ⟨d, hd, by rw [e 1 (by decide)]; exact ed⟩, ⟨h, hh, by rw [e 2 (by decide)]; rfl⟩, by rw [e 3 (by decide)]; exact a3, by rw [e 4 (by decide)]; exact Or.inr rfl, ⟨if f < N then N else f, l, ?_, f2, ?_, by rw [e 6 (by decide)]; exact f4⟩, ?_, ?_⟩
  · by_cases c : f < N
    · rw [if_pos c]; omega
    · rw [if_neg c]; omega
  · rw [e 5 (by decide)]
    show (if ao T a 4 < T 4 then T 4 else ao T a 4) = _
    rw [f3, F.2.2.2.2.2.2.2.2.2.1]
    exact mx_nI (by omega) (by omega)
  · intro i hi k j hk hj h1 h2
    by_cases c1 : k = 0
    · by_cases c2 : j = 0
      · omega
      · rw [z j hj c2, tb_0] at h2; cases h2
    · rw [z k hk c1, tb_0] at h1; cases h1
  · intro i k hk h1
    by_cases c1 : k = 0
    · subst c1
      rw [e (7 + 0) (by decide)] at h1
      have h1 : tb (f_span (ao T a 4) (ao T a 5) &&& f_span (T 4) (T 0 - 1)) i = true := h1
      rw [tb_and, Bool.and_eq_true] at h1
      by_cases c3 : i < 32
      · have h2 := h1.1
        rw [f3, f4, tb_span0 f (by omega) l (by omega) i c3] at h2
        have := of_decide_eq_true h2
        omega
      · rw [tb_ge _ (by omega)] at h1; cases h1.1
    · rw [z k hk c1, tb_0] at h1; cases h1
end
set_option maxHeartbeats 2000000 in
theorem v_X4_addSeries_0 {K : Sh} {x : Cn} {Q : Nat → Cn → Prop} {b0 : Nat} {b0_7 : Nat} {n_b0_7 : Nat} (k_b0 : kk K b0 = some (4, 0)) (g_b0_7 : gr x b0 7 = some b0_7) (k_b0_7 : kk K b0_7 = some (23, n_b0_7)) (K0 : vp_in (if 23 < (gi x b0 3) then 23 else (gi x b0 3)) n_b0_7 ∧ (∃ c_2 : Nat, gr x b0_7 (((if 23 < (gi x b0 3) then 23 else (gi x b0 3)) : Int32).toNatClampNeg) = some c_2 ∧ (Q c_2 (ui x b0 3 ((if 23 < (gi x b0 3) then 23 else (gi x b0 3)) + 1))))) : mSR mX4_addSeries [.ref b0] K x Q := by
  refine s_R (by decide) (by simp [Value.category]) (Nat.le_of_ble_eq_true rfl) ?_
  show mGM mX4_addSeries 0 [some (.ref b0), none] [] (hp K x) (PR K Q)
  refine r_aload_n (pc := 0) dX4_addSeries_0 rfl ?_
  refine s_getI (pc := 1) dX4_addSeries_1 fl_X4_21 rfl k_b0 ?_
  refine r_bipush (pc := 4) (v := 23) dX4_addSeries_4 (by decide) ?_
  refine r_mmin (pc := 6) dX4_addSeries_6 lk_X4_58 mw_min ⟨by decide, by decide⟩ (Nat.le_of_ble_eq_true rfl) ?_
  refine r_istore_n (pc := 9) dX4_addSeries_9 (by decide) ?_
  refine r_aload_n (pc := 10) (L := [some (.ref b0), some (.int (if 23 < (gi x b0 3) then 23 else (gi x b0 3)))]) dX4_addSeries_10 rfl ?_
  refine r_iload_n (pc := 11) dX4_addSeries_11 rfl ?_
  refine r_iconst (pc := 12) (v := 1) dX4_addSeries_12 (by decide) ?_
  refine r_iadd (pc := 13) dX4_addSeries_13 ?_
  refine s_putI (pc := 14) dX4_addSeries_14 fl_X4_21 rfl rfl k_b0 ?_
  refine r_aload_n (pc := 17) dX4_addSeries_17 rfl ?_
  refine s_getR (pc := 18) dX4_addSeries_18 fl_X4_36 rfl k_b0 g_b0_7 ?_
  refine r_iload_n (pc := 21) dX4_addSeries_21 rfl ?_
  obtain ⟨i_1, K0⟩ := K0
  obtain ⟨c_2, g_3, K0⟩ := K0
  refine s_aald (pc := 22) dX4_addSeries_22 (by decide) rfl k_b0_7 i_1 g_3 ?_
  exact s_aret rfl dX4_addSeries_23 K0

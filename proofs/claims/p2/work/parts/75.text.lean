/-! text: both sides -/
theorem runs_det {b : TT} {n W : Nat} : ∀ d s t t' L L', runs b n W d s t L → runs b n W d s t' L' → t = t' ∧ L = L' := by
  intro d
  induction d with
  | zero => intro s t t' L L' h; exact absurd h (fun z => z)
  | succ d ih =>
    intro s t t' L L' h h'
    rcases h with ⟨a1, a2, a3⟩ | ⟨a1, a2, l, a3, a4⟩
    · rcases h' with ⟨b1, b2, b3⟩ | ⟨b1, b2, l', b3, b4⟩
      · exact ⟨a2.trans b2.symm, a3.trans b3.symm⟩
      · exact absurd a1 b1
    · rcases h' with ⟨b1, b2, b3⟩ | ⟨b1, b2, l', b3, b4⟩
      · exact absurd b1 a1
      · obtain ⟨e1, e2⟩ := ih _ _ _ _ _ a4 b4
        exact ⟨e1, by omega⟩
theorem runs_no {b : TT} {n W : Nat} : ∀ d s t L, runs b n W d s t L → ¬ fails b n W d s := by
  intro d
  induction d with
  | zero => intro s t L h; exact absurd h (fun z => z)
  | succ d ih =>
    intro s t L h f
    obtain ⟨f1, f2⟩ := f
    rcases h with ⟨a1, -⟩ | ⟨a1, a2, l, a3, a4⟩
    · exact f1 a1
    · rcases f2 with f2 | ⟨-, f2⟩
      · exact f2 a2
      · exact ih _ _ _ a4 f2
set_option maxHeartbeats 2000000 in
theorem v_X1_copyFrom_0 {K : Sh} {x : Cn} {Q : Cn → Prop} {b0 : Nat} {b1 : Nat}  (k_b1 : kk K b1 = some (1, 0)) (k_b0 : kk K b0 = some (1, 0)) (K0 : GV mX1_copyFrom 10 [some (.ref b0), some (.ref b1), some (.int 0)] [] K (ui x b0 0 (gi x b1 0)) Q) : mSV mX1_copyFrom [.ref b0, .ref b1] K x Q := by
  refine s_V (by decide) (by simp [Value.category]) (Nat.le_of_ble_eq_true rfl) ?_
  show mGM mX1_copyFrom 0 [some (.ref b0), some (.ref b1), none] [] (hp K x) (PV K Q)
  refine r_aload_n (pc := 0) dX1_copyFrom_0 rfl ?_
  refine r_aload_n (pc := 1) dX1_copyFrom_1 rfl ?_
  refine s_getI (pc := 2) dX1_copyFrom_2 fl_X1_9 rfl k_b1 ?_
  refine s_putI (pc := 5) dX1_copyFrom_5 fl_X1_9 rfl rfl k_b0 ?_
  refine r_iconst (pc := 8) (v := 0) dX1_copyFrom_8 (by decide) ?_
  refine r_istore_n (pc := 9) dX1_copyFrom_9 (by decide) ?_
  exact r_le (L' := [some (.ref b0), some (.ref b1), some (.int 0)]) ⟨rfl, ⟨rfl, ⟨rfl, trivial⟩⟩⟩ K0
set_option maxHeartbeats 2000000 in
theorem v_X1_copyFrom_10 {K : Sh} {x : Cn} {Q : Cn → Prop} {b0 : Nat} {b1 : Nat} {l2 : Int32} {b0_1 : Nat} {n_b0_1 : Nat} {b1_1 : Nat} {n_b1_1 : Nat} (k_b0 : kk K b0 = some (1, 0)) (g_b0_1 : gr x b0 1 = some b0_1) (k_b0_1 : kk K b0_1 = some (20, n_b0_1)) (k_b1 : kk K b1 = some (1, 0)) (g_b1_1 : gr x b1 1 = some b1_1) (k_b1_1 : kk K b1_1 = some (20, n_b1_1)) (K0 : ((Int32.ofNat n_b0_1) ≤ l2 → (Q x)) ∧ (¬ (Int32.ofNat n_b0_1) ≤ l2 → (vp_in l2 n_b1_1 ∧ (vp_in l2 n_b0_1 ∧ (GV mX1_copyFrom 10 [some (.ref b0), some (.ref b1), some (.int (l2 + 1))] [] K (ui x b0_1 (l2 : Int32).toNatClampNeg (gi x b1_1 (l2 : Int32).toNatClampNeg)) Q))))) : GV mX1_copyFrom 10 [some (.ref b0), some (.ref b1), some (.int l2)] [] K x Q := by
  show mGM mX1_copyFrom 10 [some (.ref b0), some (.ref b1), some (.int l2)] [] (hp K x) (PV K Q)
  refine r_iload_n (pc := 10) dX1_copyFrom_10 rfl ?_
  refine r_aload_n (pc := 11) dX1_copyFrom_11 rfl ?_
  refine s_getR (pc := 12) dX1_copyFrom_12 fl_X1_15 rfl k_b0 g_b0_1 ?_
  refine s_alen (pc := 15) dX1_copyFrom_15 k_b0_1 (by decide) ?_
  refine r_icmp_ge (pc := 16) (tgt := 37) dX1_copyFrom_16 (by decide) (fun q => ?_) (fun q => ?_)
  · have K0 := K0.1 q
    exact s_ret rfl dX1_copyFrom_37 K0
  · have K0 := K0.2 q
    refine r_aload_n (pc := 19) dX1_copyFrom_19 rfl ?_
    refine s_getR (pc := 20) dX1_copyFrom_20 fl_X1_15 rfl k_b0 g_b0_1 ?_
    refine r_iload_n (pc := 23) dX1_copyFrom_23 rfl ?_
    refine r_aload_n (pc := 24) dX1_copyFrom_24 rfl ?_
    refine s_getR (pc := 25) dX1_copyFrom_25 fl_X1_15 rfl k_b1 g_b1_1 ?_
    refine r_iload_n (pc := 28) dX1_copyFrom_28 rfl ?_
    obtain ⟨i_2, K0⟩ := K0
    refine s_iald (pc := 29) dX1_copyFrom_29 k_b1_1 i_2 ?_
    obtain ⟨i_3, K0⟩ := K0
    refine s_iast (pc := 30) dX1_copyFrom_30 k_b0_1 i_3 ?_
    refine r_iinc (pc := 31) (v := l2 + 1) dX1_copyFrom_31 rfl rfl (by decide) ?_
    refine r_goto (pc := 34) (L := [some (.ref b0), some (.ref b1), some (.int (l2 + 1))]) (tgt := 10) dX1_copyFrom_34 (by decide) ?_
    exact r_le (L' := [some (.ref b0), some (.ref b1), some (.int (l2 + 1))]) ⟨rfl, ⟨rfl, ⟨rfl, trivial⟩⟩⟩ K0
section
theorem lp_X1_copyFrom {x : Cn} {Q : Cn → Prop} (g1 : gr x 56 1 = some 57) (g2 : gr x 114 1 = some 115) (k : ∀ y, EQx x y 57 → (∀ i, i < 48 → gi y 57 i = gi x 115 i) → Q y) : ∀ d i y, i + d = 48 → EQx x y 57 → (∀ j, j < i → gi y 57 j = gi x 115 j) → GV mX1_copyFrom 10 [some (.ref 56), some (.ref 114), some (.int (nI i))] [] KW y Q := by
  have k57 : kk KW 57 = some (20, 48) := by decide
  have k56 : kk KW 56 = some (1, 0) := by decide
  intro d
  induction d with
  | zero =>
    intro i y hi f h
    have hg : ∀ a j, gr y a j = gr x a j := fun a j => by unfold gr; rw [f.1]
    exact v_X1_copyFrom_10 k56 ((hg _ _).trans g1) k57 k114 ((hg _ _).trans g2) k115 ⟨fun _ => k y f (fun j hj => h j (by omega)), fun z => absurd (nI_le (a := 48) (b := i) (by omega) (by omega)) z⟩
  | succ d ih =>
    intro i y hi f h
    have hg : ∀ a j, gr y a j = gr x a j := fun a j => by unfold gr; rw [f.1]
    refine v_X1_copyFrom_10 k56 ((hg _ _).trans g1) k57 k114 ((hg _ _).trans g2) k115 ⟨fun z => absurd z (nI_ge (a := i) (b := 48) (by omega) (by omega)), fun _ => ⟨vp_in_nI (by omega) (by decide), vp_in_nI (by omega) (by decide), ?_⟩⟩
    rw [nI_clamp (by omega), ← nI_succ]
    refine ih (i + 1) _ (by omega) f.ui (fun j hj => ?_)
    by_cases e : j = i
    · rw [e, gi_ui, if_pos ⟨rfl, rfl⟩]; exact f.2 115 i (by omega)
    · rw [gi_ui, if_neg (by omega)]; exact h j (by omega)
theorem sp_X1_copyFrom {x : Cn} {Q : Cn → Prop} (g1 : gr x 56 1 = some 57) (g2 : gr x 114 1 = some 115) (k : ∀ y, y.2 = x.2 → (∀ a j, a ≠ 57 → ¬ (a = 56 ∧ j = 0) → gi y a j = gi x a j) → gi y 56 0 = gi x 114 0 → (∀ i, i < 48 → gi y 57 i = gi x 115 i) → Q y) : mSV mX1_copyFrom [.ref 56, .ref 114] KW x Q := by
  refine v_X1_copyFrom_0 k114 (by decide) ?_
  refine lp_X1_copyFrom (x := ui x 56 0 (gi x 114 0)) g1 g2 (fun y f h => ?_) 48 0 _ (by omega) (EQx.rf _ 57) (fun j hj => absurd hj (by omega))
  exact k y f.1 (fun a j h1 h2 => by rw [f.2 a j h1, gi_ui, if_neg h2]) (by rw [f.2 56 0 (by omega), gi_ui, if_pos ⟨rfl, rfl⟩]) (fun i hi => by rw [h i hi, gi_ui, if_neg (by omega)])
theorem SRf.r {x z : Cn} {q : Nat} (h : SRf x q) (e : ∀ a k, q ≤ a → a < q + 54 → gr z a k = gr x a k) : SRf z q := by
  obtain ⟨r1, r2, r3, r4, r5, r6, r7, r8, r9⟩ := h
  refine ⟨(e _ _ (by omega) (by omega)).trans r1, (e _ _ (by omega) (by omega)).trans r2, (e _ _ (by omega) (by omega)).trans r3, (e _ _ (by omega) (by omega)).trans r4, (e _ _ (by omega) (by omega)).trans r5, fun s hs => ?_, fun s t hs ht => ?_, fun s hs => ?_, fun s t hs ht => ?_⟩
  · rw [e _ _ (by omega) (by omega)]; exact r6 s hs
  · rw [e _ _ (by omega) (by omega), e _ _ (by omega) (by omega)]; exact r7 s t hs ht
  · rw [e _ _ (by omega) (by omega)]; exact r8 s hs
  · rw [e _ _ (by omega) (by omega), e _ _ (by omega) (by omega)]; exact r9 s t hs ht
theorem CRf.tx {x z : Cn} (h : CRf x) (e : ∀ a k, ¬ (a = 59 ∧ k = 5) → gr z a k = gr x a k) (e5 : gr z 59 5 = some 1) : CRf z := by
  obtain ⟨c0, c1, c2, c3, c4, c5, c6, c7, c8, c9, c10, c11, c12, c13, c14, c15, c16, c17, c18, c19, c20, c21⟩ := h
  refine ⟨(e _ _ (by omega)).trans c0, (e _ _ (by omega)).trans c1, (e _ _ (by omega)).trans c2, (e _ _ (by omega)).trans c3, (e _ _ (by omega)).trans c4, (e _ _ (by omega)).trans c5, (e _ _ (by omega)).trans c6, (e _ _ (by omega)).trans c7, (e _ _ (by omega)).trans c8, (e _ _ (by omega)).trans c9, Or.inr e5, (e _ _ (by omega)).trans c11, (e _ _ (by omega)).trans c12, (e _ _ (by omega)).trans c13, (e _ _ (by omega)).trans c14, (e _ _ (by omega)).trans c15, (e _ _ (by omega)).trans c16, c17.r (fun a k h1 h2 => e a k (by omega)), c18.r (fun a k h1 h2 => e a k (by omega)), fun j hj => (c19 j hj).r (fun a k h1 h2 => e a k (by omega)), fun i hi => ?_, fun i j hi hj => ?_⟩
  · rw [e _ _ (by omega)]; exact c20 i hi
  · rw [e _ _ (by omega), e _ _ (by omega)]; exact c21 i j hi hj
theorem MRf.tx {x z : Cn} (h : MRf x 718) (e : ∀ a k, ¬ (a = 59 ∧ k = 5) → gr z a k = gr x a k) : MRf z 718 := by
  obtain ⟨c0, c1, c2, c3, c4, c5, c6, c7, c8⟩ := h
  exact ⟨(e _ _ (by omega)).trans c0, (e _ _ (by omega)).trans c1, (e _ _ (by omega)).trans c2, (e _ _ (by omega)).trans c3, (e _ _ (by omega)).trans c4, (e _ _ (by omega)).trans c5, (e _ _ (by omega)).trans c6, (e _ _ (by omega)).trans c7, (e _ _ (by omega)).trans c8⟩
theorem Rel.tx {x z : Cn} (R : Rel x) (er : ∀ a k, ¬ (a = 59 ∧ k = 5) → gr z a k = gr x a k) (e5 : gr z 59 5 = some 1) (eq : ∀ a k, ¬ (a = 0 ∧ (k = 1 ∨ k = 7 ∨ k = 8)) → ¬ (59 ≤ a ∧ a ≤ 115) → ¬ (a = 717 ∧ 5 ≤ k ∧ k ≤ 14) → a ≠ 719 → a ≠ 721 → gi z a k = gi x a k) (h1 : gi z 0 1 = nI 0) (h2 : gi z 717 5 = nI 0) : Rel z := by
  obtain ⟨W, C, S, A, N, E, nm, ⟨m, m1, m2, m3, m4⟩⟩ := R.sea
  have e8 : gi z 718 = gi x 718 := funext (fun i => eq 718 i (by omega) (by omega) (by omega) (by omega) (by omega))
  have c1 := R.1
  refine ⟨R.1.tx er e5, R.2.1.tx er, ⟨trivial, trivial⟩, ⟨0, by omega, h1, h2, fun i hi => absurd hi (by omega)⟩, R.2.2.2.2.1.keep (eq 175 1 (by omega) (by omega) (by omega) (by omega) (by omega)) (eq 717 22 (by omega) (by omega) (by omega) (by omega) (by omega)) (fun i => eq 176 i (by omega) (by omega) (by omega) (by omega) (by omega)) (fun i => eq 725 i (by omega) (by omega) (by omega) (by omega) (by omega)), W, C, S, A, N, ?_, ?_, m, m1, ?_, ?_, fun j hj => ?_⟩
  · rw [e8]; exact E.mv (fun a k a1 a2 => er a k (by omega)) (fun a k a1 a2 _ => eq a k (by omega) (by omega) (by omega) (by omega) (by omega)) (fun _ _ => rfl)
  · rw [e8]; exact nm.keep (eq 56 0 (by omega) (by omega) (by omega) (by omega) (by omega)) (fun i => eq 57 i (by omega) (by omega) (by omega) (by omega) (by omega)) (fun _ _ => rfl)
  · rw [eq 717 19 (by omega) (by omega) (by omega) (by omega) (by omega)]; exact m2
  · rw [eq 0 5 (by omega) (by omega) (by omega) (by omega) (by omega)]; exact m3
  · obtain ⟨q, W2, S2, A2, N2, q1, q2, q3⟩ := m4 j hj
    obtain ⟨i, hi, ei⟩ := c1.2.2.2.2.2.2.2.2.2.2.2.2.2.2.2.2.2.2.2.2.1 j (by omega)
    have hq : q = 177 + 54 * i := Option.some.inj (q1.symm.trans ei)
    refine ⟨q, W2, S2, A2, N2, (er _ _ (by omega)).trans q1, ?_, fun c hc => ?_⟩
    · exact q2.mv (fun a k a1 a2 => er a k (by omega)) (fun a k a1 a2 _ => eq a k (by omega) (by omega) (by omega) (by omega) (by omega)) (fun m _ => eq 724 _ (by omega) (by omega) (by omega) (by omega) (by omega))
    · rw [e8, eq 724 _ (by omega) (by omega) (by omega) (by omega) (by omega)]; exact q3 c hc
end
set_option maxHeartbeats 2000000 in
theorem v_X8_text_0 {K : Sh} {x : Cn} {Q : Int32 → Cn → Prop} {b0 : Nat} {b0_2 : Nat} (k_b0 : kk K b0 = some (8, 0)) (g_b0_2 : gr x b0 2 = some b0_2) (K0 : mSI mX8_readAll [.ref b0] K (ur (ui (ui (ui (ui (ui x b0 6 (gi x b0 5)) b0 5 0) b0 7 0) b0 11 0) b0 12 (-1)) b0 3 (some b0_2)) (fun r_2 y_1 => GI mX8_text 41 [some (.ref b0), some (.int r_2), none] [] K y_1 Q)) : mSI mX8_text [.ref b0] K x Q := by
  refine s_I (by decide) (by simp [Value.category]) (Nat.le_of_ble_eq_true rfl) ?_
  show mGM mX8_text 0 [some (.ref b0), none, none] [] (hp K x) (PI K Q)
  refine r_aload_n (pc := 0) dX8_text_0 rfl ?_
  refine r_aload_n (pc := 1) dX8_text_1 rfl ?_
  refine s_getI (pc := 2) dX8_text_2 fl_X8_94 rfl k_b0 ?_
  refine s_putI (pc := 5) dX8_text_5 fl_X8_107 rfl rfl k_b0 ?_
  refine r_aload_n (pc := 8) dX8_text_8 rfl ?_
  refine r_iconst (pc := 9) (v := 0) dX8_text_9 (by decide) ?_
  refine s_putI (pc := 10) dX8_text_10 fl_X8_94 rfl rfl k_b0 ?_
  refine r_aload_n (pc := 13) dX8_text_13 rfl ?_
  refine r_iconst (pc := 14) (v := 0) dX8_text_14 (by decide) ?_
  refine s_putI (pc := 15) dX8_text_15 fl_X8_110 rfl rfl k_b0 ?_
  refine r_aload_n (pc := 18) dX8_text_18 rfl ?_
  refine r_iconst (pc := 19) (v := 0) dX8_text_19 (by decide) ?_
  refine s_putI (pc := 20) dX8_text_20 fl_X8_101 rfl rfl k_b0 ?_
  refine r_aload_n (pc := 23) dX8_text_23 rfl ?_
  refine r_iconst (pc := 24) (v := (-1)) dX8_text_24 (by decide) ?_
  refine s_putI (pc := 25) dX8_text_25 fl_X8_23 rfl rfl k_b0 ?_
  refine r_aload_n (pc := 28) dX8_text_28 rfl ?_
  refine r_aload_n (pc := 29) dX8_text_29 rfl ?_
  refine s_getR (pc := 30) dX8_text_30 fl_X8_13 rfl k_b0 g_b0_2 ?_
  refine s_putR (pc := 33) dX8_text_33 fl_X8_16 rfl rfl k_b0 ?_
  refine r_aload_n (pc := 36) dX8_text_36 rfl ?_
  refine s_VI (pc := 37) mX8_readAll (ci := 8) (a := b0) (As := []) dX8_text_37 lk_X8_259 in_X8_readAll mo_X8_readAll ⟨by decide, rfl⟩ ⟨by decide, by decide⟩ (Nat.le_of_ble_eq_true rfl) k_b0 (mSI_mono K0 (fun r_2 y_1 K0 => ?_))
  refine r_istore_n (pc := 40) dX8_text_40 (by decide) ?_
  exact r_le (L' := [some (.ref b0), some (.int r_2), none]) ⟨rfl, ⟨rfl, trivial⟩⟩ K0
set_option maxHeartbeats 2000000 in
theorem v_X8_text_41 {K : Sh} {x : Cn} {Q : Int32 → Cn → Prop} {b0 : Nat} {l1 : Int32} {b0_1 : Nat} (k_b0 : kk K b0 = some (8, 0)) (g_b0_1 : gr x b0 1 = some b0_1) (K0 : ((gi (ur x b0 3 (some b0_1)) b0 11 = 0) → (GI mX8_text 61 [some (.ref b0), some (.int l1), some (.int 0)] [] K (ur x b0 3 (some b0_1)) Q)) ∧ (¬ (gi (ur x b0 3 (some b0_1)) b0 11 = 0) → (Q (-4) (ur x b0 3 (some b0_1))))) : GI mX8_text 41 [some (.ref b0), some (.int l1), none] [] K x Q := by
  show mGM mX8_text 41 [some (.ref b0), some (.int l1), none] [] (hp K x) (PI K Q)
  refine r_aload_n (pc := 41) dX8_text_41 rfl ?_
  refine r_aload_n (pc := 42) dX8_text_42 rfl ?_
  refine s_getR (pc := 43) dX8_text_43 fl_X8_9 rfl k_b0 g_b0_1 ?_
  refine s_putR (pc := 46) dX8_text_46 fl_X8_16 rfl rfl k_b0 ?_
  refine r_aload_n (pc := 49) dX8_text_49 rfl ?_
  refine s_VI (pc := 50) mX8_good (ci := 8) (a := b0) (As := []) dX8_text_50 lk_X8_104 in_X8_good mo_X8_good ⟨by decide, rfl⟩ ⟨by decide, by decide⟩ (Nat.le_of_ble_eq_true rfl) k_b0 (sp_X8_good k_b0 ?_)
  refine r_if_ne (pc := 53) (tgt := 59) dX8_text_53 (by decide) (fun q => ?_) (fun q => ?_)
  · have q := b2i_nz q
    have K0 := K0.1 q
    refine r_iconst (pc := 59) (v := 0) dX8_text_59 (by decide) ?_
    refine r_istore_n (pc := 60) dX8_text_60 (by decide) ?_
    exact r_le (L' := [some (.ref b0), some (.int l1), some (.int 0)]) ⟨rfl, ⟨rfl, ⟨rfl, trivial⟩⟩⟩ K0
  · have q := (b2i_z _).mp q
    have K0 := K0.2 q
    refine r_bipush (pc := 56) (v := (-4)) dX8_text_56 (by decide) ?_
    exact s_iret rfl dX8_text_58 K0
set_option maxHeartbeats 2000000 in
theorem v_X8_text_61 {K : Sh} {x : Cn} {Q : Int32 → Cn → Prop} {b0 : Nat} {l1 : Int32} {l2 : Int32} {b0_1 : Nat} {b0_2 : Nat} {n_b0_2 : Nat} {n_b0_1 : Nat} (k_b0 : kk K b0 = some (8, 0)) (g_b0_1 : gr x b0 1 = some b0_1) (g_b0_2 : gr x b0 2 = some b0_2) (k_b0_2 : kk K b0_2 = some (20, n_b0_2)) (k_b0_1 : kk K b0_1 = some (20, n_b0_1)) (K0 : (518 ≤ l2 → (Q l1 (ui x b0 19 0))) ∧ (¬ 518 ≤ l2 → (vp_in l2 n_b0_2 ∧ (vp_in l2 n_b0_1 ∧ (GI mX8_text 61 [some (.ref b0), some (.int l1), some (.int (l2 + 1))] [] K (ui x b0_1 (l2 : Int32).toNatClampNeg (gi x b0_2 (l2 : Int32).toNatClampNeg)) Q))))) : GI mX8_text 61 [some (.ref b0), some (.int l1), some (.int l2)] [] K x Q := by
  show mGM mX8_text 61 [some (.ref b0), some (.int l1), some (.int l2)] [] (hp K x) (PI K Q)
  refine r_iload_n (pc := 61) dX8_text_61 rfl ?_
  refine r_sipush (pc := 62) (v := 518) dX8_text_62 (by decide) ?_
  refine r_icmp_ge (pc := 65) (tgt := 86) dX8_text_65 (by decide) (fun q => ?_) (fun q => ?_)
  · have K0 := K0.1 q
    refine r_aload_n (pc := 86) dX8_text_86 rfl ?_
    refine r_iconst (pc := 87) (v := 0) dX8_text_87 (by decide) ?_
    refine s_putI (pc := 88) dX8_text_88 fl_X8_262 rfl rfl k_b0 ?_
    refine r_iload_n (pc := 91) dX8_text_91 rfl ?_
    exact s_iret rfl dX8_text_92 K0
  · have K0 := K0.2 q
    refine r_aload_n (pc := 68) dX8_text_68 rfl ?_
    refine s_getR (pc := 69) dX8_text_69 fl_X8_9 rfl k_b0 g_b0_1 ?_
    refine r_iload_n (pc := 72) dX8_text_72 rfl ?_
    refine r_aload_n (pc := 73) dX8_text_73 rfl ?_
    refine s_getR (pc := 74) dX8_text_74 fl_X8_13 rfl k_b0 g_b0_2 ?_
    refine r_iload_n (pc := 77) dX8_text_77 rfl ?_
    obtain ⟨i_2, K0⟩ := K0
    refine s_iald (pc := 78) dX8_text_78 k_b0_2 i_2 ?_
    obtain ⟨i_3, K0⟩ := K0
    refine s_iast (pc := 79) dX8_text_79 k_b0_1 i_3 ?_
    refine r_iinc (pc := 80) (v := l2 + 1) dX8_text_80 rfl rfl (by decide) ?_
    refine r_goto (pc := 83) (L := [some (.ref b0), some (.int l1), some (.int (l2 + 1))]) (tgt := 61) dX8_text_83 (by decide) ?_
    exact r_le (L' := [some (.ref b0), some (.int l1), some (.int (l2 + 1))]) ⟨rfl, ⟨rfl, ⟨rfl, trivial⟩⟩⟩ K0
section
theorem lp_X8_text_61 {x : Cn} {Q : Int32 → Cn → Prop} {l1 : Int32} (g1 : gr x 717 1 = some 718) (g2 : gr x 717 2 = some 719) (k : ∀ y, EQx x y 718 → (∀ i, i < 518 → gi y 718 i = gi x 719 i) → Q l1 (ui y 717 19 0)) : ∀ d i y, i + d = 518 → EQx x y 718 → (∀ j, j < i → gi y 718 j = gi x 719 j) → GI mX8_text 61 [some (.ref 717), some (.int l1), some (.int (nI i))] [] KW y Q := by
  intro d
  induction d with
  | zero =>
    intro i y hi f h
    have hg : ∀ a j, gr y a j = gr x a j := fun a j => by unfold gr; rw [f.1]
    exact v_X8_text_61 km ((hg _ _).trans g1) ((hg _ _).trans g2) km2 km1 ⟨fun _ => k y f (fun j hj => h j (by omega)), fun z => absurd (nI_le (a := 518) (b := i) (by omega) (by omega)) z⟩
  | succ d ih =>
    intro i y hi f h
    have hg : ∀ a j, gr y a j = gr x a j := fun a j => by unfold gr; rw [f.1]
    refine v_X8_text_61 km ((hg _ _).trans g1) ((hg _ _).trans g2) km2 km1 ⟨fun z => absurd z (nI_ge (a := i) (b := 518) (by omega) (by omega)), fun _ => ⟨vp_in_nI (by omega) (by decide), vp_in_nI (by omega) (by decide), ?_⟩⟩
    rw [nI_clamp (by omega), ← nI_succ]
    refine ih (i + 1) _ (by omega) f.ui (fun j hj => ?_)
    by_cases e : j = i
    · rw [e, gi_ui, if_pos ⟨rfl, rfl⟩]; exact f.2 719 i (by omega)
    · rw [gi_ui, if_neg (by omega)]; exact h j (by omega)
theorem sp_X8_text {u : Cn} {Q : Int32 → Cn → Prop} {b : TT} {n : Nat} (M : MRf u 718) (hn : n ≤ 1200) (h5 : gi u 717 5 = nI n) (hb : gi u 720 = b) (hB : ∀ i, i < n → isB (b i)) (k1 : okW b n 0 → ∀ t L y, runs b n (tV b n (nxt b n 1 0)) (n + 1) (s00 b n (gi u 719)) t L → y.2 = u.2 → (∀ a k, a ≠ 718 → a ≠ 719 → a ≠ 721 → ¬ (a = 717 ∧ ((5 ≤ k ∧ k ≤ 14) ∨ k = 19)) → gi y a k = gi u a k) → gi y 717 5 = nI 0 → gi y 717 19 = 0 → (∀ i, i < 518 → gi y 718 i = t.2.1 i) → Q (nI (1 + L)) y) (k0 : (¬ okW b n 0 ∨ (okW b n 0 ∧ fails b n (tV b n (nxt b n 1 0)) (n + 1) (s00 b n (gi u 719)))) → ∀ y, y.2 = u.2 → (∀ a k, a ≠ 719 → a ≠ 721 → ¬ (a = 717 ∧ 5 ≤ k ∧ k ≤ 14) → gi y a k = gi u a k) → gi y 717 5 = nI 0 → Q (-4) y) : mSI mX8_text [.ref 717] KW u Q := by
  refine v_X8_text_0 km M.2.1 ?_
  rw [h5]
  have hg : ∀ a k, ¬ (a = 717 ∧ k = 3) → gr (ur (ui (ui (ui (ui (ui u 717 6 (nI n)) 717 5 0) 717 7 0) 717 11 0) 717 12 (-1)) 717 3 (some 719)) a k = gr u a k := fun a k h => by rw [gr_ur, if_neg h]; rfl
  have hg3 : gr (ur (ui (ui (ui (ui (ui u 717 6 (nI n)) 717 5 0) 717 7 0) 717 11 0) 717 12 (-1)) 717 3 (some 719)) 717 3 = some 719 := by rw [gr_ur, if_pos ⟨rfl, rfl⟩]
  have hr : ∀ y : Cn, y.2 = (ur (ui (ui (ui (ui (ui u 717 6 (nI n)) 717 5 0) 717 7 0) 717 11 0) 717 12 (-1)) 717 3 (some 719)).2 → (ur y 717 3 (some 718)).2 = u.2 := by
    intro y hy
    funext a k
    show (if a = 717 ∧ k = 3 then some 718 else y.2 a k) = u.2 a k
    by_cases h : a = 717 ∧ k = 3
    · rw [if_pos h, h.1, h.2]; exact M.2.2.1.symm
    · rw [if_neg h, hy]; exact hg a k h
  have e : ∀ a k, ¬ (a = 717 ∧ 5 ≤ k ∧ k ≤ 14) → gi (ur (ui (ui (ui (ui (ui u 717 6 (nI n)) 717 5 0) 717 7 0) 717 11 0) 717 12 (-1)) 717 3 (some 719)) a k = gi u a k := fun a k h => by
    rw [gi_ur, gi_ui, if_neg (by omega), gi_ui, if_neg (by omega), gi_ui, if_neg (by omega), gi_ui, if_neg (by omega), gi_ui, if_neg (by omega)]
  have e6 : gi (ur (ui (ui (ui (ui (ui u 717 6 (nI n)) 717 5 0) 717 7 0) 717 11 0) 717 12 (-1)) 717 3 (some 719)) 717 6 = nI n := by rw [gi_ur]; simp [gi_ui]
  have e5 : gi (ur (ui (ui (ui (ui (ui u 717 6 (nI n)) 717 5 0) 717 7 0) 717 11 0) 717 12 (-1)) 717 3 (some 719)) 717 5 = nI 0 := by rw [gi_ur]; simp [gi_ui]; rfl
  have e7 : gi (ur (ui (ui (ui (ui (ui u 717 6 (nI n)) 717 5 0) 717 7 0) 717 11 0) 717 12 (-1)) 717 3 (some 719)) 717 7 = nI 0 := by rw [gi_ur]; simp [gi_ui]; rfl
  have e11 : gi (ur (ui (ui (ui (ui (ui u 717 6 (nI n)) 717 5 0) 717 7 0) 717 11 0) 717 12 (-1)) 717 3 (some 719)) 717 11 = 0 := by rw [gi_ur]; simp [gi_ui]
  have e719 : gi (ur (ui (ui (ui (ui (ui u 717 6 (nI n)) 717 5 0) 717 7 0) 717 11 0) 717 12 (-1)) 717 3 (some 719)) 719 = gi u 719 := funext (fun i => e 719 i (by omega))
  have M9 : MRf (ur (ui (ui (ui (ui (ui u 717 6 (nI n)) 717 5 0) 717 7 0) 717 11 0) 717 12 (-1)) 717 3 (some 719)) 719 := by
    obtain ⟨m1, m2, m3, m4, m5, m6, m7, m8, m9⟩ := M
    exact ⟨(hg _ _ (by omega)).trans m1, (hg _ _ (by omega)).trans m2, hg3, (hg _ _ (by omega)).trans m4, (hg _ _ (by omega)).trans m5, (hg _ _ (by omega)).trans m6, (hg _ _ (by omega)).trans m7, (hg _ _ (by omega)).trans m8, (hg _ _ (by omega)).trans m9⟩
  have Z : RZ (ur (ui (ui (ui (ui (ui u 717 6 (nI n)) 717 5 0) 717 7 0) 717 11 0) 717 12 (-1)) 717 3 (some 719)) b n := ⟨hn, e6, (funext fun i => e 720 i (by omega)).trans hb, hB, M9⟩
  generalize ur (ui (ui (ui (ui (ui u 717 6 (nI n)) 717 5 0) 717 7 0) 717 11 0) 717 12 (-1)) 717 3 (some 719) = w at hg hg3 hr e e6 e5 e7 e11 e719 M9 Z
  refine sp_X8_readAll Z e7 e11 (fun ok t L y r F c => ?_) (fun o y r F h => ?_)
  · rw [e719] at r
    have hy := hr y F.1
    refine v_X8_text_41 km ((by unfold gr; rw [F.1]; exact M9.1 : gr y 717 1 = some 718)) ⟨fun _ => ?_, fun z => absurd c.1.2.2.2 z⟩
    refine lp_X8_text_61 (x := ur y 717 3 (some 718)) (by unfold gr; rw [hy]; exact M.1) (by unfold gr; rw [hy]; exact M.2.1) (fun z f h => ?_) 518 0 _ (by omega) (EQx.rf _ 718) (fun j hj => absurd hj (by omega))
    refine k1 ok t L _ r (f.1.trans hy) (fun a k a1 a2 a3 a4 => ?_) ?_ (by rw [gi_ui, if_pos ⟨rfl, rfl⟩]) (fun i hi => ?_)
    · rw [gi_ui, if_neg (by omega), f.2 a k a1, gi_ur, F.2 a k (by omega)]; exact e a k (by omega)
    · rw [gi_ui, if_neg (by omega), f.2 717 5 (by omega), gi_ur, F.2 717 5 (by omega)]; exact e5
    · rw [gi_ui, if_neg (by omega), h i hi, gi_ur]
      exact congrFun c.2.2.2.1 i
  · rw [e719] at o
    have hy := hr y F.1
    refine v_X8_text_41 km ((by unfold gr; rw [F.1]; exact M9.1 : gr y 717 1 = some 718)) ⟨fun z => absurd z h, fun _ => ?_⟩
    refine k0 o _ hy (fun a k a1 a2 a3 => ?_) ?_
    · rw [gi_ur, F.2 a k (by omega)]; exact e a k a3
    · rw [gi_ur, F.2 717 5 (by omega)]; exact e5
end
set_option maxHeartbeats 2000000 in
theorem v_X7_text_0 {K : Sh} {x : Cn} {Q : Int32 → Cn → Prop} {b0 : Nat} {b0_6 : Nat} {b0_0 : Nat} (k_b0 : kk K b0 = some (7, 0)) (g_b0_6 : gr x b0 6 = some b0_6) (g_b0_0 : gr x b0 0 = some b0_0) (k_b0_6 : kk K b0_6 = some (3, 0)) (K0 : mSI mX3_readText [.ref b0_6, .ref b0_0, .int (gi x b0 1)] K x (fun r_2 y_1 => gr y_1 b0 6 = some b0_6 ∧ (∀ r_4 : Int32, r_4 = gi (ui (ui y_1 b0 1 0) b0 7 (gi (ui y_1 b0 1 0) b0_6 3)) b0_6 4 → ((¬ r_2 = 0 → (∃ c_7 : Nat, gr y_1 b0 2 = some c_7 ∧ (∃ c_9 : Nat, gr y_1 b0_6 0 = some c_9 ∧ (kk K c_7 = some (4, 0) ∧ (mSV mX4_copyFrom [.ref c_7, .ref c_9] K (ui (ui (ui y_1 b0 1 0) b0 7 (gi (ui y_1 b0 1 0) b0_6 3)) b0 8 r_4) (fun y_12 => ∃ c_13 : Nat, gr y_12 b0 3 = some c_13 ∧ (gr y_12 b0 6 = some b0_6 ∧ (∃ c_16 : Nat, gr y_12 b0_6 1 = some c_16 ∧ (kk K c_13 = some (1, 0) ∧ (mSV mX1_copyFrom [.ref c_13, .ref c_16] K y_12 (fun y_19 => gr y_19 b0 6 = some b0_6 ∧ (Q (gi (ui y_19 b0 5 0) b0_6 2) (ui y_19 b0 5 0))))))))))))) ∧ (r_2 = 0 → (Q (-4) (ui (ui (ui y_1 b0 1 0) b0 7 (gi (ui y_1 b0 1 0) b0_6 3)) b0 8 r_4))))))) : mSI mX7_text [.ref b0] K x Q := by
  refine s_I (by decide) (by simp [Value.category]) (Nat.le_of_ble_eq_true rfl) ?_
  show mGM mX7_text 0 [some (.ref b0), none] [] (hp K x) (PI K Q)
  refine r_aload_n (pc := 0) dX7_text_0 rfl ?_
  refine s_getR (pc := 1) dX7_text_1 fl_X7_41 rfl k_b0 g_b0_6 ?_
  refine r_aload_n (pc := 4) dX7_text_4 rfl ?_
  refine s_getR (pc := 5) dX7_text_5 fl_X7_9 rfl k_b0 g_b0_0 ?_
  refine r_aload_n (pc := 8) dX7_text_8 rfl ?_
  refine s_getI (pc := 9) dX7_text_9 fl_X7_13 rfl k_b0 ?_
  refine s_VI (pc := 12) mX3_readText (ci := 3) (a := b0_6) (As := [.ref b0_0, .int (gi x b0 1)]) dX7_text_12 lk_X7_69 in_X3_readText mo_X3_readText ⟨by decide, rfl⟩ ⟨by decide, by decide⟩ (Nat.le_of_ble_eq_true rfl) k_b0_6 (mSI_mono K0 (fun r_2 y_1 K0 => ?_))
  refine r_istore_n (pc := 15) dX7_text_15 (by decide) ?_
  refine r_aload_n (pc := 16) (L := [some (.ref b0), some (.int r_2)]) dX7_text_16 rfl ?_
  refine r_iconst (pc := 17) (v := 0) dX7_text_17 (by decide) ?_
  refine s_putI (pc := 18) dX7_text_18 fl_X7_13 rfl rfl k_b0 ?_
  refine r_aload_n (pc := 21) dX7_text_21 rfl ?_
  refine r_aload_n (pc := 22) dX7_text_22 rfl ?_
  obtain ⟨g_3, K0⟩ := K0
  refine s_getR (pc := 23) dX7_text_23 fl_X7_41 rfl k_b0 g_3 ?_
  refine s_getI (pc := 26) dX7_text_26 fl_X7_73 rfl k_b0_6 ?_
  refine s_putI (pc := 29) dX7_text_29 fl_X7_45 rfl rfl k_b0 ?_
  refine r_aload_n (pc := 32) dX7_text_32 rfl ?_
  refine r_aload_n (pc := 33) dX7_text_33 rfl ?_
  refine s_getR (pc := 34) dX7_text_34 fl_X7_41 rfl k_b0 g_3 ?_
  refine s_getI (pc := 37) dX7_text_37 fl_X7_76 rfl k_b0_6 ?_
  obtain ⟨r_4, w_5⟩ : ∃ z : Int32, z = gi (ui (ui y_1 b0 1 0) b0 7 (gi (ui y_1 b0 1 0) b0_6 3)) b0_6 4 := ⟨_, rfl⟩
  rw [← w_5]
  have K0 := K0 r_4 w_5
  refine s_putI (pc := 40) dX7_text_40 fl_X7_48 rfl rfl k_b0 ?_
  refine r_iload_n (pc := 43) dX7_text_43 rfl ?_
  refine r_if_ne (pc := 44) (tgt := 50) dX7_text_44 (by decide) (fun q => ?_) (fun q => ?_)
  · have K0 := K0.1 q
    refine r_aload_n (pc := 50) dX7_text_50 rfl ?_
    obtain ⟨c_7, g_8, K0⟩ := K0
    refine s_getR (pc := 51) dX7_text_51 fl_X7_20 rfl k_b0 g_8 ?_
    refine r_aload_n (pc := 54) dX7_text_54 rfl ?_
    refine s_getR (pc := 55) dX7_text_55 fl_X7_41 rfl k_b0 g_3 ?_
    obtain ⟨c_9, g_10, K0⟩ := K0
    refine s_getR (pc := 58) dX7_text_58 fl_X7_79 rfl k_b0_6 g_10 ?_
    obtain ⟨e_11, K0⟩ := K0
    refine s_VV (pc := 61) mX4_copyFrom (ci := 4) (a := c_7) (As := [.ref c_9]) dX7_text_61 lk_X7_80 in_X4_copyFrom mo_X4_copyFrom ⟨by decide, rfl⟩ ⟨by decide, by decide⟩ (Nat.le_of_ble_eq_true rfl) e_11 (mSV_mono K0 (fun y_12 K0 => ?_))
    refine r_aload_n (pc := 64) dX7_text_64 rfl ?_
    obtain ⟨c_13, g_14, K0⟩ := K0
    refine s_getR (pc := 65) dX7_text_65 fl_X7_27 rfl k_b0 g_14 ?_
    refine r_aload_n (pc := 68) dX7_text_68 rfl ?_
    obtain ⟨g_15, K0⟩ := K0
    refine s_getR (pc := 69) dX7_text_69 fl_X7_41 rfl k_b0 g_15 ?_
    obtain ⟨c_16, g_17, K0⟩ := K0
    refine s_getR (pc := 72) dX7_text_72 fl_X7_84 rfl k_b0_6 g_17 ?_
    obtain ⟨e_18, K0⟩ := K0
    refine s_VV (pc := 75) mX1_copyFrom (ci := 1) (a := c_13) (As := [.ref c_16]) dX7_text_75 lk_X7_85 in_X1_copyFrom mo_X1_copyFrom ⟨by decide, rfl⟩ ⟨by decide, by decide⟩ (Nat.le_of_ble_eq_true rfl) e_18 (mSV_mono K0 (fun y_19 K0 => ?_))
    refine r_aload_n (pc := 78) dX7_text_78 rfl ?_
    refine r_iconst (pc := 79) (v := 0) dX7_text_79 (by decide) ?_
    refine s_putI (pc := 80) dX7_text_80 fl_X7_35 rfl rfl k_b0 ?_
    refine r_aload_n (pc := 83) dX7_text_83 rfl ?_
    obtain ⟨g_20, K0⟩ := K0
    refine s_getR (pc := 84) dX7_text_84 fl_X7_41 rfl k_b0 g_20 ?_
    refine s_getI (pc := 87) dX7_text_87 fl_X7_88 rfl k_b0_6 ?_
    exact s_iret rfl dX7_text_90 K0
  · have K0 := K0.2 q
    refine r_bipush (pc := 47) (v := (-4)) dX7_text_47 (by decide) ?_
    exact s_iret rfl dX7_text_49 K0
theorem eq_text : Both mX7_text mX8_text [] := by
  intro x R
  obtain ⟨n, hn, t1, t2, t3⟩ := R.2.2.2.1
  obtain ⟨W0, C0, S0, A0, N0, E0, nm0, hs0⟩ := R.sea
  have c := R.1
  have c2 := c.2.1
  have c59 : gr x 59 0 = some 60 := c.2.2.2.2.2.2.2.2.1
  have c591 : gr x 59 1 = some 114 := c.2.2.2.2.2.2.2.2.2.1
  have c114 : gr x 114 1 = some 115 := c.2.2.2.2.2.2.2.2.2.2.2.1
  have c60 : SRf x 60 := c.2.2.2.2.2.2.2.2.2.2.2.2.2.2.2.2.2.1
  have c6 : gr x 0 6 = some 59 := c.2.2.2.2.1
  have hu : ∀ a k, ¬ (a = 59 ∧ k = 5) → gr (ur x 59 5 (some 1)) a k = gr x a k := fun a k h => by rw [gr_ur, if_neg h]
  have hu5 : gr (ur x 59 5 (some 1)) 59 5 = some 1 := by rw [gr_ur, if_pos ⟨rfl, rfl⟩]
  refine v_X7_text_0 k0 c6 c.1 k59 ?_
  rw [t1]
  refine sp_X3_readText (b := gi x 720) (n := n) (gi x 719) c59 c591 c114 c60 hn (fun i hi => (t3 i hi).1) (fun i hi => (t3 i hi).2) (fun ok t L y r F cy e2 => ?_) (fun o y F => ?_)
  · have er : ∀ a k, ¬ (a = 59 ∧ k = 5) → gr y a k = gr x a k := fun a k h => by
      have : gr y a k = gr (ur x 59 5 (some 1)) a k := by unfold gr; rw [F.1]
      exact this.trans (hu a k h)
    have er5 : gr y 59 5 = some 1 := by
      have : gr y 59 5 = gr (ur x 59 5 (some 1)) 59 5 := by unfold gr; rw [F.1]
      exact this.trans hu5
    refine ⟨(er _ _ (by omega)).trans c6, fun r4 hr4 => ⟨fun _ => ⟨2, (er _ _ (by omega)).trans c2, 60, (er _ _ (by omega)).trans c59, by decide, ?_⟩, fun z => absurd z (by decide)⟩⟩
    generalize gi (ui y 0 1 0) 59 3 = v3 at hr4 ⊢
    have f1 : ∀ a k, ¬ (a = 0 ∧ (k = 1 ∨ k = 7 ∨ k = 8)) → gi (ui (ui (ui y 0 1 0) 0 7 v3) 0 8 r4) a k = gi y a k := fun a k h => by rw [gi_ui, if_neg (by omega), gi_ui, if_neg (by omega), gi_ui, if_neg (by omega)]
    have f11 : gi (ui (ui (ui y 0 1 0) 0 7 v3) 0 8 r4) 0 1 = nI 0 := by simp [gi_ui]; rfl
    have r1 : (ui (ui (ui y 0 1 0) 0 7 v3) 0 8 r4).2 = y.2 := rfl
    generalize ui (ui (ui y 0 1 0) 0 7 v3) 0 8 r4 = u1 at f1 f11 r1
    have gu : ∀ a k, gr u1 a k = gr y a k := fun a k => by unfold gr; rw [r1]
    have cy : CS y (gi x 720) n t.1 t.2.1 t.2.2.1 (tV (gi x 720) n (nxt (gi x 720) n 1 0)) t.2.2.2.1 t.2.2.2.2.1 t.2.2.2.2.2 := cy
    have E1 : SEA u1 60 t.2.1 (tV (gi x 720) n (nxt (gi x 720) n 1 0)) t.2.2.2.1 t.2.2.2.2.1 t.2.2.2.2.2 0 := cy.2.2.2.2.1.keep r1 (fun a k a1 a2 _ => f1 a k (by omega))
    have s2 : SRf u1 2 := E0.2.1.r (fun a k a1 a2 => (gu a k).trans (er a k (by omega)))
    refine sp_X4_copyFrom (q := 2) (Or.inl rfl) s2 E1 (by decide) (fun y2 f2 E2 => ?_)
    have g2 : ∀ a k, gr y2 a k = gr y a k := fun a k => by unfold gr; rw [f2.1, r1]
    refine ⟨56, (g2 _ _).trans ((er _ _ (by omega)).trans c.2.2.1), (g2 _ _).trans ((er _ _ (by omega)).trans c6), 114, (g2 _ _).trans ((er _ _ (by omega)).trans c591), by decide, ?_⟩
    refine sp_X1_copyFrom ((g2 _ _).trans ((er _ _ (by omega)).trans c.2.2.2.2.2.2.2.1)) ((g2 _ _).trans ((er _ _ (by omega)).trans c114)) (fun y3 r3 f3 n0 n1 => ?_)
    have g3 : ∀ a k, gr y3 a k = gr y a k := fun a k => (by unfold gr; rw [r3] : gr y3 a k = gr y2 a k).trans (g2 a k)
    refine ⟨(g3 _ _).trans ((er _ _ (by omega)).trans c6), ?_⟩
    have b3 : ∀ a k, ¬ (2 ≤ a ∧ a < 58) → ¬ (a = 0 ∧ (k = 1 ∨ k = 7 ∨ k = 8)) → gi y3 a k = gi y a k := fun a k a1 a2 => (f3 a k (by omega) (by omega)).trans ((f2.2 a k (by omega)).trans (f1 a k a2))
    have ans : gi (ui y3 0 5 0) 59 2 = nI (1 + L) := by rw [gi_ui, if_neg (by omega), b3 59 2 (by omega) (by omega)]; exact e2
    rw [ans]
    have b4 : ∀ a k, ¬ (2 ≤ a ∧ a < 58) → ¬ (59 ≤ a ∧ a ≤ 115) → ¬ (a = 0 ∧ (k = 1 ∨ k = 5 ∨ k = 7 ∨ k = 8)) → gi (ui y3 0 5 0) a k = gi x a k := fun a k a1 a2 a3 => by
      rw [gi_ui, if_neg (by omega), b3 a k a1 (by omega), F.2 a k a2]; rfl
    have k1 : gi (ui y3 0 5 0) 0 1 = nI 0 := by rw [gi_ui, if_neg (by omega), f3 0 1 (by omega) (by omega), f2.2 0 1 (by omega)]; exact f11
    have k5 : gi (ui y3 0 5 0) 0 5 = 0 := by rw [gi_ui, if_pos ⟨rfl, rfl⟩]
    have E3 : SEA (ui y3 0 5 0) 2 t.2.1 (tV (gi x 720) n (nxt (gi x 720) n 1 0)) t.2.2.2.1 t.2.2.2.2.1 t.2.2.2.2.2 0 := E2.keep r3 (fun a k a1 a2 _ => by rw [gi_ui, if_neg (by omega)]; exact f3 a k (by omega) (by omega))
    have hC8 : t.2.2.2.1 ≤ 8 := E3.2.2.2.2.2.2.2.1
    have N3 : NMr (ui y3 0 5 0) 56 t.2.1 t.2.2.2.1 := by
      obtain ⟨m0, m1⟩ := cy.2.2.2.2.2
      refine ⟨?_, fun cc hc => ?_⟩
      · rw [gi_ui, if_neg (by omega), n0, f2.2 114 0 (by omega), f1 114 0 (by omega)]; exact m0
      · obtain ⟨v, v1, v2, v3'⟩ := m1 cc hc
        refine ⟨v, v1, v2, fun i hi => ?_⟩
        rw [gi_ui, if_neg (by omega), n1 _ (by omega), f2.2 115 _ (by omega), f1 115 _ (by omega)]
        exact v3' i hi
    have gx : ∀ a k, ¬ (a = 59 ∧ k = 5) → gr (ui y3 0 5 0) a k = gr x a k := fun a k h => (g3 a k).trans (er a k h)
    have gx5 : gr (ui y3 0 5 0) 59 5 = some 1 := (g3 _ _).trans er5
    generalize ui y3 0 5 0 = v at b4 k1 k5 E3 N3 gx gx5
    have e719 : gi v 719 = gi x 719 := funext (fun i => b4 719 i (by omega) (by omega) (by omega))
    refine sp_X8_text (b := gi x 720) (n := n) (R.2.1.tx gx) hn ((b4 717 5 (by omega) (by omega) (by omega)).trans t2) (funext fun i => b4 720 i (by omega) (by omega) (by omega)) (fun i hi => (t3 i hi).2) (fun _ t' L' z r' hz ez z5 z19 zT => ?_) (fun o => ?_)
    · rw [e719] at r'
      obtain ⟨et, eL⟩ := runs_det _ _ _ _ _ _ r r'
      subst et
      subst eL
      have gz : ∀ a k, ¬ (a = 59 ∧ k = 5) → gr z a k = gr x a k := fun a k h => (by unfold gr; rw [hz] : gr z a k = gr v a k).trans (gx a k h)
      have gz5 : gr z 59 5 = some 1 := (by unfold gr; rw [hz] : gr z 59 5 = gr v 59 5).trans gx5
      refine ⟨rfl, R.1.tx gz gz5, R.2.1.tx gz, ⟨trivial, trivial⟩, ⟨0, by omega, (ez 0 1 (by omega) (by omega) (by omega) (by omega)).trans k1, z5, fun i hi => absurd hi (by omega)⟩, R.2.2.2.2.1.keep ((ez 175 1 (by omega) (by omega) (by omega) (by omega)).trans (b4 175 1 (by omega) (by omega) (by omega))) ((ez 717 22 (by omega) (by omega) (by omega) (by omega)).trans (b4 717 22 (by omega) (by omega) (by omega))) (fun i => (ez 176 i (by omega) (by omega) (by omega) (by omega)).trans (b4 176 i (by omega) (by omega) (by omega))) (fun i => (ez 725 i (by omega) (by omega) (by omega) (by omega)).trans (b4 725 i (by omega) (by omega) (by omega))), _, _, _, _, _, E3.mv (fun a k _ _ => by unfold gr; rw [hz]) (fun a k a1 a2 _ => ez a k (by omega) (by omega) (by omega) (by omega)) zT, N3.keep (ez 56 0 (by omega) (by omega) (by omega) (by omega)) (fun i => ez 57 i (by omega) (by omega) (by omega) (by omega)) (fun i hi => zT _ (by omega)), 0, by omega, z19, ?_, fun j hj => absurd hj (by omega)⟩
      exact (ez 0 5 (by omega) (by omega) (by omega) (by omega)).trans k5
    · rw [e719] at o
      rcases o with o | o
      · exact absurd ok o
      · exact absurd o.2 (runs_no _ _ _ _ r)
  · have er : ∀ a k, ¬ (a = 59 ∧ k = 5) → gr y a k = gr x a k := fun a k h => by
      have : gr y a k = gr (ur x 59 5 (some 1)) a k := by unfold gr; rw [F.1]
      exact this.trans (hu a k h)
    have er5 : gr y 59 5 = some 1 := by
      have : gr y 59 5 = gr (ur x 59 5 (some 1)) 59 5 := by unfold gr; rw [F.1]
      exact this.trans hu5
    refine ⟨(er _ _ (by omega)).trans c6, fun r4 hr4 => ⟨fun z => absurd rfl z, fun _ => ?_⟩⟩
    generalize gi (ui y 0 1 0) 59 3 = v3 at hr4 ⊢
    have f1 : ∀ a k, ¬ (a = 0 ∧ (k = 1 ∨ k = 7 ∨ k = 8)) → ¬ (59 ≤ a ∧ a ≤ 115) → gi (ui (ui (ui y 0 1 0) 0 7 v3) 0 8 r4) a k = gi x a k := fun a k h h2 => by rw [gi_ui, if_neg (by omega), gi_ui, if_neg (by omega), gi_ui, if_neg (by omega), F.2 a k h2]; rfl
    have f11 : gi (ui (ui (ui y 0 1 0) 0 7 v3) 0 8 r4) 0 1 = nI 0 := by simp [gi_ui]; rfl
    have gx : ∀ a k, ¬ (a = 59 ∧ k = 5) → gr (ui (ui (ui y 0 1 0) 0 7 v3) 0 8 r4) a k = gr x a k := er
    have gx5 : gr (ui (ui (ui y 0 1 0) 0 7 v3) 0 8 r4) 59 5 = some 1 := er5
    generalize ui (ui (ui y 0 1 0) 0 7 v3) 0 8 r4 = v at f1 f11 gx gx5
    have e719 : gi v 719 = gi x 719 := funext (fun i => f1 719 i (by omega) (by omega))
    refine sp_X8_text (b := gi x 720) (n := n) (R.2.1.tx gx) hn ((f1 717 5 (by omega) (by omega)).trans t2) (funext fun i => f1 720 i (by omega) (by omega)) (fun i hi => (t3 i hi).2) (fun ok t' L' z r' _ _ _ _ _ => ?_) (fun o' z hz ez z5 => ?_)
    · rw [e719] at r'
      rcases o with o | o
      · exact absurd ok o
      · exact absurd o.2 (runs_no _ _ _ _ r')
    · have gz : ∀ a k, ¬ (a = 59 ∧ k = 5) → gr z a k = gr x a k := fun a k h => (by unfold gr; rw [hz] : gr z a k = gr v a k).trans (gx a k h)
      have gz5 : gr z 59 5 = some 1 := (by unfold gr; rw [hz] : gr z 59 5 = gr v 59 5).trans gx5
      exact ⟨rfl, R.tx gz gz5 (fun a k a1 a2 a3 a4 a5 => (ez a k a4 a5 a3).trans (f1 a k a1 a2)) ((ez 0 1 (by omega) (by omega) (by omega)).trans f11) z5⟩


/-! series, asks, a line: landed side (q: the place of a series' or an ask's name) -/
theorem b2i_cg {c d : Prop} [Decidable c] [Decidable d] (h : c ↔ d) : b2i c = b2i d := by
  by_cases z : c
  · rw [b2i_t z, b2i_t (h.mp z)]
  · rw [b2i_f z, b2i_f (fun w => z (h.mpr w))]
def spw (b : TT) (n q : Nat) : Int32 := f_span (nI (tV b n (nxt b n 4 q))) (nI (tV b n (nxt b n 6 q)))
def nwp (b : TT) (n r : Nat) : Nat := if tK b n r = 1 ∧ wnp b n r = 14 then tE b n r else r
def nwv (b : TT) (n r : Nat) : Int32 := b2i (tK b n r = 1 ∧ wnp b n r = 14)
def srF (b : TT) (n q : Nat) (T : TT) (C : Nat) : Nat → Int32 := fun k => if k = 0 then fnd T C (vnm b n q) else if k = 1 then wnp b n (nxt b n 1 q) else if k = 2 then nI (tV b n (nxt b n 2 q)) else if k = 3 then wyo b n (nxt b n 3 q) else if k = 4 then nwv b n (nxt b n 7 q) else if k = 5 then nI (tV b n (nxt b n 4 q)) else if k = 6 then nI (tV b n (nxt b n 6 q)) else if k = 7 then spw b n q else 0
theorem wyo_01 (b : TT) (n p : Nat) : wyo b n p = 0 ∨ wyo b n p = 1 := by
  unfold wyo
  by_cases h : wnp b n p = 13
  · rw [if_pos h]; exact Or.inr rfl
  · rw [if_neg h]; exact Or.inl rfl
theorem cm_ok {b : TT} {n q W C : Nat} {T : TT} (hW : 5 ≤ W) (h1 : okP b n q T C) (h2 : okN b n (nxt b n 4 q) W) : (∃ c, c < C ∧ fnd T C (vnm b n q) = nI c) ∧ (∃ d, d < 7 ∧ wnp b n (nxt b n 1 q) = nI d) ∧ tV b n (nxt b n 2 q) < 24 ∧ tV b n (nxt b n 4 q) + 4 ≤ tV b n (nxt b n 6 q) ∧ tV b n (nxt b n 6 q) < W := by
  obtain ⟨-, p1, ⟨d, hd, -, ed⟩, p2, -⟩ := h1
  have p3 : tV b n (nxt b n 2 q) ≤ 23 := p2.2.2
  have n1 : tV b n (nxt b n 4 q) + 4 ≤ tV b n (nxt b n 6 q) := h2.2.2.2.1
  have n2 : tV b n (nxt b n 6 q) ≤ W - 1 := h2.2.2.2.2
  exact ⟨(fnd_c T C (vnm b n q)).resolve_left p1, ⟨d, hd, ed⟩, by omega, n1, by omega⟩
theorem Wse.rd {b : TT} {n q W C S : Nat} {T : TT} (hW : 5 ≤ W) (hW3 : W ≤ 30) (h1 : okP b n q T C) (h2 : okN b n (nxt b n 4 q) W) : Wse (adT T S (srF b n q T C)) C W S := by
  obtain ⟨⟨c, hc, ec⟩, ⟨d, hd, ed⟩, hh, f1, f2⟩ := cm_ok hW h1 h2
  have e : ∀ k, k < 12 → so (adT T S (srF b n q T C)) S k = srF b n q T C k := fun k hk => so_adT hk
  have z : ∀ k, k < 5 → k ≠ 0 → so (adT T S (srF b n q T C)) S (7 + k) = 0 := fun k hk h0 => by
    rw [e _ (by omega)]
    unfold srF
    rw [if_neg (by omega), if_neg (by omega), if_neg (by omega), if_neg (by omega), if_neg (by omega), if_neg (by omega), if_neg (by omega), if_neg (by omega)]
  refine ⟨⟨c, hc, by rw [e 0 (by decide)]; exact ec⟩, ⟨d, hd, by rw [e 1 (by decide)]; exact ed⟩, ⟨_, hh, by rw [e 2 (by decide)]; rfl⟩, by rw [e 3 (by decide)]; exact wyo_01 _ _ _, by rw [e 4 (by decide)]; exact b2i_01 _, ⟨_, _, Nat.le_trans (Nat.le_add_right _ 4) f1, f2, by rw [e 5 (by decide)]; rfl, by rw [e 6 (by decide)]; rfl⟩, ?_, ?_⟩
  · intro i hi k j hk hj h1 h2
    by_cases c1 : k = 0
    · by_cases c2 : j = 0
      · omega
      · rw [z j hj c2, tb_0] at h2; cases h2
    · rw [z k hk c1, tb_0] at h1; cases h1
  · intro i k hk h1
    by_cases c1 : k = 0
    · subst c1
      rw [e (7 + 0) (by decide)] at h1
      have h1 : tb (f_span (nI (tV b n (nxt b n 4 q))) (nI (tV b n (nxt b n 6 q)))) i = true := h1
      by_cases c3 : i < 32
      · rw [tb_span0 _ (by omega) _ (by omega) i c3] at h1
        have := of_decide_eq_true h1
        omega
      · rw [tb_ge _ (by omega)] at h1; cases h1
    · rw [z k hk c1, tb_0] at h1; cases h1
theorem nxt_n {b : TT} {n : Nat} (j k p : Nat) : nxt b n j (nxt b n k p) = nxt b n (k + j) p := by
  induction j with
  | zero => rfl
  | succ j ih =>
    show tE b n (nxt b n j (nxt b n k p)) = tE b n (nxt b n (k + j) p)
    rw [ih]
def okS (b : TT) (n q : Nat) (T : TT) (W C S : Nat) : Prop := S < 24 ∧ okP b n q T C ∧ okN b n (nxt b n 4 q) W ∧ sg b n (nwp b n (nxt b n 7 q)) 59 ∧ fitC T S 0 (wnp b n (nxt b n 1 q)) (tV b n (nxt b n 2 q)) (wyo b n (nxt b n 3 q)) (spw b n q) 0
theorem nwp_le {b : TT} {n r : Nat} (h : r ≤ n) : nwp b n r ≤ n := by
  unfold nwp
  by_cases c : tK b n r = 1 ∧ wnp b n r = 14
  · rw [if_pos c]; exact (tE_b h).2.1
  · rw [if_neg c]; exact h
set_option maxHeartbeats 2000000 in
theorem v_X3_readSeries_0 {K : Sh} {x : Cn} {Q : Int32 → Cn → Prop} {b0 : Nat} {b0_0 : Nat} (k_b0 : kk K b0 = some (3, 0)) (g_b0_0 : gr x b0 0 = some b0_0) (k_b0_0 : kk K b0_0 = some (4, 0)) (K0 : ((gi x b0_0 3) < 24 → (mSV mX3_advance [.ref b0] K x (fun y_2 => mSI mX3_readPlace [.ref b0] K y_2 (fun r_4 y_3 => (r_4 = 0 → (Q 0 y_3)) ∧ (¬ r_4 = 0 → (mSI mX3_readSpan [.ref b0] K y_3 (fun r_7 y_6 => (¬ r_7 = 0 → ((¬ (gi y_6 b0 9 = 1 ∧ gi y_6 b0 10 = 14) → (GI mX3_readSeries 53 [some (.ref b0), some (.int (b2i (gi y_6 b0 9 = 1 ∧ gi y_6 b0 10 = 14))), none] [] K y_6 Q)) ∧ ((gi y_6 b0 9 = 1 ∧ gi y_6 b0 10 = 14) → (mSV mX3_advance [.ref b0] K y_6 (fun y_10 => GI mX3_readSeries 53 [some (.ref b0), some (.int (b2i (gi y_6 b0 9 = 1 ∧ gi y_6 b0 10 = 14))), none] [] K y_10 Q))))) ∧ (r_7 = 0 → (Q 0 y_6))))))))) ∧ (¬ (gi x b0_0 3) < 24 → (mSI mX3_fail [.ref b0, .int 5] K x (fun r_12 y_11 => (r_12 = 0 ∨ r_12 = 1) ∧ (Q r_12 y_11))))) : mSI mX3_readSeries [.ref b0] K x Q := by
  refine s_I (by decide) (by simp [Value.category]) (Nat.le_of_ble_eq_true rfl) ?_
  show mGM mX3_readSeries 0 [some (.ref b0), none, none] [] (hp K x) (PI K Q)
  refine r_aload_n (pc := 0) dX3_readSeries_0 rfl ?_
  refine s_getR (pc := 1) dX3_readSeries_1 fl_X3_12 rfl k_b0 g_b0_0 ?_
  refine s_getI (pc := 4) dX3_readSeries_4 fl_X3_128 rfl k_b0_0 ?_
  refine r_bipush (pc := 7) (v := 24) dX3_readSeries_7 (by decide) ?_
  refine r_icmp_lt (pc := 9) (tgt := 18) dX3_readSeries_9 (by decide) (fun q => ?_) (fun q => ?_)
  · have K0 := K0.1 q
    refine r_aload_n (pc := 18) dX3_readSeries_18 rfl ?_
    refine s_VV (pc := 19) mX3_advance (ci := 3) (a := b0) (As := []) dX3_readSeries_19 lk_X3_87 in_X3_advance mo_X3_advance ⟨by decide, rfl⟩ ⟨by decide, by decide⟩ (Nat.le_of_ble_eq_true rfl) k_b0 (mSV_mono K0 (fun y_2 K0 => ?_))
    refine r_aload_n (pc := 22) dX3_readSeries_22 rfl ?_
    refine s_VI (pc := 23) mX3_readPlace (ci := 3) (a := b0) (As := []) dX3_readSeries_23 lk_X3_152 in_X3_readPlace mo_X3_readPlace ⟨by decide, rfl⟩ ⟨by decide, by decide⟩ (Nat.le_of_ble_eq_true rfl) k_b0 (mSI_mono K0 (fun r_4 y_3 K0 => ?_))
    refine r_if_eq (pc := 26) (tgt := 36) dX3_readSeries_26 (by decide) (fun q => ?_) (fun q => ?_)
    · have K0 := K0.1 q
      refine r_iconst (pc := 36) (v := 0) dX3_readSeries_36 (by decide) ?_
      exact s_zret rfl (by decide) dX3_readSeries_37 K0
    · have K0 := K0.2 q
      refine r_aload_n (pc := 29) dX3_readSeries_29 rfl ?_
      refine s_VI (pc := 30) mX3_readSpan (ci := 3) (a := b0) (As := []) dX3_readSeries_30 lk_X3_155 in_X3_readSpan mo_X3_readSpan ⟨by decide, rfl⟩ ⟨by decide, by decide⟩ (Nat.le_of_ble_eq_true rfl) k_b0 (mSI_mono K0 (fun r_7 y_6 K0 => ?_))
      refine r_if_ne (pc := 33) (tgt := 38) dX3_readSeries_33 (by decide) (fun q => ?_) (fun q => ?_)
      · have K0 := K0.1 q
        refine r_aload_n (pc := 38) dX3_readSeries_38 rfl ?_
        refine r_bipush (pc := 39) (v := 14) dX3_readSeries_39 (by decide) ?_
        refine s_VI (pc := 41) mX3_isWord (ci := 3) (a := b0) (As := [.int 14]) dX3_readSeries_41 lk_X3_110 in_X3_isWord mo_X3_isWord ⟨by decide, rfl⟩ ⟨by decide, by decide⟩ (Nat.le_of_ble_eq_true rfl) k_b0 (sp_X3_isWord k_b0 ?_)
        refine r_istore_n (pc := 44) dX3_readSeries_44 (by decide) ?_
        refine r_iload_n (pc := 45) (L := [some (.ref b0), some (.int (b2i (gi y_6 b0 9 = 1 ∧ gi y_6 b0 10 = 14))), none]) dX3_readSeries_45 rfl ?_
        refine r_if_eq (pc := 46) (tgt := 53) dX3_readSeries_46 (by decide) (fun q => ?_) (fun q => ?_)
        · have q := (b2i_z _).mp q
          have K0 := K0.1 q
          exact r_le (L' := [some (.ref b0), some (.int (b2i (gi y_6 b0 9 = 1 ∧ gi y_6 b0 10 = 14))), none]) ⟨rfl, ⟨rfl, trivial⟩⟩ K0
        · have q := b2i_nz q
          have K0 := K0.2 q
          refine r_aload_n (pc := 49) dX3_readSeries_49 rfl ?_
          refine s_VV (pc := 50) mX3_advance (ci := 3) (a := b0) (As := []) dX3_readSeries_50 lk_X3_87 in_X3_advance mo_X3_advance ⟨by decide, rfl⟩ ⟨by decide, by decide⟩ (Nat.le_of_ble_eq_true rfl) k_b0 (mSV_mono K0 (fun y_10 K0 => ?_))
          exact r_le (L' := [some (.ref b0), some (.int (b2i (gi y_6 b0 9 = 1 ∧ gi y_6 b0 10 = 14))), none]) ⟨rfl, ⟨rfl, trivial⟩⟩ K0
      · have K0 := K0.2 q
        refine r_iconst (pc := 36) (v := 0) dX3_readSeries_36 (by decide) ?_
        exact s_zret rfl (by decide) dX3_readSeries_37 K0
  · have K0 := K0.2 q
    refine r_aload_n (pc := 12) dX3_readSeries_12 rfl ?_
    refine r_iconst (pc := 13) (v := 5) dX3_readSeries_13 (by decide) ?_
    refine s_VI (pc := 14) mX3_fail (ci := 3) (a := b0) (As := [.int 5]) dX3_readSeries_14 lk_X3_125 in_X3_fail mo_X3_fail ⟨by decide, rfl⟩ ⟨by decide, by decide⟩ (Nat.le_of_ble_eq_true rfl) k_b0 (mSI_mono K0 (fun r_12 y_11 K0 => ?_))
    obtain ⟨p_13, K0⟩ := K0
    exact s_zret rfl p_13 dX3_readSeries_17 K0
set_option maxHeartbeats 2000000 in
theorem v_X3_readSeries_53 {K : Sh} {x : Cn} {Q : Int32 → Cn → Prop} {b0 : Nat} {l1 : Int32} {b0_0 : Nat} (k_b0 : kk K b0 = some (3, 0)) (g_b0_0 : gr x b0 0 = some b0_0) (k_b0_0 : kk K b0_0 = some (4, 0)) (K0 : ((gi x b0 9 = 3 ∧ gi x b0 10 = 59) → (mSI mX4_hasPlace [.ref b0_0, .int (gi x b0 13), .int (gi x b0 14), .int (gi x b0 15), .int (f_sb (gi x b0 16) (gi x b0 17)), .int 0] K x (fun r_3 y_2 => (¬ r_3 = 0 → (gr y_2 b0 0 = some b0_0 ∧ (mSR mX4_addSeries [.ref b0_0] K y_2 (fun r_7 y_6 => kk K r_7 = some (5, 0) ∧ (mSV mX5_placeAt [.ref r_7, .int (gi y_6 b0 12), .int (gi y_6 b0 13), .int (gi y_6 b0 14), .int (gi y_6 b0 15)] K y_6 (fun y_9 => mSV mX5_comeWith [.ref r_7, .int (gi y_9 b0 16), .int (gi y_9 b0 17)] K y_9 (fun y_10 => (l1 = 0 ∨ l1 = 1) ∧ (mSV mX3_advance [.ref b0] K (ui y_10 r_7 4 l1) (fun y_12 => Q 1 y_12))))))))) ∧ (r_3 = 0 → (mSI mX3_fail [.ref b0, .int 6] K y_2 (fun r_14 y_13 => (r_14 = 0 ∨ r_14 = 1) ∧ (Q r_14 y_13))))))) ∧ (¬ (gi x b0 9 = 3 ∧ gi x b0 10 = 59) → (mSI mX3_fail [.ref b0, .int 1] K x (fun r_17 y_16 => (r_17 = 0 ∨ r_17 = 1) ∧ (Q r_17 y_16))))) : GI mX3_readSeries 53 [some (.ref b0), some (.int l1), none] [] K x Q := by
  show mGM mX3_readSeries 53 [some (.ref b0), some (.int l1), none] [] (hp K x) (PI K Q)
  refine r_aload_n (pc := 53) dX3_readSeries_53 rfl ?_
  refine r_bipush (pc := 54) (v := 59) dX3_readSeries_54 (by decide) ?_
  refine s_VI (pc := 56) mX3_isSign (ci := 3) (a := b0) (As := [.int 59]) dX3_readSeries_56 lk_X3_158 in_X3_isSign mo_X3_isSign ⟨by decide, rfl⟩ ⟨by decide, by decide⟩ (Nat.le_of_ble_eq_true rfl) k_b0 (sp_X3_isSign k_b0 ?_)
  refine r_if_ne (pc := 59) (tgt := 68) dX3_readSeries_59 (by decide) (fun q => ?_) (fun q => ?_)
  · have q := b2i_nz q
    have K0 := K0.1 q
    refine r_aload_n (pc := 68) dX3_readSeries_68 rfl ?_
    refine s_getR (pc := 69) dX3_readSeries_69 fl_X3_12 rfl k_b0 g_b0_0 ?_
    refine r_aload_n (pc := 72) dX3_readSeries_72 rfl ?_
    refine s_getI (pc := 73) dX3_readSeries_73 fl_X3_60 rfl k_b0 ?_
    refine r_aload_n (pc := 76) dX3_readSeries_76 rfl ?_
    refine s_getI (pc := 77) dX3_readSeries_77 fl_X3_63 rfl k_b0 ?_
    refine r_aload_n (pc := 80) dX3_readSeries_80 rfl ?_
    refine s_getI (pc := 81) dX3_readSeries_81 fl_X3_66 rfl k_b0 ?_
    refine r_aload_n (pc := 84) dX3_readSeries_84 rfl ?_
    refine s_getI (pc := 85) dX3_readSeries_85 fl_X3_69 rfl k_b0 ?_
    refine r_aload_n (pc := 88) dX3_readSeries_88 rfl ?_
    refine s_getI (pc := 89) dX3_readSeries_89 fl_X3_72 rfl k_b0 ?_
    refine s_SNI (pc := 92) mX7_spanBits (As := [.int (gi x b0 16), .int (gi x b0 17)]) dX3_readSeries_92 nl_X3_161 st_X7_spanBits mo_X7_spanBits ⟨by decide, by decide⟩ (Nat.le_of_ble_eq_true rfl) (sp_X7_spanBits  ?_)
    refine r_iconst (pc := 95) (v := 0) dX3_readSeries_95 (by decide) ?_
    refine s_VI (pc := 96) mX4_hasPlace (ci := 4) (a := b0_0) (As := [.int (gi x b0 13), .int (gi x b0 14), .int (gi x b0 15), .int (f_sb (gi x b0 16) (gi x b0 17)), .int 0]) dX3_readSeries_96 lk_X3_164 in_X4_hasPlace mo_X4_hasPlace ⟨by decide, rfl⟩ ⟨by decide, by decide⟩ (Nat.le_of_ble_eq_true rfl) k_b0_0 (mSI_mono K0 (fun r_3 y_2 K0 => ?_))
    refine r_if_ne (pc := 99) (tgt := 109) dX3_readSeries_99 (by decide) (fun q => ?_) (fun q => ?_)
    · have K0 := K0.1 q
      refine r_aload_n (pc := 109) dX3_readSeries_109 rfl ?_
      obtain ⟨g_5, K0⟩ := K0
      refine s_getR (pc := 110) dX3_readSeries_110 fl_X3_12 rfl k_b0 g_5 ?_
      refine s_VR (pc := 113) mX4_addSeries (ci := 4) (a := b0_0) (As := []) dX3_readSeries_113 lk_X3_168 in_X4_addSeries mo_X4_addSeries ⟨by decide, rfl⟩ ⟨by decide, by decide⟩ (Nat.le_of_ble_eq_true rfl) k_b0_0 (mSR_mono K0 (fun r_7 y_6 K0 => ?_))
      refine r_astore_n (pc := 116) dX3_readSeries_116 (by decide) ?_
      refine r_aload_n (pc := 117) (L := [some (.ref b0), some (.int l1), some (.ref r_7)]) dX3_readSeries_117 rfl ?_
      refine r_aload_n (pc := 118) dX3_readSeries_118 rfl ?_
      refine s_getI (pc := 119) dX3_readSeries_119 fl_X3_57 rfl k_b0 ?_
      refine r_aload_n (pc := 122) dX3_readSeries_122 rfl ?_
      refine s_getI (pc := 123) dX3_readSeries_123 fl_X3_60 rfl k_b0 ?_
      refine r_aload_n (pc := 126) dX3_readSeries_126 rfl ?_
      refine s_getI (pc := 127) dX3_readSeries_127 fl_X3_63 rfl k_b0 ?_
      refine r_aload_n (pc := 130) dX3_readSeries_130 rfl ?_
      refine s_getI (pc := 131) dX3_readSeries_131 fl_X3_66 rfl k_b0 ?_
      obtain ⟨e_8, K0⟩ := K0
      refine s_VV (pc := 134) mX5_placeAt (ci := 5) (a := r_7) (As := [.int (gi y_6 b0 12), .int (gi y_6 b0 13), .int (gi y_6 b0 14), .int (gi y_6 b0 15)]) dX3_readSeries_134 lk_X3_172 in_X5_placeAt mo_X5_placeAt ⟨by decide, rfl⟩ ⟨by decide, by decide⟩ (Nat.le_of_ble_eq_true rfl) e_8 (mSV_mono K0 (fun y_9 K0 => ?_))
      refine r_aload_n (pc := 137) dX3_readSeries_137 rfl ?_
      refine r_aload_n (pc := 138) dX3_readSeries_138 rfl ?_
      refine s_getI (pc := 139) dX3_readSeries_139 fl_X3_69 rfl k_b0 ?_
      refine r_aload_n (pc := 142) dX3_readSeries_142 rfl ?_
      refine s_getI (pc := 143) dX3_readSeries_143 fl_X3_72 rfl k_b0 ?_
      refine s_VV (pc := 146) mX5_comeWith (ci := 5) (a := r_7) (As := [.int (gi y_9 b0 16), .int (gi y_9 b0 17)]) dX3_readSeries_146 lk_X3_178 in_X5_comeWith mo_X5_comeWith ⟨by decide, rfl⟩ ⟨by decide, by decide⟩ (Nat.le_of_ble_eq_true rfl) e_8 (mSV_mono K0 (fun y_10 K0 => ?_))
      refine r_aload_n (pc := 149) dX3_readSeries_149 rfl ?_
      refine r_iload_n (pc := 150) dX3_readSeries_150 rfl ?_
      obtain ⟨p_11, K0⟩ := K0
      refine s_putZ (pc := 151) dX3_readSeries_151 fl_X3_182 rfl rfl e_8 p_11 ?_
      refine r_aload_n (pc := 154) dX3_readSeries_154 rfl ?_
      refine s_VV (pc := 155) mX3_advance (ci := 3) (a := b0) (As := []) dX3_readSeries_155 lk_X3_87 in_X3_advance mo_X3_advance ⟨by decide, rfl⟩ ⟨by decide, by decide⟩ (Nat.le_of_ble_eq_true rfl) k_b0 (mSV_mono K0 (fun y_12 K0 => ?_))
      refine r_iconst (pc := 158) (v := 1) dX3_readSeries_158 (by decide) ?_
      exact s_zret rfl (by decide) dX3_readSeries_159 K0
    · have K0 := K0.2 q
      refine r_aload_n (pc := 102) dX3_readSeries_102 rfl ?_
      refine r_bipush (pc := 103) (v := 6) dX3_readSeries_103 (by decide) ?_
      refine s_VI (pc := 105) mX3_fail (ci := 3) (a := b0) (As := [.int 6]) dX3_readSeries_105 lk_X3_125 in_X3_fail mo_X3_fail ⟨by decide, rfl⟩ ⟨by decide, by decide⟩ (Nat.le_of_ble_eq_true rfl) k_b0 (mSI_mono K0 (fun r_14 y_13 K0 => ?_))
      obtain ⟨p_15, K0⟩ := K0
      exact s_zret rfl p_15 dX3_readSeries_108 K0
  · have q := (b2i_z _).mp q
    have K0 := K0.2 q
    refine r_aload_n (pc := 62) dX3_readSeries_62 rfl ?_
    refine r_iconst (pc := 63) (v := 1) dX3_readSeries_63 (by decide) ?_
    refine s_VI (pc := 64) mX3_fail (ci := 3) (a := b0) (As := [.int 1]) dX3_readSeries_64 lk_X3_125 in_X3_fail mo_X3_fail ⟨by decide, rfl⟩ ⟨by decide, by decide⟩ (Nat.le_of_ble_eq_true rfl) k_b0 (mSI_mono K0 (fun r_17 y_16 K0 => ?_))
    obtain ⟨p_18, K0⟩ := K0
    exact s_zret rfl p_18 dX3_readSeries_67 K0
section
theorem lp_X3_readSeries_53 {x : Cn} {Q : Int32 → Cn → Prop} {b : TT} {n q r : Nat} {T : TT} {lim l1 : Int32} {W C S A : Nat} (hW : 5 ≤ W) (c : CS x b n r T lim W C S A) (hS : S < 24) (o1 : okP b n q T C) (o2 : okN b n (nxt b n 4 q) W) (p1 : PLc x b n q T C) (p2 : gi x 59 16 = nI (tV b n (nxt b n 4 q)) ∧ gi x 59 17 = nI (tV b n (nxt b n 6 q))) (hl : l1 = nwv b n (nxt b n 7 q)) (k1 : sg b n r 59 → fitC T S 0 (wnp b n (nxt b n 1 q)) (tV b n (nxt b n 2 q)) (wyo b n (nxt b n 3 q)) (spw b n q) 0 → ∀ y, SCf x y → CS y b n (tE b n r) (adT T S (srF b n q T C)) lim W C (S + 1) A → Q 1 y) (k0 : ¬ (sg b n r 59 ∧ fitC T S 0 (wnp b n (nxt b n 1 q)) (tV b n (nxt b n 2 q)) (wyo b n (nxt b n 3 q)) (spw b n q) 0) → ∀ y, SCf x y → Q 0 y) : GI mX3_readSeries 53 [some (.ref 59), some (.int l1), none] [] KW x Q := by
  have hW3 : W ≤ 30 := c.2.2.2.2.1.2.2.2.2.2.1
  obtain ⟨⟨cc, hc, ec⟩, ⟨d, hd, ed⟩, hh, f1, f2⟩ := cm_ok hW o1 o2
  refine v_X3_readSeries_53 k59 c.1.2.2.2.2.1 k60 ?_
  rw [c.2.1.s 59]
  refine ⟨fun o3 => ?_, fun o3 => sp_X3_fail (fun y f => ⟨Or.inl rfl, k0 (fun o => o3 o.1) y f.sc⟩)⟩
  have hsb : f_sb (nI (tV b n (nxt b n 4 q))) (nI (tV b n (nxt b n 6 q))) = spw b n q := sb_span (by omega) (by omega)
  rw [p1.2.1, p1.2.2.1, p1.2.2.2, p2.1, p2.2, hsb]
  refine sp_X4_hasPlace c.2.2.2.2.1 hh (fun y1 f => ?_)
  have s1 : SCf x y1 := EQx.sc f (by omega)
  refine ⟨fun z => ?_, fun z => sp_X3_fail (fun y f' => ⟨Or.inl rfl, k0 (fun o => absurd z (by rw [bP_t o.2]; decide)) y (s1.tr f'.sc)⟩)⟩
  have o4 : fitC T S 0 (wnp b n (nxt b n 1 q)) (tV b n (nxt b n 2 q)) (wyo b n (nxt b n 3 q)) (spw b n q) 0 := by
    refine Classical.byContradiction (fun w => z ?_)
    exact bP_f w
  have g1 : ∀ a j, gr y1 a j = gr x a j := fun a j => by unfold gr; rw [f.1]
  have c1 : CS y1 b n r T lim W C S A := ⟨c.1.mv f.1 (fun a k h => f.2 a k (by omega)), c.2.1.mv (fun k _ _ => f.2 59 k (by omega)), c.2.2.1, (f.2 59 11 (by omega)).trans c.2.2.2.1, c.2.2.2.2.1.eqx f (Or.inl rfl), c.2.2.2.2.2.keep (f.2 114 0 (by omega)) (fun i => f.2 115 i (by omega)) (fun _ _ => rfl)⟩
  have pp : ∀ k, gi y1 59 k = gi x 59 k := fun k => f.2 59 k (by omega)
  refine ⟨c1.1.2.2.2.2.1, ?_⟩
  have E := c1.2.2.2.2.1
  obtain ⟨j, hj, ej⟩ := E.2.1.2.2.2.2.2.1 S hS
  refine v_X4_addSeries_0 k60 E.2.1.2.2.1 (ks3 E.1) ?_
  have mi : (if (23 : Int32) < nI S then 23 else nI S) = nI S := if_neg (fun g => absurd ((nI_ltI (a := 23) (b := S) (by decide) (by omega)).mp g) (by omega))
  rw [c1.s2.2.1, mi, nI_clamp (by omega), nI_1]
  refine ⟨vp_in_nI (by omega) (by decide), 60 + 6 + j, ej, ks6 E.1 hj, v_X5_placeAt_0 (ks6 E.1 hj) (v_X5_comeWith_0 (ks6 E.1 hj) (v_X5_openIn_0 (ks6 E.1 hj) ⟨by rw [hl]; exact b2i_01 _, ?_⟩))⟩
  have u59 : ∀ k, gi (ui y1 60 3 (nI (S + 1))) 59 k = gi x 59 k := fun k => by rw [gi_ui, if_neg (by omega)]; exact pp k
  have v59 : ∀ (a0 a1 a2 a3 : Int32) (k : Nat), gi (ui (ui (ui (ui (ui y1 60 3 (nI (S + 1))) (60 + 6 + j) 0 a0) (60 + 6 + j) 1 a1) (60 + 6 + j) 2 a2) (60 + 6 + j) 3 a3) 59 k = gi x 59 k := fun a0 a1 a2 a3 k => by
    rw [gi_ui, if_neg (by omega), gi_ui, if_neg (by omega), gi_ui, if_neg (by omega), gi_ui, if_neg (by omega)]; exact u59 k
  rw [v59, v59, u59, u59, u59, u59, p1.1, p1.2.1, p1.2.2.1, p1.2.2.2, p2.1, p2.2, hsb]
  have off : ∀ (z : Cn), z = ui (ui (ui (ui (ui (ui (ui (ui (ui (ui (ui (ui (ui y1 60 3 (nI (S + 1))) (60 + 6 + j) 0 (fnd T C (vnm b n q))) (60 + 6 + j) 1 (wnp b n (nxt b n 1 q))) (60 + 6 + j) 2 (nI (tV b n (nxt b n 2 q)))) (60 + 6 + j) 3 (wyo b n (nxt b n 3 q))) (60 + 6 + j) 5 (nI (tV b n (nxt b n 4 q)))) (60 + 6 + j) 6 (nI (tV b n (nxt b n 6 q)))) (60 + 6 + j) 7 (spw b n q)) (60 + 6 + j) 8 0) (60 + 6 + j) 9 0) (60 + 6 + j) 10 0) (60 + 6 + j) 11 0) (60 + 6 + j) 4 l1 → z.2 = y1.2 ∧ (∀ a i, a ≠ 60 + 6 + j → ¬ (a = 60 ∧ i = 3) → gi z a i = gi y1 a i) ∧ gi z 60 3 = nI (S + 1) ∧ ∀ k, k < 12 → gi z (60 + 6 + j) k = srF b n q T C k := by
    intro z hz
    subst hz
    refine ⟨rfl, fun a i h1 h2 => ?_, ?_, fun k hk => ?_⟩
    · simp only [gi_ui, h1, false_and, if_false]
      rw [if_neg h2]
    · simp [gi_ui, show ¬ (60 : Nat) = 60 + 6 + j by omega]
    · rcases lt12 hk with rfl | rfl | rfl | rfl | rfl | rfl | rfl | rfl | rfl | rfl | rfl | rfl <;> simp [gi_ui, srF, hl]
  generalize ui (ui (ui (ui (ui (ui (ui (ui (ui (ui (ui (ui (ui y1 60 3 (nI (S + 1))) (60 + 6 + j) 0 (fnd T C (vnm b n q))) (60 + 6 + j) 1 (wnp b n (nxt b n 1 q))) (60 + 6 + j) 2 (nI (tV b n (nxt b n 2 q)))) (60 + 6 + j) 3 (wyo b n (nxt b n 3 q))) (60 + 6 + j) 5 (nI (tV b n (nxt b n 4 q)))) (60 + 6 + j) 6 (nI (tV b n (nxt b n 6 q)))) (60 + 6 + j) 7 (spw b n q)) (60 + 6 + j) 8 0) (60 + 6 + j) 9 0) (60 + 6 + j) 10 0) (60 + 6 + j) 11 0) (60 + 6 + j) 4 l1 = u at off
  obtain ⟨w1, w2, w3, w4⟩ := off u rfl
  have E2 := E.b.addS (f := srF b n q T C) (p := 60 + 6 + j) hS ej w1 (fun a i _ _ h3 h4 _ => w2 a i h3 h4) w3 w4 (fun k h8 h12 => by unfold srF; rw [if_neg (by omega), if_neg (by omega), if_neg (by omega), if_neg (by omega), if_neg (by omega), if_neg (by omega), if_neg (by omega), if_neg (by omega)]) (Wse.rd hW hW3 o1 o2)
  have E3 : SEA u 60 (adT T S (srF b n q T C)) W C (S + 1) A 0 := E2.w (fun h hh => by rw [adT_off (by omega) (by omega), adT_off (by omega) (by omega)]; exact E.2.2.2.2.2.2.2.2.2.2.2.2.2.2.1 h hh)
  have c2 : CS u b n r (adT T S (srF b n q T C)) lim W C (S + 1) A := ⟨c1.1.mv w1 (fun a k h => w2 a k (by omega) (by omega)), c1.2.1.mv (fun k _ _ => w2 59 k (by omega) (by omega)), c.2.2.1, (w2 59 11 (by omega) (by omega)).trans c1.2.2.2.1, E3, c1.2.2.2.2.2.keep (w2 114 0 (by omega) (by omega)) (fun i => w2 115 i (by omega) (by omega)) (fun i hi => adT_off (by omega) (by have := E.2.2.2.2.2.2.2.1; omega))⟩
  have s2 : SCf x u := s1.tr ⟨w1, fun a k h => w2 a k (by omega) (by omega)⟩
  exact ad_c c2.1 c2.2.1 c.2.2.1 (fun y3 f3 B3 t3 => k1 o3 o4 y3 (s2.tr f3.sc) (c2.at f3 t3 (tE_b c.2.2.1).2.1))
theorem sp_X3_readSeries {x : Cn} {Q : Int32 → Cn → Prop} {b : TT} {n p : Nat} {T : TT} {lim : Int32} {W C S A : Nat} (hW : 5 ≤ W) (c : CS x b n p T lim W C S A) (k1 : okS b n (tE b n p) T W C S → ∀ y, SCf x y → CS y b n (tE b n (nwp b n (nxt b n 7 (tE b n p)))) (adT T S (srF b n (tE b n p) T C)) lim W C (S + 1) A → Q 1 y) (k0 : ¬ okS b n (tE b n p) T W C S → ∀ y, SCf x y → Q 0 y) : mSI mX3_readSeries [.ref 59] KW x Q := by
  have hp := c.2.2.1
  have q1 : tE b n p ≤ n := (tE_b hp).2.1
  have hS : S ≤ 24 := c.2.2.2.2.1.2.2.2.2.2.2.2.2.2.1
  refine v_X3_readSeries_0 k59 c.1.2.2.2.2.1 k60 ?_
  rw [c.s2.2.1]
  have eS : nI S < 24 ↔ S < 24 := nI_ltI (a := S) (b := 24) (by omega) (by omega)
  refine ⟨fun z => ?_, fun z => sp_X3_fail (fun y f => ⟨Or.inl rfl, k0 (fun o => z (eS.mpr o.1)) y f.sc⟩)⟩
  have o0 := eS.mp z
  refine ad_c c.1 c.2.1 hp (fun y1 f1 B1 t1 => ?_)
  generalize tE b n p = q at t1 q1 k1 k0
  have q7 : nxt b n 7 q ≤ n := nxt_le q1
  have c1 := c.at f1 t1 q1
  refine sp_X3_readPlace c1 (fun o1 y2 f2 c2 p2 => ⟨fun z => absurd z (by decide), fun _ => ?_⟩) (fun o1 y2 f2 => ⟨fun _ => k0 (fun o => o1 o.2.1) y2 (f1.sc.tr f2), fun z => absurd rfl z⟩)
  refine sp_X3_readSpan hW c2 (fun o2 y3 f3 c3 p3 p16 p17 => ⟨fun _ => ?_, fun z => absurd z (by decide)⟩) (fun o2 y3 f3 => ⟨fun z => absurd rfl z, fun _ => k0 (fun o => o2 o.2.2.1) y3 ((f1.sc.tr f2).tr f3)⟩)
  rw [nxt_n] at c3 p17
  have c3 : CS y3 b n (nxt b n 7 q) T lim W C S A := c3
  have p17 : gi y3 59 17 = nI (tV b n (nxt b n 6 q)) := p17
  have g3 : SCf x y3 := (f1.sc.tr f2).tr f3
  have e14 : (gi y3 59 9 = 1 ∧ gi y3 59 10 = 14) ↔ (tK b n (nxt b n 7 q) = 1 ∧ wnp b n (nxt b n 7 q) = 14) := c3.2.1.w 14
  have hl : b2i (gi y3 59 9 = 1 ∧ gi y3 59 10 = 14) = nwv b n (nxt b n 7 q) := b2i_cg e14
  have p3' : PLc y3 b n q T C := ⟨(p3 12 (by omega) (by omega)).trans p2.1, (p3 13 (by omega) (by omega)).trans p2.2.1, (p3 14 (by omega) (by omega)).trans p2.2.2.1, (p3 15 (by omega) (by omega)).trans p2.2.2.2⟩
  rw [hl]
  refine ⟨fun z => ?_, fun z => ad_c c3.1 c3.2.1 q7 (fun y4 f4 B4 t4 => ?_)⟩
  · have er : nwp b n (nxt b n 7 q) = nxt b n 7 q := by unfold nwp; rw [if_neg (fun w => z (e14.mpr w))]
    rw [er] at k1
    have k0' : ¬ (sg b n (nxt b n 7 q) 59 ∧ fitC T S 0 (wnp b n (nxt b n 1 q)) (tV b n (nxt b n 2 q)) (wyo b n (nxt b n 3 q)) (spw b n q) 0) → ¬ okS b n q T W C S := fun o3 o => o3 (by have h := o.2.2.2; rw [er] at h; exact h)
    exact lp_X3_readSeries_53 (q := q) hW c3 o0 o1 o2 p3' ⟨p16, p17⟩ rfl (fun o3 o4 y f c' => k1 ⟨o0, o1, o2, by rw [er]; exact o3, o4⟩ y (g3.tr f) c') (fun o3 y f => k0 (k0' o3) y (g3.tr f))
  · have er : nwp b n (nxt b n 7 q) = tE b n (nxt b n 7 q) := by unfold nwp; rw [if_pos (e14.mp z)]
    rw [er] at k1
    have k0' : ¬ (sg b n (tE b n (nxt b n 7 q)) 59 ∧ fitC T S 0 (wnp b n (nxt b n 1 q)) (tV b n (nxt b n 2 q)) (wyo b n (nxt b n 3 q)) (spw b n q) 0) → ¬ okS b n q T W C S := fun o3 o => o3 (by have h := o.2.2.2; rw [er] at h; exact h)
    have c4 := c3.at f4 t4 (tE_b q7).2.1
    exact lp_X3_readSeries_53 (q := q) hW c4 o0 o1 o2 ⟨(f4.2 59 12 (by omega)).trans p3'.1, (f4.2 59 13 (by omega)).trans p3'.2.1, (f4.2 59 14 (by omega)).trans p3'.2.2.1, (f4.2 59 15 (by omega)).trans p3'.2.2.2⟩ ⟨(f4.2 59 16 (by omega)).trans p16, (f4.2 59 17 (by omega)).trans p17⟩ rfl (fun o3 o4 y f c' => k1 ⟨o0, o1, o2, by rw [er]; exact o3, o4⟩ y ((g3.tr f4.sc).tr f) c') (fun o3 y f => k0 (k0' o3) y ((g3.tr f4.sc).tr f))
/-! an ask -/
def isBy (b : TT) (n r : Nat) : Prop := tK b n r = 1 ∧ wnp b n r = 15
def byp (b : TT) (n r : Nat) : Nat := if tK b n r = 1 ∧ wnp b n r = 15 then nxt b n 2 r else r
def byv (b : TT) (n r : Nat) : Nat := if tK b n r = 1 ∧ wnp b n r = 15 then tV b n (nxt b n 1 r) else 0
def akF (b : TT) (n q : Nat) (T : TT) (C : Nat) : Nat → Int32 := fun k => if k = 0 then fnd T C (vnm b n q) else if k = 1 then wnp b n (nxt b n 1 q) else if k = 2 then nI (tV b n (nxt b n 2 q)) else if k = 3 then wyo b n (nxt b n 3 q) else if k = 4 then nI (tV b n (nxt b n 4 q)) else if k = 5 then nI (tV b n (nxt b n 6 q)) else nI (byv b n (nxt b n 7 q))
def okQ (b : TT) (n q : Nat) (T : TT) (W C A : Nat) : Prop := A < 24 ∧ okP b n q T C ∧ okN b n (nxt b n 4 q) W ∧ (isBy b n (nxt b n 7 q) → nb b n (nxt b n 8 q) 0 9) ∧ sg b n (byp b n (nxt b n 7 q)) 59
theorem Was.rd {b : TT} {n q W C A : Nat} {T : TT} (hW : 5 ≤ W) (h1 : okP b n q T C) (h2 : okN b n (nxt b n 4 q) W) (h3 : isBy b n (nxt b n 7 q) → nb b n (nxt b n 8 q) 0 9) : Was (askT T A (akF b n q T C)) C W A := by
  obtain ⟨⟨c, hc, ec⟩, ⟨d, hd, ed⟩, hh, f1, f2⟩ := cm_ok hW h1 h2
  have e : ∀ k, k < 7 → ao (askT T A (akF b n q T C)) A k = akF b n q T C k := fun k hk => ao_askT hk
  have hb : byv b n (nxt b n 7 q) ≤ 9 := by
    unfold byv
    by_cases z : tK b n (nxt b n 7 q) = 1 ∧ wnp b n (nxt b n 7 q) = 15
    · rw [if_pos z]; exact (h3 z).2.2
    · rw [if_neg z]; omega
  exact ⟨⟨c, hc, by rw [e 0 (by decide)]; exact ec⟩, ⟨d, hd, by rw [e 1 (by decide)]; exact ed⟩, ⟨_, hh, by rw [e 2 (by decide)]; rfl⟩, by rw [e 3 (by decide)]; exact wyo_01 _ _ _, ⟨_, _, f1, f2, by rw [e 4 (by decide)]; rfl, by rw [e 5 (by decide)]; rfl⟩, _, hb, by rw [e 6 (by decide)]; rfl⟩
end
set_option maxHeartbeats 2000000 in
theorem v_X3_readAsk_0 {K : Sh} {x : Cn} {Q : Int32 → Cn → Prop} {b0 : Nat} {b0_0 : Nat} (k_b0 : kk K b0 = some (3, 0)) (g_b0_0 : gr x b0 0 = some b0_0) (k_b0_0 : kk K b0_0 = some (4, 0)) (K0 : ((gi x b0_0 4) < 24 → (mSV mX3_advance [.ref b0] K x (fun y_2 => mSI mX3_readPlace [.ref b0] K y_2 (fun r_4 y_3 => (r_4 = 0 → (Q 0 y_3)) ∧ (¬ r_4 = 0 → (mSI mX3_readSpan [.ref b0] K y_3 (fun r_7 y_6 => (¬ r_7 = 0 → ((¬ (gi y_6 b0 9 = 1 ∧ gi y_6 b0 10 = 15) → (GI mX3_readAsk 74 [some (.ref b0), some (.int 0), none] [] K y_6 Q)) ∧ ((gi y_6 b0 9 = 1 ∧ gi y_6 b0 10 = 15) → (mSV mX3_advance [.ref b0] K y_6 (fun y_10 => mSI mX3_isNumber [.ref b0, .int 0, .int 9] K y_10 (fun r_12 y_11 => (¬ r_12 = 0 → (mSV mX3_advance [.ref b0] K y_11 (fun y_14 => GI mX3_readAsk 74 [some (.ref b0), some (.int (gi y_11 b0 10)), none] [] K y_14 Q))) ∧ (r_12 = 0 → (Q 0 y_11)))))))) ∧ (r_7 = 0 → (Q 0 y_6))))))))) ∧ (¬ (gi x b0_0 4) < 24 → (mSI mX3_fail [.ref b0, .int 5] K x (fun r_16 y_15 => (r_16 = 0 ∨ r_16 = 1) ∧ (Q r_16 y_15))))) : mSI mX3_readAsk [.ref b0] K x Q := by
  refine s_I (by decide) (by simp [Value.category]) (Nat.le_of_ble_eq_true rfl) ?_
  show mGM mX3_readAsk 0 [some (.ref b0), none, none] [] (hp K x) (PI K Q)
  refine r_aload_n (pc := 0) dX3_readAsk_0 rfl ?_
  refine s_getR (pc := 1) dX3_readAsk_1 fl_X3_12 rfl k_b0 g_b0_0 ?_
  refine s_getI (pc := 4) dX3_readAsk_4 fl_X3_186 rfl k_b0_0 ?_
  refine r_bipush (pc := 7) (v := 24) dX3_readAsk_7 (by decide) ?_
  refine r_icmp_lt (pc := 9) (tgt := 18) dX3_readAsk_9 (by decide) (fun q => ?_) (fun q => ?_)
  · have K0 := K0.1 q
    refine r_aload_n (pc := 18) dX3_readAsk_18 rfl ?_
    refine s_VV (pc := 19) mX3_advance (ci := 3) (a := b0) (As := []) dX3_readAsk_19 lk_X3_87 in_X3_advance mo_X3_advance ⟨by decide, rfl⟩ ⟨by decide, by decide⟩ (Nat.le_of_ble_eq_true rfl) k_b0 (mSV_mono K0 (fun y_2 K0 => ?_))
    refine r_aload_n (pc := 22) dX3_readAsk_22 rfl ?_
    refine s_VI (pc := 23) mX3_readPlace (ci := 3) (a := b0) (As := []) dX3_readAsk_23 lk_X3_152 in_X3_readPlace mo_X3_readPlace ⟨by decide, rfl⟩ ⟨by decide, by decide⟩ (Nat.le_of_ble_eq_true rfl) k_b0 (mSI_mono K0 (fun r_4 y_3 K0 => ?_))
    refine r_if_eq (pc := 26) (tgt := 36) dX3_readAsk_26 (by decide) (fun q => ?_) (fun q => ?_)
    · have K0 := K0.1 q
      refine r_iconst (pc := 36) (v := 0) dX3_readAsk_36 (by decide) ?_
      exact s_zret rfl (by decide) dX3_readAsk_37 K0
    · have K0 := K0.2 q
      refine r_aload_n (pc := 29) dX3_readAsk_29 rfl ?_
      refine s_VI (pc := 30) mX3_readSpan (ci := 3) (a := b0) (As := []) dX3_readAsk_30 lk_X3_155 in_X3_readSpan mo_X3_readSpan ⟨by decide, rfl⟩ ⟨by decide, by decide⟩ (Nat.le_of_ble_eq_true rfl) k_b0 (mSI_mono K0 (fun r_7 y_6 K0 => ?_))
      refine r_if_ne (pc := 33) (tgt := 38) dX3_readAsk_33 (by decide) (fun q => ?_) (fun q => ?_)
      · have K0 := K0.1 q
        refine r_iconst (pc := 38) (v := 0) dX3_readAsk_38 (by decide) ?_
        refine r_istore_n (pc := 39) dX3_readAsk_39 (by decide) ?_
        refine r_aload_n (pc := 40) (L := [some (.ref b0), some (.int 0), none]) dX3_readAsk_40 rfl ?_
        refine r_bipush (pc := 41) (v := 15) dX3_readAsk_41 (by decide) ?_
        refine s_VI (pc := 43) mX3_isWord (ci := 3) (a := b0) (As := [.int 15]) dX3_readAsk_43 lk_X3_110 in_X3_isWord mo_X3_isWord ⟨by decide, rfl⟩ ⟨by decide, by decide⟩ (Nat.le_of_ble_eq_true rfl) k_b0 (sp_X3_isWord k_b0 ?_)
        refine r_if_eq (pc := 46) (tgt := 74) dX3_readAsk_46 (by decide) (fun q => ?_) (fun q => ?_)
        · have q := (b2i_z _).mp q
          have K0 := K0.1 q
          exact r_le (L' := [some (.ref b0), some (.int 0), none]) ⟨rfl, ⟨rfl, trivial⟩⟩ K0
        · have q := b2i_nz q
          have K0 := K0.2 q
          refine r_aload_n (pc := 49) dX3_readAsk_49 rfl ?_
          refine s_VV (pc := 50) mX3_advance (ci := 3) (a := b0) (As := []) dX3_readAsk_50 lk_X3_87 in_X3_advance mo_X3_advance ⟨by decide, rfl⟩ ⟨by decide, by decide⟩ (Nat.le_of_ble_eq_true rfl) k_b0 (mSV_mono K0 (fun y_10 K0 => ?_))
          refine r_aload_n (pc := 53) dX3_readAsk_53 rfl ?_
          refine r_iconst (pc := 54) (v := 0) dX3_readAsk_54 (by decide) ?_
          refine r_bipush (pc := 55) (v := 9) dX3_readAsk_55 (by decide) ?_
          refine s_VI (pc := 57) mX3_isNumber (ci := 3) (a := b0) (As := [.int 0, .int 9]) dX3_readAsk_57 lk_X3_101 in_X3_isNumber mo_X3_isNumber ⟨by decide, rfl⟩ ⟨by decide, by decide⟩ (Nat.le_of_ble_eq_true rfl) k_b0 (mSI_mono K0 (fun r_12 y_11 K0 => ?_))
          refine r_if_ne (pc := 60) (tgt := 65) dX3_readAsk_60 (by decide) (fun q => ?_) (fun q => ?_)
          · have K0 := K0.1 q
            refine r_aload_n (pc := 65) dX3_readAsk_65 rfl ?_
            refine s_getI (pc := 66) dX3_readAsk_66 fl_X3_51 rfl k_b0 ?_
            refine r_istore_n (pc := 69) dX3_readAsk_69 (by decide) ?_
            refine r_aload_n (pc := 70) (L := [some (.ref b0), some (.int (gi y_11 b0 10)), none]) dX3_readAsk_70 rfl ?_
            refine s_VV (pc := 71) mX3_advance (ci := 3) (a := b0) (As := []) dX3_readAsk_71 lk_X3_87 in_X3_advance mo_X3_advance ⟨by decide, rfl⟩ ⟨by decide, by decide⟩ (Nat.le_of_ble_eq_true rfl) k_b0 (mSV_mono K0 (fun y_14 K0 => ?_))
            exact r_le (L' := [some (.ref b0), some (.int (gi y_11 b0 10)), none]) ⟨rfl, ⟨rfl, trivial⟩⟩ K0
          · have K0 := K0.2 q
            refine r_iconst (pc := 63) (v := 0) dX3_readAsk_63 (by decide) ?_
            exact s_zret rfl (by decide) dX3_readAsk_64 K0
      · have K0 := K0.2 q
        refine r_iconst (pc := 36) (v := 0) dX3_readAsk_36 (by decide) ?_
        exact s_zret rfl (by decide) dX3_readAsk_37 K0
  · have K0 := K0.2 q
    refine r_aload_n (pc := 12) dX3_readAsk_12 rfl ?_
    refine r_iconst (pc := 13) (v := 5) dX3_readAsk_13 (by decide) ?_
    refine s_VI (pc := 14) mX3_fail (ci := 3) (a := b0) (As := [.int 5]) dX3_readAsk_14 lk_X3_125 in_X3_fail mo_X3_fail ⟨by decide, rfl⟩ ⟨by decide, by decide⟩ (Nat.le_of_ble_eq_true rfl) k_b0 (mSI_mono K0 (fun r_16 y_15 K0 => ?_))
    obtain ⟨p_17, K0⟩ := K0
    exact s_zret rfl p_17 dX3_readAsk_17 K0
set_option maxHeartbeats 2000000 in
theorem v_X3_readAsk_74 {K : Sh} {x : Cn} {Q : Int32 → Cn → Prop} {b0 : Nat} {l1 : Int32} {b0_0 : Nat} (k_b0 : kk K b0 = some (3, 0)) (g_b0_0 : gr x b0 0 = some b0_0) (k_b0_0 : kk K b0_0 = some (4, 0)) (K0 : mSR mX4_addAsk [.ref b0_0] K x (fun r_2 y_1 => kk K r_2 = some (0, 0) ∧ (mSV mX0_placeAt [.ref r_2, .int (gi y_1 b0 12), .int (gi y_1 b0 13), .int (gi y_1 b0 14), .int (gi y_1 b0 15)] K y_1 (fun y_4 => mSV mX0_span [.ref r_2, .int (gi y_4 b0 16), .int (gi y_4 b0 17), .int l1] K y_4 (fun y_5 => mSI mX3_takeSign [.ref b0, .int 59] K y_5 (fun r_7 y_6 => (r_7 = 0 ∨ r_7 = 1) ∧ (Q r_7 y_6))))))) : GI mX3_readAsk 74 [some (.ref b0), some (.int l1), none] [] K x Q := by
  show mGM mX3_readAsk 74 [some (.ref b0), some (.int l1), none] [] (hp K x) (PI K Q)
  refine r_aload_n (pc := 74) dX3_readAsk_74 rfl ?_
  refine s_getR (pc := 75) dX3_readAsk_75 fl_X3_12 rfl k_b0 g_b0_0 ?_
  refine s_VR (pc := 78) mX4_addAsk (ci := 4) (a := b0_0) (As := []) dX3_readAsk_78 lk_X3_189 in_X4_addAsk mo_X4_addAsk ⟨by decide, rfl⟩ ⟨by decide, by decide⟩ (Nat.le_of_ble_eq_true rfl) k_b0_0 (mSR_mono K0 (fun r_2 y_1 K0 => ?_))
  refine r_astore_n (pc := 81) dX3_readAsk_81 (by decide) ?_
  refine r_aload_n (pc := 82) (L := [some (.ref b0), some (.int l1), some (.ref r_2)]) dX3_readAsk_82 rfl ?_
  refine r_aload_n (pc := 83) dX3_readAsk_83 rfl ?_
  refine s_getI (pc := 84) dX3_readAsk_84 fl_X3_57 rfl k_b0 ?_
  refine r_aload_n (pc := 87) dX3_readAsk_87 rfl ?_
  refine s_getI (pc := 88) dX3_readAsk_88 fl_X3_60 rfl k_b0 ?_
  refine r_aload_n (pc := 91) dX3_readAsk_91 rfl ?_
  refine s_getI (pc := 92) dX3_readAsk_92 fl_X3_63 rfl k_b0 ?_
  refine r_aload_n (pc := 95) dX3_readAsk_95 rfl ?_
  refine s_getI (pc := 96) dX3_readAsk_96 fl_X3_66 rfl k_b0 ?_
  obtain ⟨e_3, K0⟩ := K0
  refine s_VV (pc := 99) mX0_placeAt (ci := 0) (a := r_2) (As := [.int (gi y_1 b0 12), .int (gi y_1 b0 13), .int (gi y_1 b0 14), .int (gi y_1 b0 15)]) dX3_readAsk_99 lk_X3_193 in_X0_placeAt mo_X0_placeAt ⟨by decide, rfl⟩ ⟨by decide, by decide⟩ (Nat.le_of_ble_eq_true rfl) e_3 (mSV_mono K0 (fun y_4 K0 => ?_))
  refine r_aload_n (pc := 102) dX3_readAsk_102 rfl ?_
  refine r_aload_n (pc := 103) dX3_readAsk_103 rfl ?_
  refine s_getI (pc := 104) dX3_readAsk_104 fl_X3_69 rfl k_b0 ?_
  refine r_aload_n (pc := 107) dX3_readAsk_107 rfl ?_
  refine s_getI (pc := 108) dX3_readAsk_108 fl_X3_72 rfl k_b0 ?_
  refine r_iload_n (pc := 111) dX3_readAsk_111 rfl ?_
  refine s_VV (pc := 112) mX0_span (ci := 0) (a := r_2) (As := [.int (gi y_4 b0 16), .int (gi y_4 b0 17), .int l1]) dX3_readAsk_112 lk_X3_196 in_X0_span mo_X0_span ⟨by decide, rfl⟩ ⟨by decide, by decide⟩ (Nat.le_of_ble_eq_true rfl) e_3 (mSV_mono K0 (fun y_5 K0 => ?_))
  refine r_aload_n (pc := 115) dX3_readAsk_115 rfl ?_
  refine r_bipush (pc := 116) (v := 59) dX3_readAsk_116 (by decide) ?_
  refine s_VI (pc := 118) mX3_takeSign (ci := 3) (a := b0) (As := [.int 59]) dX3_readAsk_118 lk_X3_106 in_X3_takeSign mo_X3_takeSign ⟨by decide, rfl⟩ ⟨by decide, by decide⟩ (Nat.le_of_ble_eq_true rfl) k_b0 (mSI_mono K0 (fun r_7 y_6 K0 => ?_))
  obtain ⟨p_8, K0⟩ := K0
  exact s_zret rfl p_8 dX3_readAsk_121 K0
section
theorem lp_X3_readAsk_74 {x : Cn} {Q : Int32 → Cn → Prop} {b : TT} {n q r : Nat} {T : TT} {lim l1 : Int32} {W C S A : Nat} (hW : 5 ≤ W) (c : CS x b n r T lim W C S A) (hA : A < 24) (o1 : okP b n q T C) (o2 : okN b n (nxt b n 4 q) W) (o3 : isBy b n (nxt b n 7 q) → nb b n (nxt b n 8 q) 0 9) (p1 : PLc x b n q T C) (p2 : gi x 59 16 = nI (tV b n (nxt b n 4 q)) ∧ gi x 59 17 = nI (tV b n (nxt b n 6 q))) (hl : l1 = nI (byv b n (nxt b n 7 q))) (k1 : sg b n r 59 → ∀ y, SCf x y → CS y b n (tE b n r) (askT T A (akF b n q T C)) lim W C S (A + 1) → Q 1 y) (k0 : ¬ sg b n r 59 → ∀ y, SCf x y → Q 0 y) : GI mX3_readAsk 74 [some (.ref 59), some (.int l1), none] [] KW x Q := by
  refine v_X3_readAsk_74 k59 c.1.2.2.2.2.1 k60 ?_
  have E := c.2.2.2.2.1
  obtain ⟨j, hj, ej⟩ := E.2.1.2.2.2.2.2.2.2.1 A hA
  refine v_X4_addAsk_0 k60 E.2.1.2.2.2.1 (ks4 E.1) ?_
  have mi : (if (23 : Int32) < nI A then 23 else nI A) = nI A := if_neg (fun g => absurd ((nI_ltI (a := 23) (b := A) (by decide) (by omega)).mp g) (by omega))
  rw [c.s2.2.2.1, mi, nI_clamp (by omega), nI_1]
  refine ⟨vp_in_nI (by omega) (by decide), 60 + 30 + j, ej, ks30 E.1 hj, v_X0_placeAt_0 (ks30 E.1 hj) (v_X0_span_0 (ks30 E.1 hj) ?_)⟩
  have u59 : ∀ k, gi (ui x 60 4 (nI (A + 1))) 59 k = gi x 59 k := fun k => by rw [gi_ui, if_neg (by omega)]
  have v59 : ∀ (a0 a1 a2 a3 : Int32) (k : Nat), gi (ui (ui (ui (ui (ui x 60 4 (nI (A + 1))) (60 + 30 + j) 0 a0) (60 + 30 + j) 1 a1) (60 + 30 + j) 2 a2) (60 + 30 + j) 3 a3) 59 k = gi x 59 k := fun a0 a1 a2 a3 k => by
    rw [gi_ui, if_neg (by omega), gi_ui, if_neg (by omega), gi_ui, if_neg (by omega), gi_ui, if_neg (by omega)]; exact u59 k
  rw [v59, v59, u59, u59, u59, u59, p1.1, p1.2.1, p1.2.2.1, p1.2.2.2, p2.1, p2.2]
  have off : ∀ (z : Cn), z = ui (ui (ui (ui (ui (ui (ui (ui x 60 4 (nI (A + 1))) (60 + 30 + j) 0 (fnd T C (vnm b n q))) (60 + 30 + j) 1 (wnp b n (nxt b n 1 q))) (60 + 30 + j) 2 (nI (tV b n (nxt b n 2 q)))) (60 + 30 + j) 3 (wyo b n (nxt b n 3 q))) (60 + 30 + j) 4 (nI (tV b n (nxt b n 4 q)))) (60 + 30 + j) 5 (nI (tV b n (nxt b n 6 q)))) (60 + 30 + j) 6 l1 → z.2 = x.2 ∧ (∀ a i, a ≠ 60 + 30 + j → ¬ (a = 60 ∧ i = 4) → gi z a i = gi x a i) ∧ gi z 60 4 = nI (A + 1) ∧ ∀ k, k < 7 → gi z (60 + 30 + j) k = akF b n q T C k := by
    intro z hz
    subst hz
    refine ⟨rfl, fun a i h1 h2 => ?_, ?_, fun k hk => ?_⟩
    · simp only [gi_ui, h1, false_and, if_false]
      rw [if_neg h2]
    · simp [gi_ui, show ¬ (60 : Nat) = 60 + 30 + j by omega]
    · rcases lt7 hk with rfl | rfl | rfl | rfl | rfl | rfl | rfl <;> simp [gi_ui, akF, hl]
  generalize ui (ui (ui (ui (ui (ui (ui (ui x 60 4 (nI (A + 1))) (60 + 30 + j) 0 (fnd T C (vnm b n q))) (60 + 30 + j) 1 (wnp b n (nxt b n 1 q))) (60 + 30 + j) 2 (nI (tV b n (nxt b n 2 q)))) (60 + 30 + j) 3 (wyo b n (nxt b n 3 q))) (60 + 30 + j) 4 (nI (tV b n (nxt b n 4 q)))) (60 + 30 + j) 5 (nI (tV b n (nxt b n 6 q)))) (60 + 30 + j) 6 l1 = u at off
  obtain ⟨w1, w2, w3, w4⟩ := off u rfl
  have E2 : SEA u 60 (askT T A (akF b n q T C)) W C S (A + 1) 0 := E.addA (p := 60 + 30 + j) hA ej w1 (fun a i _ _ h3 h4 _ => w2 a i h3 h4) w3 (fun k hk => by rw [w4 k hk, ao_askT hk]) (fun i _ h3 h4 => askT_off h3 h4) (if_pos rfl) (Was.rd hW o1 o2 o3)
  have c2 : CS u b n r (askT T A (akF b n q T C)) lim W C S (A + 1) := ⟨c.1.mv w1 (fun a k h => w2 a k (by omega) (by omega)), c.2.1.mv (fun k _ _ => w2 59 k (by omega) (by omega)), c.2.2.1, (w2 59 11 (by omega) (by omega)).trans c.2.2.2.1, E2, c.2.2.2.2.2.keep (w2 114 0 (by omega) (by omega)) (fun i => w2 115 i (by omega) (by omega)) (fun i hi => askT_off (by omega) (by have := E.2.2.2.2.2.2.2.1; omega))⟩
  have s2 : SCf x u := ⟨w1, fun a k h => w2 a k (by omega) (by omega)⟩
  exact sp_X3_takeSign c2.1 c2.2.1 c.2.2.1 (fun o y3 f3 B3 t3 => ⟨Or.inr rfl, k1 o y3 (s2.tr f3.sc) (c2.at f3 t3 (tE_b c.2.2.1).2.1)⟩) (fun o y3 f3 => ⟨Or.inl rfl, k0 o y3 (s2.tr f3.sc)⟩)
theorem sp_X3_readAsk {x : Cn} {Q : Int32 → Cn → Prop} {b : TT} {n p : Nat} {T : TT} {lim : Int32} {W C S A : Nat} (hW : 5 ≤ W) (c : CS x b n p T lim W C S A) (k1 : okQ b n (tE b n p) T W C A → ∀ y, SCf x y → CS y b n (tE b n (byp b n (nxt b n 7 (tE b n p)))) (askT T A (akF b n (tE b n p) T C)) lim W C S (A + 1) → Q 1 y) (k0 : ¬ okQ b n (tE b n p) T W C A → ∀ y, SCf x y → Q 0 y) : mSI mX3_readAsk [.ref 59] KW x Q := by
  have hp := c.2.2.1
  have q1 : tE b n p ≤ n := (tE_b hp).2.1
  have hA : A ≤ 24 := c.2.2.2.2.1.2.2.2.2.2.2.2.2.2.2.2.1
  refine v_X3_readAsk_0 k59 c.1.2.2.2.2.1 k60 ?_
  rw [c.s2.2.2.1]
  have eA : nI A < 24 ↔ A < 24 := nI_ltI (a := A) (b := 24) (by omega) (by omega)
  refine ⟨fun z => ?_, fun z => sp_X3_fail (fun y f => ⟨Or.inl rfl, k0 (fun o => z (eA.mpr o.1)) y f.sc⟩)⟩
  have o0 := eA.mp z
  refine ad_c c.1 c.2.1 hp (fun y1 f1 B1 t1 => ?_)
  generalize tE b n p = q at t1 q1 k1 k0
  have q7 : nxt b n 7 q ≤ n := nxt_le q1
  have q8 : nxt b n 8 q ≤ n := nxt_le q1
  have q9 : nxt b n 9 q ≤ n := nxt_le q1
  have c1 := c.at f1 t1 q1
  refine sp_X3_readPlace c1 (fun o1 y2 f2 c2 p2 => ⟨fun z => absurd z (by decide), fun _ => ?_⟩) (fun o1 y2 f2 => ⟨fun _ => k0 (fun o => o1 o.2.1) y2 (f1.sc.tr f2), fun z => absurd rfl z⟩)
  refine sp_X3_readSpan hW c2 (fun o2 y3 f3 c3 p3 p16 p17 => ⟨fun _ => ?_, fun z => absurd z (by decide)⟩) (fun o2 y3 f3 => ⟨fun z => absurd rfl z, fun _ => k0 (fun o => o2 o.2.2.1) y3 ((f1.sc.tr f2).tr f3)⟩)
  rw [nxt_n] at c3 p17
  have c3 : CS y3 b n (nxt b n 7 q) T lim W C S A := c3
  have p17 : gi y3 59 17 = nI (tV b n (nxt b n 6 q)) := p17
  have g3 : SCf x y3 := (f1.sc.tr f2).tr f3
  have e15 : (gi y3 59 9 = 1 ∧ gi y3 59 10 = 15) ↔ isBy b n (nxt b n 7 q) := c3.2.1.w 15
  have p3' : PLc y3 b n q T C := ⟨(p3 12 (by omega) (by omega)).trans p2.1, (p3 13 (by omega) (by omega)).trans p2.2.1, (p3 14 (by omega) (by omega)).trans p2.2.2.1, (p3 15 (by omega) (by omega)).trans p2.2.2.2⟩
  rw [e15]
  refine ⟨fun z => ?_, fun z => ad_c c3.1 c3.2.1 q7 (fun y4 f4 B4 t4 => ?_)⟩
  · have z' : ¬ (tK b n (nxt b n 7 q) = 1 ∧ wnp b n (nxt b n 7 q) = 15) := z
    have er : byp b n (nxt b n 7 q) = nxt b n 7 q := by unfold byp; rw [if_neg z']
    have ev : (0 : Int32) = nI (byv b n (nxt b n 7 q)) := by unfold byv; rw [if_neg z']; rfl
    rw [er] at k1
    have k0' : ¬ sg b n (nxt b n 7 q) 59 → ¬ okQ b n q T W C A := fun o3 o => o3 (by have h := o.2.2.2.2; rw [er] at h; exact h)
    exact lp_X3_readAsk_74 (q := q) hW c3 o0 o1 o2 (fun w => absurd w z) p3' ⟨p16, p17⟩ ev (fun o3 y f c' => k1 ⟨o0, o1, o2, fun w => absurd w z, by rw [er]; exact o3⟩ y (g3.tr f) c') (fun o3 y f => k0 (k0' o3) y (g3.tr f))
  · have z' : tK b n (nxt b n 7 q) = 1 ∧ wnp b n (nxt b n 7 q) = 15 := z
    have er : byp b n (nxt b n 7 q) = nxt b n 9 q := by unfold byp; rw [if_pos z', nxt_n]
    rw [er] at k1
    have t4 : CTk y4 b n (nxt b n 8 q) := t4
    have c4 := c3.at f4 t4 q8
    refine sp_X3_isNumber (lo := 0) (hi := 9) t4 (by omega) (by omega) (fun o3 => ⟨fun _ => ?_, fun z => absurd z (by decide)⟩) (fun o3 y5 f5 => ⟨fun z => absurd rfl z, fun _ => k0 (fun o => o3 (o.2.2.2.1 z)) y5 ((g3.tr f4.sc).tr f5.sc)⟩)
    have hv := t4.2.2.2.2.1 o3.1
    rw [(mn5 o3.2.2 (by omega)).1] at hv
    have ev : gi y4 59 10 = nI (byv b n (nxt b n 7 q)) := by rw [hv]; unfold byv; rw [if_pos z', nxt_n]
    refine ad_c B4 t4 q8 (fun y5 f5 B5 t5 => ?_)
    have t5 : CTk y5 b n (nxt b n 9 q) := t5
    have c5 := c4.at f5 t5 q9
    have pq : ∀ k, 12 ≤ k → gi y5 59 k = gi y3 59 k := fun k hk => (f5.2 59 k (by omega)).trans (f4.2 59 k (by omega))
    have k0' : ¬ sg b n (nxt b n 9 q) 59 → ¬ okQ b n q T W C A := fun o3 o => o3 (by have h := o.2.2.2.2; rw [er] at h; exact h)
    exact lp_X3_readAsk_74 (q := q) hW c5 o0 o1 o2 (fun _ => o3) ⟨(pq 12 (by omega)).trans p3'.1, (pq 13 (by omega)).trans p3'.2.1, (pq 14 (by omega)).trans p3'.2.2.1, (pq 15 (by omega)).trans p3'.2.2.2⟩ ⟨(pq 16 (by omega)).trans p16, (pq 17 (by omega)).trans p17⟩ ev (fun o4 y f c' => k1 ⟨o0, o1, o2, fun _ => o3, by rw [er]; exact o4⟩ y (((g3.tr f4.sc).tr f5.sc).tr f) c') (fun o4 y f => k0 (k0' o4) y (((g3.tr f4.sc).tr f5.sc).tr f))

end

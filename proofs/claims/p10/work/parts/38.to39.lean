/-! 38.reads6.lean.txt -/
section
theorem km725 : kk KW 725 = some (21, 3000) := by decide
theorem k176 : kk KW 176 = some (21, 2400) := by decide
theorem CRf.c10 {x : Cn} (h : CRf x) : gr x 0 10 = some 175 := h.2.2.2.2.2.2.1
theorem CRf.c175 {x : Cn} (h : CRf x) : gr x 175 0 = some 176 := h.2.2.2.2.2.2.2.2.2.2.2.2.2.2.2.2.1
theorem TPr.keep {x y : Cn} (h : TPr x) (h1 : gi y 0 1 = gi x 0 1) (h2 : gi y 717 5 = gi x 717 5) (h3 : ∀ i, gi y 1 i = gi x 1 i) (h4 : ∀ i, gi y 720 i = gi x 720 i) : TPr y := by
  obtain ⟨n, n1, n2, n3, n4⟩ := h
  exact ⟨n, n1, h1.trans n2, h2.trans n3, fun i hi => by rw [h3, h4]; exact n4 i hi⟩
theorem OUr.keep {x y : Cn} (h : OUr x) (h1 : gi y 175 1 = gi x 175 1) (h2 : gi y 717 22 = gi x 717 22) (h3 : ∀ i, gi y 176 i = gi x 176 i) (h4 : ∀ i, gi y 725 i = gi x 725 i) : OUr y := by
  obtain ⟨n, n1, n2, n3, n4⟩ := h
  exact ⟨n, n1, h1.trans n2, h2.trans n3, fun i hi => by rw [h3, h4]; exact n4 i hi⟩
theorem NMr.keep {x y : Cn} {nb C : Nat} {T T' : TT} (h : NMr x nb T C) (h1 : gi y nb 0 = gi x nb 0) (h2 : ∀ i, gi y (nb + 1) i = gi x (nb + 1) i) (h3 : ∀ c, c < C → T' (54 + c) = T (54 + c)) : NMr y nb T' C := by
  refine ⟨h1.trans h.1, fun c hc => ?_⟩
  obtain ⟨v, v1, v2, v3⟩ := h.2 c hc
  exact ⟨v, v1, (h3 c hc).trans v2, fun i hi => by rw [h2]; exact v3 i hi⟩
theorem HSr.keep {x y : Cn} {T T' : TT} {C : Nat} (c : CRf x) (h : HSr x T C) (h0 : y.2 = x.2) (h1 : gi y 717 19 = gi x 717 19) (h2 : gi y 0 5 = gi x 0 5) (h3 : ∀ a k, 177 ≤ a → a < 717 → gi y a k = gi x a k) (h4 : ∀ i, gi y 724 i = gi x 724 i) (h5 : ∀ c, c < C → T' (54 + c) = T (54 + c)) : HSr y T' C := by
  obtain ⟨n, n1, n2, n3, n4⟩ := h
  refine ⟨n, n1, h1.trans n2, h2.trans n3, fun j hj => ?_⟩
  obtain ⟨q, W, S, A, N, q1, q2, q3⟩ := n4 j hj
  obtain ⟨i, hi, ei⟩ := c.2.2.2.2.2.2.2.2.2.2.2.2.2.2.2.2.2.2.2.2.1 j (by omega)
  have hq : q = 177 + 54 * i := Option.some.inj (q1.symm.trans ei)
  have eT : (fun i => gi y 724 (518 * j + i)) = fun i => gi x 724 (518 * j + i) := by funext k; exact h4 _
  have hg : ∀ b k, gr y b k = gr x b k := fun b k => by unfold gr; rw [h0]
  refine ⟨q, W, S, A, N, by rw [hg]; exact q1, ?_, fun c hc => ?_⟩
  · rw [eT]
    exact q2.keep h0 (fun a k h1 h2 h9 => h3 a k (by omega) (by omega))
  · rw [h4, h5 c hc]
    exact q3 c hc
set_option maxHeartbeats 2000000 in
theorem v_X7_octet_0 {K : Sh} {x : Cn} {Q : Int32 → Cn → Prop} {b0 : Nat} {l1 : Int32} {b0_10 : Nat} {b0_10_0 : Nat} {n_b0_10_0 : Nat} (k_b0 : kk K b0 = some (7, 0)) (g_b0_10 : gr x b0 10 = some b0_10) (k_b0_10 : kk K b0_10 = some (6, 0)) (g_b0_10_0 : gr x b0_10 0 = some b0_10_0) (k_b0_10_0 : kk K b0_10_0 = some (21, n_b0_10_0)) (K0 : (l1 < 0 → (Q (-1) x)) ∧ (¬ l1 < 0 → ((l1 < (gi x b0_10 1) → (vp_in l1 n_b0_10_0 ∧ (Q (gi x b0_10_0 (l1 : Int32).toNatClampNeg) x))) ∧ (¬ l1 < (gi x b0_10 1) → (Q (-1) x))))) : mSI mX7_octet [.ref b0, .int l1] K x Q := by
  refine s_I (by decide) (by simp [Value.category]) (Nat.le_of_ble_eq_true rfl) ?_
  show mGM mX7_octet 0 [some (.ref b0), some (.int l1)] [] (hp K x) (PI K Q)
  refine r_iload_n (pc := 0) dX7_octet_0 rfl ?_
  refine r_if_lt (pc := 1) (tgt := 15) dX7_octet_1 (by decide) (fun q => ?_) (fun q => ?_)
  · have K0 := K0.1 q
    refine r_iconst (pc := 15) (v := (-1)) dX7_octet_15 (by decide) ?_
    exact s_iret rfl dX7_octet_16 K0
  · have K0 := K0.2 q
    refine r_iload_n (pc := 4) dX7_octet_4 rfl ?_
    refine r_aload_n (pc := 5) dX7_octet_5 rfl ?_
    refine s_getR (pc := 6) dX7_octet_6 fl_X7_61 rfl k_b0 g_b0_10 ?_
    refine s_getI (pc := 9) dX7_octet_9 fl_X7_383 rfl k_b0_10 ?_
    refine r_icmp_lt (pc := 12) (tgt := 17) dX7_octet_12 (by decide) (fun q => ?_) (fun q => ?_)
    · have K0 := K0.1 q
      refine r_aload_n (pc := 17) dX7_octet_17 rfl ?_
      refine s_getR (pc := 18) dX7_octet_18 fl_X7_61 rfl k_b0 g_b0_10 ?_
      refine s_getR (pc := 21) dX7_octet_21 fl_X7_384 rfl k_b0_10 g_b0_10_0 ?_
      refine r_iload_n (pc := 24) dX7_octet_24 rfl ?_
      obtain ⟨i_3, K0⟩ := K0
      refine s_bald (pc := 25) dX7_octet_25 k_b0_10_0 i_3 ?_
      exact s_iret rfl dX7_octet_26 K0
    · have K0 := K0.2 q
      refine r_iconst (pc := 15) (v := (-1)) dX7_octet_15 (by decide) ?_
      exact s_iret rfl dX7_octet_16 K0
set_option maxHeartbeats 2000000 in
theorem v_X8_octet_0 {K : Sh} {x : Cn} {Q : Int32 → Cn → Prop} {b0 : Nat} {l1 : Int32} {b0_21 : Nat} {n_b0_21 : Nat} (k_b0 : kk K b0 = some (8, 0)) (g_b0_21 : gr x b0 21 = some b0_21) (k_b0_21 : kk K b0_21 = some (21, n_b0_21)) (K0 : (¬ (0 ≤ l1 ∧ l1 ≤ ((gi x b0 22) - 1)) → (Q (-1) x)) ∧ ((0 ≤ l1 ∧ l1 ≤ ((gi x b0 22) - 1)) → (vp_in l1 n_b0_21 ∧ (Q (gi x b0_21 (l1 : Int32).toNatClampNeg) x)))) : mSI mX8_octet [.ref b0, .int l1] K x Q := by
  refine s_I (by decide) (by simp [Value.category]) (Nat.le_of_ble_eq_true rfl) ?_
  show mGM mX8_octet 0 [some (.ref b0), some (.int l1)] [] (hp K x) (PI K Q)
  refine r_iload_n (pc := 0) dX8_octet_0 rfl ?_
  refine r_i2l (pc := 1) dX8_octet_1 ?_
  refine r_lconst (pc := 2) (v := 0) dX8_octet_2 (by decide) ?_
  refine r_aload_n (pc := 3) dX8_octet_3 rfl ?_
  refine s_getI (pc := 4) dX8_octet_4 fl_X8_398 rfl k_b0 ?_
  refine r_iconst (pc := 7) (v := 1) dX8_octet_7 (by decide) ?_
  refine r_isub (pc := 8) dX8_octet_8 ?_
  refine r_i2l (pc := 9) dX8_octet_9 ?_
  refine s_SI (pc := 10) mX8_in (As := [.long ((l1 : Int32).toInt64), .long 0, .long ((((gi x b0 22) - 1) : Int32).toInt64)]) dX8_octet_10 lk_X8_45 st_X8_in mo_X8_in ⟨by decide, by decide⟩ (Nat.le_of_ble_eq_true rfl) (sq_X8_in (v := l1) (lo := 0) (hi := ((gi x b0 22) - 1)) rfl (by decide) rfl ?_)
  refine r_if_eq (pc := 13) (tgt := 25) dX8_octet_13 (by decide) (fun q => ?_) (fun q => ?_)
  · have q := (b2i_z _).mp q
    have K0 := K0.1 q
    refine r_iconst (pc := 25) (v := (-1)) dX8_octet_25 (by decide) ?_
    exact s_iret rfl dX8_octet_26 K0
  · have q := b2i_nz q
    have K0 := K0.2 q
    refine r_aload_n (pc := 16) dX8_octet_16 rfl ?_
    refine s_getR (pc := 17) dX8_octet_17 fl_X8_39 rfl k_b0 g_b0_21 ?_
    refine r_iload_n (pc := 20) dX8_octet_20 rfl ?_
    obtain ⟨i_2, K0⟩ := K0
    refine s_bald (pc := 21) dX8_octet_21 k_b0_21 i_2 ?_
    refine r_goto (pc := 22) (tgt := 26) dX8_octet_22 (by decide) ?_
    exact s_iret rfl dX8_octet_26 K0
set_option maxHeartbeats 2000000 in
theorem v_X7_end_0 {K : Sh} {x : Cn} {Q : Int32 → Cn → Prop} {b0 : Nat} {l1 : Int32}  (k_b0 : kk K b0 = some (7, 0)) (K0 : (l1 < 0 → (Q (-1) x)) ∧ (¬ l1 < 0 → ((l1 ≤ (gi x b0 1) → (Q l1 (ui x b0 1 l1))) ∧ (¬ l1 ≤ (gi x b0 1) → (Q (-1) x))))) : mSI mX7_end [.ref b0, .int l1] K x Q := by
  refine s_I (by decide) (by simp [Value.category]) (Nat.le_of_ble_eq_true rfl) ?_
  show mGM mX7_end 0 [some (.ref b0), some (.int l1)] [] (hp K x) (PI K Q)
  refine r_iload_n (pc := 0) dX7_end_0 rfl ?_
  refine r_if_lt (pc := 1) (tgt := 12) dX7_end_1 (by decide) (fun q => ?_) (fun q => ?_)
  · have K0 := K0.1 q
    refine r_iconst (pc := 12) (v := (-1)) dX7_end_12 (by decide) ?_
    exact s_iret rfl dX7_end_13 K0
  · have K0 := K0.2 q
    refine r_iload_n (pc := 4) dX7_end_4 rfl ?_
    refine r_aload_n (pc := 5) dX7_end_5 rfl ?_
    refine s_getI (pc := 6) dX7_end_6 fl_X7_13 rfl k_b0 ?_
    refine r_icmp_le (pc := 9) (tgt := 14) dX7_end_9 (by decide) (fun q => ?_) (fun q => ?_)
    · have K0 := K0.1 q
      refine r_aload_n (pc := 14) dX7_end_14 rfl ?_
      refine r_iload_n (pc := 15) dX7_end_15 rfl ?_
      refine s_putI (pc := 16) dX7_end_16 fl_X7_13 rfl rfl k_b0 ?_
      refine r_iload_n (pc := 19) dX7_end_19 rfl ?_
      exact s_iret rfl dX7_end_20 K0
    · have K0 := K0.2 q
      refine r_iconst (pc := 12) (v := (-1)) dX7_end_12 (by decide) ?_
      exact s_iret rfl dX7_end_13 K0
set_option maxHeartbeats 2000000 in
theorem v_X8_end_0 {K : Sh} {x : Cn} {Q : Int32 → Cn → Prop} {b0 : Nat} {l1 : Int32}  (k_b0 : kk K b0 = some (8, 0)) (K0 : ((0 ≤ l1 ∧ l1 ≤ (gi x b0 5)) → (Q l1 (ui x b0 5 l1))) ∧ (¬ (0 ≤ l1 ∧ l1 ≤ (gi x b0 5)) → (Q (-1) x))) : mSI mX8_end [.ref b0, .int l1] K x Q := by
  refine s_I (by decide) (by simp [Value.category]) (Nat.le_of_ble_eq_true rfl) ?_
  show mGM mX8_end 0 [some (.ref b0), some (.int l1)] [] (hp K x) (PI K Q)
  refine r_iload_n (pc := 0) dX8_end_0 rfl ?_
  refine r_i2l (pc := 1) dX8_end_1 ?_
  refine r_lconst (pc := 2) (v := 0) dX8_end_2 (by decide) ?_
  refine r_aload_n (pc := 3) dX8_end_3 rfl ?_
  refine s_getI (pc := 4) dX8_end_4 fl_X8_94 rfl k_b0 ?_
  refine r_i2l (pc := 7) dX8_end_7 ?_
  refine s_SI (pc := 8) mX8_in (As := [.long ((l1 : Int32).toInt64), .long 0, .long (((gi x b0 5) : Int32).toInt64)]) dX8_end_8 lk_X8_45 st_X8_in mo_X8_in ⟨by decide, by decide⟩ (Nat.le_of_ble_eq_true rfl) (sq_X8_in (v := l1) (lo := 0) (hi := (gi x b0 5)) rfl (by decide) rfl ?_)
  refine r_if_ne (pc := 11) (tgt := 16) dX8_end_11 (by decide) (fun q => ?_) (fun q => ?_)
  · have q := b2i_nz q
    have K0 := K0.1 q
    refine r_aload_n (pc := 16) dX8_end_16 rfl ?_
    refine r_iload_n (pc := 17) dX8_end_17 rfl ?_
    refine s_putI (pc := 18) dX8_end_18 fl_X8_94 rfl rfl k_b0 ?_
    refine r_iload_n (pc := 21) dX8_end_21 rfl ?_
    exact s_iret rfl dX8_end_22 K0
  · have q := (b2i_z _).mp q
    have K0 := K0.2 q
    refine r_iconst (pc := 14) (v := (-1)) dX8_end_14 (by decide) ?_
    exact s_iret rfl dX8_end_15 K0
set_option maxHeartbeats 2000000 in
theorem v_X7_clash_0 {K : Sh} {x : Cn} {Q : Int32 → Cn → Prop} {b0 : Nat} {l1 : Int32} {l2 : Int32} {b0_2 : Nat} {b0_2_8 : Nat} {n_b0_2_8 : Nat} (k_b0 : kk K b0 = some (7, 0)) (g_b0_2 : gr x b0 2 = some b0_2) (k_b0_2 : kk K b0_2 = some (4, 0)) (g_b0_2_8 : gr x b0_2 8 = some b0_2_8) (k_b0_2_8 : kk K b0_2_8 = some (24, n_b0_2_8)) (K0 : (¬ (0 ≤ l1 ∧ l1 < gi x b0_2 4) → (Q (-2) x)) ∧ ((0 ≤ l1 ∧ l1 < gi x b0_2 4) → (((0 ≤ l2 ∧ l2 < gi x b0_2 4) → (vp_in l1 n_b0_2_8 ∧ (∃ c_4 : Nat, gr x b0_2_8 ((l1 : Int32).toNatClampNeg) = some c_4 ∧ (vp_in l2 n_b0_2_8 ∧ (∃ c_7 : Nat, gr x b0_2_8 ((l2 : Int32).toNatClampNeg) = some c_7 ∧ (kk K c_4 = some (0, 0) ∧ (kk K c_7 = some (0, 0) ∧ ((¬ (gi x c_4 1) = (gi x c_7 1) → (Q 0 x)) ∧ ((gi x c_4 1) = (gi x c_7 1) → (((gi x c_4 2) = (gi x c_7 2) → (Q (nI (cpt ((f_sb (gi x c_4 4) (gi x c_4 5)) &&& (f_sb (gi x c_7 4) (gi x c_7 5))))) x)) ∧ (¬ (gi x c_4 2) = (gi x c_7 2) → (Q 0 x)))))))))))) ∧ (¬ (0 ≤ l2 ∧ l2 < gi x b0_2 4) → (Q (-2) x))))) : mSI mX7_clash [.ref b0, .int l1, .int l2] K x Q := by
  refine s_I (by decide) (by simp [Value.category]) (Nat.le_of_ble_eq_true rfl) ?_
  show mGM mX7_clash 0 [some (.ref b0), some (.int l1), some (.int l2), none, none] [] (hp K x) (PI K Q)
  refine r_aload_n (pc := 0) dX7_clash_0 rfl ?_
  refine r_iload_n (pc := 1) dX7_clash_1 rfl ?_
  refine s_VI (pc := 2) mX7_isAsk (ci := 7) (a := b0) (As := [.int l1]) dX7_clash_2 lk_X7_173 in_X7_isAsk mo_X7_isAsk ⟨by decide, rfl⟩ ⟨by decide, by decide⟩ (Nat.le_of_ble_eq_true rfl) k_b0 (sp_X7_isAsk k_b0 g_b0_2 k_b0_2 ?_)
  refine r_if_eq (pc := 5) (tgt := 16) dX7_clash_5 (by decide) (fun q => ?_) (fun q => ?_)
  · have q := (b2i_z _).mp q
    have K0 := K0.1 q
    refine r_bipush (pc := 16) (v := (-2)) dX7_clash_16 (by decide) ?_
    exact s_iret rfl dX7_clash_18 K0
  · have q := b2i_nz q
    have K0 := K0.2 q
    refine r_aload_n (pc := 8) dX7_clash_8 rfl ?_
    refine r_iload_n (pc := 9) dX7_clash_9 rfl ?_
    refine s_VI (pc := 10) mX7_isAsk (ci := 7) (a := b0) (As := [.int l2]) dX7_clash_10 lk_X7_173 in_X7_isAsk mo_X7_isAsk ⟨by decide, rfl⟩ ⟨by decide, by decide⟩ (Nat.le_of_ble_eq_true rfl) k_b0 (sp_X7_isAsk k_b0 g_b0_2 k_b0_2 ?_)
    refine r_if_ne (pc := 13) (tgt := 19) dX7_clash_13 (by decide) (fun q => ?_) (fun q => ?_)
    · have q := b2i_nz q
      have K0 := K0.1 q
      refine r_aload_n (pc := 19) dX7_clash_19 rfl ?_
      refine s_getR (pc := 20) dX7_clash_20 fl_X7_20 rfl k_b0 g_b0_2 ?_
      refine s_getR (pc := 23) dX7_clash_23 fl_X7_176 rfl k_b0_2 g_b0_2_8 ?_
      refine r_iload_n (pc := 26) dX7_clash_26 rfl ?_
      obtain ⟨i_3, K0⟩ := K0
      obtain ⟨c_4, g_5, K0⟩ := K0
      refine s_aald (pc := 27) dX7_clash_27 (by decide) rfl k_b0_2_8 i_3 g_5 ?_
      refine r_astore_n (pc := 28) dX7_clash_28 (by decide) ?_
      refine r_aload_n (pc := 29) (L := [some (.ref b0), some (.int l1), some (.int l2), some (.ref c_4), none]) dX7_clash_29 rfl ?_
      refine s_getR (pc := 30) dX7_clash_30 fl_X7_20 rfl k_b0 g_b0_2 ?_
      refine s_getR (pc := 33) dX7_clash_33 fl_X7_176 rfl k_b0_2 g_b0_2_8 ?_
      refine r_iload_n (pc := 36) dX7_clash_36 rfl ?_
      obtain ⟨i_6, K0⟩ := K0
      obtain ⟨c_7, g_8, K0⟩ := K0
      refine s_aald (pc := 37) dX7_clash_37 (by decide) rfl k_b0_2_8 i_6 g_8 ?_
      refine r_astore (pc := 38) dX7_clash_38 (by decide) ?_
      refine r_aload_n (pc := 40) (L := [some (.ref b0), some (.int l1), some (.int l2), some (.ref c_4), some (.ref c_7)]) dX7_clash_40 rfl ?_
      obtain ⟨e_9, K0⟩ := K0
      refine s_getI (pc := 41) dX7_clash_41 fl_X7_183 rfl e_9 ?_
      refine r_aload (pc := 44) dX7_clash_44 rfl ?_
      obtain ⟨e_10, K0⟩ := K0
      refine s_getI (pc := 46) dX7_clash_46 fl_X7_183 rfl e_10 ?_
      refine r_icmp_ne (pc := 49) (tgt := 64) dX7_clash_49 (by decide) (fun q => ?_) (fun q => ?_)
      · have K0 := K0.1 q
        refine r_iconst (pc := 64) (v := 0) dX7_clash_64 (by decide) ?_
        exact s_iret rfl dX7_clash_65 K0
      · have K0 := K0.2 q
        refine r_aload_n (pc := 52) dX7_clash_52 rfl ?_
        refine s_getI (pc := 53) dX7_clash_53 fl_X7_184 rfl e_9 ?_
        refine r_aload (pc := 56) dX7_clash_56 rfl ?_
        refine s_getI (pc := 58) dX7_clash_58 fl_X7_184 rfl e_10 ?_
        refine r_icmp_eq (pc := 61) (tgt := 66) dX7_clash_61 (by decide) (fun q => ?_) (fun q => ?_)
        · have K0 := K0.1 q
          refine r_aload_n (pc := 66) dX7_clash_66 rfl ?_
          refine s_VI (pc := 67) mX0_wantedBits (ci := 0) (a := c_4) (As := []) dX7_clash_67 lk_X7_307 in_X0_wantedBits mo_X0_wantedBits ⟨by decide, rfl⟩ ⟨by decide, by decide⟩ (Nat.le_of_ble_eq_true rfl) e_9 (sp_X0_wantedBits e_9 ?_)
          refine r_aload (pc := 70) dX7_clash_70 rfl ?_
          refine s_VI (pc := 72) mX0_wantedBits (ci := 0) (a := c_7) (As := []) dX7_clash_72 lk_X7_307 in_X0_wantedBits mo_X0_wantedBits ⟨by decide, rfl⟩ ⟨by decide, by decide⟩ (Nat.le_of_ble_eq_true rfl) e_10 (sp_X0_wantedBits e_10 ?_)
          refine r_iand (pc := 75) dX7_clash_75 ?_
          refine s_SI (pc := 76) mJ6_bitCount_0f7a4 (As := [.int ((f_sb (gi x c_4 4) (gi x c_4 5)) &&& (f_sb (gi x c_7 4) (gi x c_7 5)))]) dX7_clash_76 lk_X7_255 st_J6_bitCount_0f7a4 mo_J6_bitCount_0f7a4 ⟨by decide, by decide⟩ (Nat.le_of_ble_eq_true rfl) (sp_bc  ?_)
          exact s_iret rfl dX7_clash_79 K0
        · have K0 := K0.2 q
          refine r_iconst (pc := 64) (v := 0) dX7_clash_64 (by decide) ?_
          exact s_iret rfl dX7_clash_65 K0
    · have q := (b2i_z _).mp q
      have K0 := K0.2 q
      refine r_bipush (pc := 16) (v := (-2)) dX7_clash_16 (by decide) ?_
      exact s_iret rfl dX7_clash_18 K0
set_option maxHeartbeats 2000000 in
theorem v_X8_clash_0 {K : Sh} {x : Cn} {Q : Int32 → Cn → Prop} {b0 : Nat} {l1 : Int32} {l2 : Int32} {b0_1 : Nat} {n_b0_1 : Nat} {b0_3 : Nat} {n_b0_3 : Nat} (k_b0 : kk K b0 = some (8, 0)) (g_b0_1 : gr x b0 1 = some b0_1) (k_b0_1 : kk K b0_1 = some (20, n_b0_1)) (g_b0_3 : gr x b0 3 = some b0_3) (k_b0_3 : kk K b0_3 = some (20, n_b0_3)) (K0 : vp_in 3 n_b0_1 ∧ ((¬ (0 ≤ l1 ∧ l1 ≤ gi x b0_1 3 - 1) → (Q (-2) x)) ∧ ((0 ≤ l1 ∧ l1 ≤ gi x b0_1 3 - 1) → (((0 ≤ l2 ∧ l2 ≤ gi x b0_1 3 - 1) → ((l24 l1 n_b0_3) ∧ ((l24 l2 n_b0_3) ∧ ((¬ (ao (gi x b0_3) (l1 : Int32).toNatClampNeg 1) = (ao (gi x b0_3) (l2 : Int32).toNatClampNeg 1) → (Q 0 x)) ∧ ((ao (gi x b0_3) (l1 : Int32).toNatClampNeg 1) = (ao (gi x b0_3) (l2 : Int32).toNatClampNeg 1) → ((¬ (ao (gi x b0_3) (l1 : Int32).toNatClampNeg 2) = (ao (gi x b0_3) (l2 : Int32).toNatClampNeg 2) → (Q 0 x)) ∧ ((ao (gi x b0_3) (l1 : Int32).toNatClampNeg 2) = (ao (gi x b0_3) (l2 : Int32).toNatClampNeg 2) → (Q (nI (cpt ((f_span (ao (gi x b0_3) (l1 : Int32).toNatClampNeg 4) (ao (gi x b0_3) (l1 : Int32).toNatClampNeg 5)) &&& (f_span (ao (gi x b0_3) (l2 : Int32).toNatClampNeg 4) (ao (gi x b0_3) (l2 : Int32).toNatClampNeg 5))))) x)))))))) ∧ (¬ (0 ≤ l2 ∧ l2 ≤ gi x b0_1 3 - 1) → (Q (-2) x)))))) : mSI mX8_clash [.ref b0, .int l1, .int l2] K x Q := by
  refine s_I (by decide) (by simp [Value.category]) (Nat.le_of_ble_eq_true rfl) ?_
  show mGM mX8_clash 0 [some (.ref b0), some (.int l1), some (.int l2), none] [] (hp K x) (PI K Q)
  refine r_aload_n (pc := 0) dX8_clash_0 rfl ?_
  refine r_iload_n (pc := 1) dX8_clash_1 rfl ?_
  obtain ⟨i_1, K0⟩ := K0
  refine s_VI (pc := 2) mX8_isAsk (ci := 8) (a := b0) (As := [.int l1]) dX8_clash_2 lk_X8_281 in_X8_isAsk mo_X8_isAsk ⟨by decide, rfl⟩ ⟨by decide, by decide⟩ (Nat.le_of_ble_eq_true rfl) k_b0 (sp_X8_isAsk k_b0 g_b0_1 k_b0_1 i_1 ?_)
  refine r_if_eq (pc := 5) (tgt := 16) dX8_clash_5 (by decide) (fun q => ?_) (fun q => ?_)
  · have q := (b2i_z _).mp q
    have K0 := K0.1 q
    refine r_bipush (pc := 16) (v := (-2)) dX8_clash_16 (by decide) ?_
    exact s_iret rfl dX8_clash_18 K0
  · have q := b2i_nz q
    have K0 := K0.2 q
    refine r_aload_n (pc := 8) dX8_clash_8 rfl ?_
    refine r_iload_n (pc := 9) dX8_clash_9 rfl ?_
    refine s_VI (pc := 10) mX8_isAsk (ci := 8) (a := b0) (As := [.int l2]) dX8_clash_10 lk_X8_281 in_X8_isAsk mo_X8_isAsk ⟨by decide, rfl⟩ ⟨by decide, by decide⟩ (Nat.le_of_ble_eq_true rfl) k_b0 (sp_X8_isAsk k_b0 g_b0_1 k_b0_1 i_1 ?_)
    refine r_if_ne (pc := 13) (tgt := 19) dX8_clash_13 (by decide) (fun q => ?_) (fun q => ?_)
    · have q := b2i_nz q
      have K0 := K0.1 q
      refine r_aload_n (pc := 19) dX8_clash_19 rfl ?_
      refine r_iload_n (pc := 20) dX8_clash_20 rfl ?_
      refine r_iconst (pc := 21) (v := 1) dX8_clash_21 (by decide) ?_
      obtain ⟨p_4, K0⟩ := K0
      refine s_VI (pc := 22) mX8_ask0 (ci := 8) (a := b0) (As := [.int l1, .int 1]) dX8_clash_22 lk_X8_284 in_X8_ask0 mo_X8_ask0 ⟨by decide, rfl⟩ ⟨by decide, by decide⟩ (Nat.le_of_ble_eq_true rfl) k_b0 (sr_X8_ask0 k_b0 g_b0_3 k_b0_3 p_4 ⟨by decide, by decide⟩ ?_)
      refine r_aload_n (pc := 25) dX8_clash_25 rfl ?_
      refine r_iload_n (pc := 26) dX8_clash_26 rfl ?_
      refine r_iconst (pc := 27) (v := 1) dX8_clash_27 (by decide) ?_
      obtain ⟨p_5, K0⟩ := K0
      refine s_VI (pc := 28) mX8_ask0 (ci := 8) (a := b0) (As := [.int l2, .int 1]) dX8_clash_28 lk_X8_284 in_X8_ask0 mo_X8_ask0 ⟨by decide, rfl⟩ ⟨by decide, by decide⟩ (Nat.le_of_ble_eq_true rfl) k_b0 (sr_X8_ask0 k_b0 g_b0_3 k_b0_3 p_5 ⟨by decide, by decide⟩ ?_)
      refine r_icmp_ne (pc := 31) (tgt := 53) dX8_clash_31 (by decide) (fun q => ?_) (fun q => ?_)
      · have K0 := K0.1 q
        refine r_iconst (pc := 53) (v := 0) dX8_clash_53 (by decide) ?_
        refine r_istore_n (pc := 54) dX8_clash_54 (by decide) ?_
        refine r_iload_n (pc := 55) (L := [some (.ref b0), some (.int l1), some (.int l2), some (.int 0)]) dX8_clash_55 rfl ?_
        refine r_if_eq (pc := 56) (tgt := 96) dX8_clash_56 (by decide) (fun _ => ?_) (fun q => by first | exact absurd q (by decide) | exact absurd (by decide) q)
        refine r_iconst (pc := 96) (v := 0) dX8_clash_96 (by decide) ?_
        exact s_iret rfl dX8_clash_97 K0
      · have K0 := K0.2 q
        refine r_aload_n (pc := 34) dX8_clash_34 rfl ?_
        refine r_iload_n (pc := 35) dX8_clash_35 rfl ?_
        refine r_iconst (pc := 36) (v := 2) dX8_clash_36 (by decide) ?_
        refine s_VI (pc := 37) mX8_ask0 (ci := 8) (a := b0) (As := [.int l1, .int 2]) dX8_clash_37 lk_X8_284 in_X8_ask0 mo_X8_ask0 ⟨by decide, rfl⟩ ⟨by decide, by decide⟩ (Nat.le_of_ble_eq_true rfl) k_b0 (sr_X8_ask0 k_b0 g_b0_3 k_b0_3 p_4 ⟨by decide, by decide⟩ ?_)
        refine r_aload_n (pc := 40) dX8_clash_40 rfl ?_
        refine r_iload_n (pc := 41) dX8_clash_41 rfl ?_
        refine r_iconst (pc := 42) (v := 2) dX8_clash_42 (by decide) ?_
        refine s_VI (pc := 43) mX8_ask0 (ci := 8) (a := b0) (As := [.int l2, .int 2]) dX8_clash_43 lk_X8_284 in_X8_ask0 mo_X8_ask0 ⟨by decide, rfl⟩ ⟨by decide, by decide⟩ (Nat.le_of_ble_eq_true rfl) k_b0 (sr_X8_ask0 k_b0 g_b0_3 k_b0_3 p_5 ⟨by decide, by decide⟩ ?_)
        refine r_icmp_ne (pc := 46) (tgt := 53) dX8_clash_46 (by decide) (fun q => ?_) (fun q => ?_)
        · have K0 := K0.1 q
          refine r_iconst (pc := 53) (v := 0) dX8_clash_53 (by decide) ?_
          refine r_istore_n (pc := 54) dX8_clash_54 (by decide) ?_
          refine r_iload_n (pc := 55) (L := [some (.ref b0), some (.int l1), some (.int l2), some (.int 0)]) dX8_clash_55 rfl ?_
          refine r_if_eq (pc := 56) (tgt := 96) dX8_clash_56 (by decide) (fun _ => ?_) (fun q => by first | exact absurd q (by decide) | exact absurd (by decide) q)
          refine r_iconst (pc := 96) (v := 0) dX8_clash_96 (by decide) ?_
          exact s_iret rfl dX8_clash_97 K0
        · have K0 := K0.2 q
          refine r_iconst (pc := 49) (v := 1) dX8_clash_49 (by decide) ?_
          refine r_goto (pc := 50) (tgt := 54) dX8_clash_50 (by decide) ?_
          refine r_istore_n (pc := 54) dX8_clash_54 (by decide) ?_
          refine r_iload_n (pc := 55) (L := [some (.ref b0), some (.int l1), some (.int l2), some (.int 1)]) dX8_clash_55 rfl ?_
          refine r_if_eq (pc := 56) (tgt := 96) dX8_clash_56 (by decide) (fun q => by first | exact absurd q (by decide) | exact absurd (by decide) q) (fun _ => ?_)
          refine r_aload_n (pc := 59) dX8_clash_59 rfl ?_
          refine r_iload_n (pc := 60) dX8_clash_60 rfl ?_
          refine r_iconst (pc := 61) (v := 4) dX8_clash_61 (by decide) ?_
          refine s_VI (pc := 62) mX8_ask0 (ci := 8) (a := b0) (As := [.int l1, .int 4]) dX8_clash_62 lk_X8_284 in_X8_ask0 mo_X8_ask0 ⟨by decide, rfl⟩ ⟨by decide, by decide⟩ (Nat.le_of_ble_eq_true rfl) k_b0 (sr_X8_ask0 k_b0 g_b0_3 k_b0_3 p_4 ⟨by decide, by decide⟩ ?_)
          refine r_aload_n (pc := 65) dX8_clash_65 rfl ?_
          refine r_iload_n (pc := 66) dX8_clash_66 rfl ?_
          refine r_iconst (pc := 67) (v := 5) dX8_clash_67 (by decide) ?_
          refine s_VI (pc := 68) mX8_ask0 (ci := 8) (a := b0) (As := [.int l1, .int 5]) dX8_clash_68 lk_X8_284 in_X8_ask0 mo_X8_ask0 ⟨by decide, rfl⟩ ⟨by decide, by decide⟩ (Nat.le_of_ble_eq_true rfl) k_b0 (sr_X8_ask0 k_b0 g_b0_3 k_b0_3 p_4 ⟨by decide, by decide⟩ ?_)
          refine s_SI (pc := 71) mX8_span (As := [.int (ao (gi x b0_3) (l1 : Int32).toNatClampNeg 4), .int (ao (gi x b0_3) (l1 : Int32).toNatClampNeg 5)]) dX8_clash_71 lk_X8_79 st_X8_span mo_X8_span ⟨by decide, by decide⟩ (Nat.le_of_ble_eq_true rfl) (sp_X8_span  ?_)
          refine r_aload_n (pc := 74) dX8_clash_74 rfl ?_
          refine r_iload_n (pc := 75) dX8_clash_75 rfl ?_
          refine r_iconst (pc := 76) (v := 4) dX8_clash_76 (by decide) ?_
          refine s_VI (pc := 77) mX8_ask0 (ci := 8) (a := b0) (As := [.int l2, .int 4]) dX8_clash_77 lk_X8_284 in_X8_ask0 mo_X8_ask0 ⟨by decide, rfl⟩ ⟨by decide, by decide⟩ (Nat.le_of_ble_eq_true rfl) k_b0 (sr_X8_ask0 k_b0 g_b0_3 k_b0_3 p_5 ⟨by decide, by decide⟩ ?_)
          refine r_aload_n (pc := 80) dX8_clash_80 rfl ?_
          refine r_iload_n (pc := 81) dX8_clash_81 rfl ?_
          refine r_iconst (pc := 82) (v := 5) dX8_clash_82 (by decide) ?_
          refine s_VI (pc := 83) mX8_ask0 (ci := 8) (a := b0) (As := [.int l2, .int 5]) dX8_clash_83 lk_X8_284 in_X8_ask0 mo_X8_ask0 ⟨by decide, rfl⟩ ⟨by decide, by decide⟩ (Nat.le_of_ble_eq_true rfl) k_b0 (sr_X8_ask0 k_b0 g_b0_3 k_b0_3 p_5 ⟨by decide, by decide⟩ ?_)
          refine s_SI (pc := 86) mX8_span (As := [.int (ao (gi x b0_3) (l2 : Int32).toNatClampNeg 4), .int (ao (gi x b0_3) (l2 : Int32).toNatClampNeg 5)]) dX8_clash_86 lk_X8_79 st_X8_span mo_X8_span ⟨by decide, by decide⟩ (Nat.le_of_ble_eq_true rfl) (sp_X8_span  ?_)
          refine r_iand (pc := 89) dX8_clash_89 ?_
          refine s_SI (pc := 90) mX8_bits (As := [.int ((f_span (ao (gi x b0_3) (l1 : Int32).toNatClampNeg 4) (ao (gi x b0_3) (l1 : Int32).toNatClampNeg 5)) &&& (f_span (ao (gi x b0_3) (l2 : Int32).toNatClampNeg 4) (ao (gi x b0_3) (l2 : Int32).toNatClampNeg 5)))]) dX8_clash_90 lk_X8_296 st_X8_bits mo_X8_bits ⟨by decide, by decide⟩ (Nat.le_of_ble_eq_true rfl) (sp_X8_bits  ?_)
          refine r_goto (pc := 93) (tgt := 97) dX8_clash_93 (by decide) ?_
          exact s_iret rfl dX8_clash_97 K0
    · have q := (b2i_z _).mp q
      have K0 := K0.2 q
      refine r_bipush (pc := 16) (v := (-2)) dX8_clash_16 (by decide) ?_
      exact s_iret rfl dX8_clash_18 K0
set_option maxHeartbeats 2000000 in
theorem v_X7_letter_0 {K : Sh} {x : Cn} {Q : Int32 → Cn → Prop} {b0 : Nat} {l1 : Int32} {l2 : Int32} {b0_3 : Nat} (k_b0 : kk K b0 = some (7, 0)) (g_b0_3 : gr x b0 3 = some b0_3) (k_b0_3 : kk K b0_3 = some (1, 0)) (K0 : (¬ (0 ≤ l1 ∧ l1 < gi x b0_3 0) → (Q (-2) x)) ∧ ((0 ≤ l1 ∧ l1 < gi x b0_3 0) → (((0 ≤ l2 ∧ l2 ≤ 5) → (mSI mX1_letterOf [.ref b0_3, .int l1, .int l2] K x (fun r_4 y_3 => Q r_4 y_3))) ∧ (¬ (0 ≤ l2 ∧ l2 ≤ 5) → (Q (-2) x))))) : mSI mX7_letter [.ref b0, .int l1, .int l2] K x Q := by
  refine s_I (by decide) (by simp [Value.category]) (Nat.le_of_ble_eq_true rfl) ?_
  show mGM mX7_letter 0 [some (.ref b0), some (.int l1), some (.int l2)] [] (hp K x) (PI K Q)
  refine r_aload_n (pc := 0) dX7_letter_0 rfl ?_
  refine r_iload_n (pc := 1) dX7_letter_1 rfl ?_
  refine s_VI (pc := 2) mX7_isCarrier (ci := 7) (a := b0) (As := [.int l1]) dX7_letter_2 lk_X7_109 in_X7_isCarrier mo_X7_isCarrier ⟨by decide, rfl⟩ ⟨by decide, by decide⟩ (Nat.le_of_ble_eq_true rfl) k_b0 (sp_X7_isCarrier k_b0 g_b0_3 k_b0_3 ?_)
  refine r_if_eq (pc := 5) (tgt := 17) dX7_letter_5 (by decide) (fun q => ?_) (fun q => ?_)
  · have q := (b2i_z _).mp q
    have K0 := K0.1 q
    refine r_bipush (pc := 17) (v := (-2)) dX7_letter_17 (by decide) ?_
    exact s_iret rfl dX7_letter_19 K0
  · have q := b2i_nz q
    have K0 := K0.2 q
    refine r_iload_n (pc := 8) dX7_letter_8 rfl ?_
    refine r_iconst (pc := 9) (v := 0) dX7_letter_9 (by decide) ?_
    refine r_iconst (pc := 10) (v := 5) dX7_letter_10 (by decide) ?_
    refine s_SI (pc := 11) mX7_isWithin (As := [.int l2, .int 0, .int 5]) dX7_letter_11 lk_X7_113 st_X7_isWithin mo_X7_isWithin ⟨by decide, by decide⟩ (Nat.le_of_ble_eq_true rfl) (sp_X7_isWithin  ?_)
    refine r_if_ne (pc := 14) (tgt := 20) dX7_letter_14 (by decide) (fun q => ?_) (fun q => ?_)
    · have q := b2i_nz q
      have K0 := K0.1 q
      refine r_aload_n (pc := 20) dX7_letter_20 rfl ?_
      refine s_getR (pc := 21) dX7_letter_21 fl_X7_27 rfl k_b0 g_b0_3 ?_
      refine r_iload_n (pc := 24) dX7_letter_24 rfl ?_
      refine r_iload_n (pc := 25) dX7_letter_25 rfl ?_
      refine s_VI (pc := 26) mX1_letterOf (ci := 1) (a := b0_3) (As := [.int l1, .int l2]) dX7_letter_26 lk_X7_117 in_X1_letterOf mo_X1_letterOf ⟨by decide, rfl⟩ ⟨by decide, by decide⟩ (Nat.le_of_ble_eq_true rfl) k_b0_3 (mSI_mono K0 (fun r_4 y_3 K0 => ?_))
      exact s_iret rfl dX7_letter_29 K0
    · have q := (b2i_z _).mp q
      have K0 := K0.2 q
      refine r_bipush (pc := 17) (v := (-2)) dX7_letter_17 (by decide) ?_
      exact s_iret rfl dX7_letter_19 K0
set_option maxHeartbeats 2000000 in
theorem v_X1_letterOf_0 {K : Sh} {x : Cn} {Q : Int32 → Cn → Prop} {b0 : Nat} {l1 : Int32} {l2 : Int32} {b0_1 : Nat} {n_b0_1 : Nat} (k_b0 : kk K b0 = some (1, 0)) (g_b0_1 : gr x b0 1 = some b0_1) (k_b0_1 : kk K b0_1 = some (20, n_b0_1)) (K0 : vp_in ((l1 * 6) + l2) n_b0_1 ∧ (Q (gi x b0_1 (((l1 * 6) + l2) : Int32).toNatClampNeg) x)) : mSI mX1_letterOf [.ref b0, .int l1, .int l2] K x Q := by
  refine s_I (by decide) (by simp [Value.category]) (Nat.le_of_ble_eq_true rfl) ?_
  show mGM mX1_letterOf 0 [some (.ref b0), some (.int l1), some (.int l2)] [] (hp K x) (PI K Q)
  refine r_aload_n (pc := 0) dX1_letterOf_0 rfl ?_
  refine s_getR (pc := 1) dX1_letterOf_1 fl_X1_15 rfl k_b0 g_b0_1 ?_
  refine r_iload_n (pc := 4) dX1_letterOf_4 rfl ?_
  refine r_bipush (pc := 5) (v := 6) dX1_letterOf_5 (by decide) ?_
  refine r_imul (pc := 7) dX1_letterOf_7 ?_
  refine r_iload_n (pc := 8) dX1_letterOf_8 rfl ?_
  refine r_iadd (pc := 9) dX1_letterOf_9 ?_
  obtain ⟨i_1, K0⟩ := K0
  refine s_iald (pc := 10) dX1_letterOf_10 k_b0_1 i_1 ?_
  exact s_iret rfl dX1_letterOf_11 K0
section
theorem sp_X1_letterOf {x : Cn} {Q : Int32 → Cn → Prop} {nb c i : Nat} (k1 : kk KW nb = some (1, 0)) (g1 : gr x nb 1 = some (nb + 1)) (k2 : kk KW (nb + 1) = some (20, 48)) (hc : c < 8) (hi : i < 6) (q : Q (gi x (nb + 1) (6 * c + i)) x) : mSI mX1_letterOf [.ref nb, .int (nI c), .int (nI i)] KW x Q := by
  refine v_X1_letterOf_0 k1 g1 k2 ?_
  rw [show (6 : Int32) = nI 6 by decide, pk_mul, nI_add, show c * 6 + i = 6 * c + i by omega, nI_clamp (by omega)]
  exact ⟨vp_in_nI (by omega) (by decide), q⟩
theorem sb_span {f l : Nat} (h : f ≤ l) (hl : l < 30) : f_sb (nI f) (nI l) = f_span (nI f) (nI l) := tb_ext (fun i hi => by rw [tb_sb0 f (by omega) l hl h i hi, tb_span0 f (by omega) l hl i hi])
theorem kwN {h g : Nat} (h1 : h ≤ 64) (h2 : g ≤ 96) : f_kw (nI h) (nI g) ↔ (0 < h ∧ 4 * h ≤ 5 * g) := by
  unfold f_kw
  rw [show (0 : Int32) = nI 0 by decide, show (4 : Int32) = nI 4 by decide, show (5 : Int32) = nI 5 by decide, pk_mul, pk_mul, nI_ltI (by omega) (by omega), nI_leI (by omega) (by omega)]
/-- the misses left -/
def mlf (h g o : Nat) : Int32 := if 0 < h ∧ 4 * h ≤ 5 * (g + o) then nI (min o (g + o - (4 * h + 4) / 5)) else -1
def sprT (T : TT) (s : Nat) : Int32 := mlf (cpt (bas T s)) (cpt (so T s 8 ||| so T s 10)) (cpt (so T s 7))
end
set_option maxHeartbeats 2000000 in
theorem v_X8_letter_0 {K : Sh} {x : Cn} {Q : Int32 → Cn → Prop} {b0 : Nat} {l1 : Int32} {l2 : Int32} {b0_1 : Nat} {n_b0_1 : Nat} (k_b0 : kk K b0 = some (8, 0)) (g_b0_1 : gr x b0 1 = some b0_1) (k_b0_1 : kk K b0_1 = some (20, n_b0_1)) (K0 : vp_in 1 n_b0_1 ∧ ((¬ (0 ≤ l1 ∧ l1 ≤ gi x b0_1 1 - 1) → (Q (-2) x)) ∧ ((0 ≤ l1 ∧ l1 ≤ gi x b0_1 1 - 1) → ((¬ (0 ≤ l2 ∧ l2 ≤ 5) → (Q (-2) x)) ∧ ((0 ≤ l2 ∧ l2 ≤ 5) → (vp_in (54 + l1) n_b0_1 ∧ (mSI mX8_letterOf [.int (gi x b0_1 ((54 + l1) : Int32).toNatClampNeg), .int l2] K x (fun r_6 y_5 => Q r_6 y_5)))))))) : mSI mX8_letter [.ref b0, .int l1, .int l2] K x Q := by
  refine s_I (by decide) (by simp [Value.category]) (Nat.le_of_ble_eq_true rfl) ?_
  show mGM mX8_letter 0 [some (.ref b0), some (.int l1), some (.int l2)] [] (hp K x) (PI K Q)
  refine r_aload_n (pc := 0) dX8_letter_0 rfl ?_
  refine r_iload_n (pc := 1) dX8_letter_1 rfl ?_
  obtain ⟨i_1, K0⟩ := K0
  refine s_VI (pc := 2) mX8_isCarrier (ci := 8) (a := b0) (As := [.int l1]) dX8_letter_2 lk_X8_265 in_X8_isCarrier mo_X8_isCarrier ⟨by decide, rfl⟩ ⟨by decide, by decide⟩ (Nat.le_of_ble_eq_true rfl) k_b0 (sp_X8_isCarrier k_b0 g_b0_1 k_b0_1 i_1 ?_)
  refine r_if_eq (pc := 5) (tgt := 36) dX8_letter_5 (by decide) (fun q => ?_) (fun q => ?_)
  · have q := (b2i_z _).mp q
    have K0 := K0.1 q
    refine r_bipush (pc := 36) (v := (-2)) dX8_letter_36 (by decide) ?_
    exact s_iret rfl dX8_letter_38 K0
  · have q := b2i_nz q
    have K0 := K0.2 q
    refine r_iload_n (pc := 8) dX8_letter_8 rfl ?_
    refine r_i2l (pc := 9) dX8_letter_9 ?_
    refine r_lconst (pc := 10) (v := 0) dX8_letter_10 (by decide) ?_
    refine r_ldc2 (pc := 11) (v := 5) dX8_letter_11 cn_X8_268 ?_
    refine s_SI (pc := 14) mX8_in (As := [.long ((l2 : Int32).toInt64), .long 0, .long 5]) dX8_letter_14 lk_X8_45 st_X8_in mo_X8_in ⟨by decide, by decide⟩ (Nat.le_of_ble_eq_true rfl) (sq_X8_in (v := l2) (lo := 0) (hi := 5) rfl (by decide) (by decide) ?_)
    refine r_if_eq (pc := 17) (tgt := 36) dX8_letter_17 (by decide) (fun q => ?_) (fun q => ?_)
    · have q := (b2i_z _).mp q
      have K0 := K0.1 q
      refine r_bipush (pc := 36) (v := (-2)) dX8_letter_36 (by decide) ?_
      exact s_iret rfl dX8_letter_38 K0
    · have q := b2i_nz q
      have K0 := K0.2 q
      refine r_aload_n (pc := 20) dX8_letter_20 rfl ?_
      refine s_getR (pc := 21) dX8_letter_21 fl_X8_9 rfl k_b0 g_b0_1 ?_
      refine r_bipush (pc := 24) (v := 54) dX8_letter_24 (by decide) ?_
      refine r_iload_n (pc := 26) dX8_letter_26 rfl ?_
      refine r_iadd (pc := 27) dX8_letter_27 ?_
      obtain ⟨i_4, K0⟩ := K0
      refine s_iald (pc := 28) dX8_letter_28 k_b0_1 i_4 ?_
      refine r_iload_n (pc := 29) dX8_letter_29 rfl ?_
      refine s_SI (pc := 30) mX8_letterOf (As := [.int (gi x b0_1 ((54 + l1) : Int32).toNatClampNeg), .int l2]) dX8_letter_30 lk_X8_270 st_X8_letterOf mo_X8_letterOf ⟨by decide, by decide⟩ (Nat.le_of_ble_eq_true rfl) (mSI_mono K0 (fun r_6 y_5 K0 => ?_))
      refine r_goto (pc := 33) (tgt := 38) dX8_letter_33 (by decide) ?_
      exact s_iret rfl dX8_letter_38 K0
set_option maxHeartbeats 2000000 in
theorem v_X8_letterOf_0 {K : Sh} {x : Cn} {Q : Int32 → Cn → Prop} {l0 : Int32} {l1 : Int32}   (K0 : GI mX8_letterOf 4 [some (.int l0), some (.int l1), some (.int l0), some (.int l1)] [] K x Q) : mSI mX8_letterOf [.int l0, .int l1] K x Q := by
  refine s_I (by decide) (by simp [Value.category]) (Nat.le_of_ble_eq_true rfl) ?_
  show mGM mX8_letterOf 0 [some (.int l0), some (.int l1), none, none] [] (hp K x) (PI K Q)
  refine r_iload_n (pc := 0) dX8_letterOf_0 rfl ?_
  refine r_istore_n (pc := 1) dX8_letterOf_1 (by decide) ?_
  refine r_iload_n (pc := 2) (L := [some (.int l0), some (.int l1), some (.int l0), none]) dX8_letterOf_2 rfl ?_
  refine r_istore_n (pc := 3) dX8_letterOf_3 (by decide) ?_
  exact r_le (L' := [some (.int l0), some (.int l1), some (.int l0), some (.int l1)]) ⟨rfl, ⟨rfl, ⟨rfl, ⟨rfl, trivial⟩⟩⟩⟩ K0
set_option maxHeartbeats 2000000 in
theorem v_X8_letterOf_4 {K : Sh} {x : Cn} {Q : Int32 → Cn → Prop} {l0 : Int32} {l1 : Int32} {l2 : Int32} {l3 : Int32}   (K0 : (5 ≤ l3 → (Q (l2 - l2 / 27 * 27) x)) ∧ (¬ 5 ≤ l3 → (GI mX8_letterOf 4 [some (.int l0), some (.int l1), some (.int (l2 / 27)), some (.int (l3 + 1))] [] K x Q))) : GI mX8_letterOf 4 [some (.int l0), some (.int l1), some (.int l2), some (.int l3)] [] K x Q := by
  show mGM mX8_letterOf 4 [some (.int l0), some (.int l1), some (.int l2), some (.int l3)] [] (hp K x) (PI K Q)
  refine r_iload_n (pc := 4) dX8_letterOf_4 rfl ?_
  refine r_iconst (pc := 5) (v := 5) dX8_letterOf_5 (by decide) ?_
  refine r_icmp_ge (pc := 6) (tgt := 20) dX8_letterOf_6 (by decide) (fun q => ?_) (fun q => ?_)
  · have K0 := K0.1 q
    refine r_iload_n (pc := 20) dX8_letterOf_20 rfl ?_
    refine r_bipush (pc := 21) (v := 27) dX8_letterOf_21 (by decide) ?_
    refine r_irem (pc := 23) dX8_letterOf_23 (by decide) ?_
    exact s_iret rfl dX8_letterOf_24 K0
  · have K0 := K0.2 q
    refine r_iload_n (pc := 9) dX8_letterOf_9 rfl ?_
    refine r_bipush (pc := 10) (v := 27) dX8_letterOf_10 (by decide) ?_
    refine r_idiv (pc := 12) dX8_letterOf_12 (by decide) ?_
    refine r_istore_n (pc := 13) dX8_letterOf_13 (by decide) ?_
    refine r_iinc (pc := 14) (L := [some (.int l0), some (.int l1), some (.int (l2 / 27)), some (.int l3)]) (v := l3 + 1) dX8_letterOf_14 rfl rfl (by decide) ?_
    refine r_goto (pc := 17) (L := [some (.int l0), some (.int l1), some (.int (l2 / 27)), some (.int (l3 + 1))]) (tgt := 4) dX8_letterOf_17 (by decide) ?_
    exact r_le (L' := [some (.int l0), some (.int l1), some (.int (l2 / 27)), some (.int (l3 + 1))]) ⟨rfl, ⟨rfl, ⟨rfl, ⟨rfl, trivial⟩⟩⟩⟩ K0
section
theorem lp_X8_letterOf {K : Sh} {x : Cn} {Q : Int32 → Cn → Prop} {l0 l1 : Int32} : ∀ (n k v : Nat), k + n = 5 → v < 2 ^ 31 → Q (nI (v / 27 ^ n % 27)) x → GI mX8_letterOf 4 [some (.int l0), some (.int l1), some (.int (nI v)), some (.int (nI k))] [] K x Q := by
  intro n
  induction n with
  | zero =>
    intro k v hk hv q
    have : k = 5 := by omega
    subst this
    refine v_X8_letterOf_4 ⟨fun _ => ?_, fun z => absurd (by decide) z⟩
    rw [show (27 : Int32) = nI 27 by decide, pk_rem hv (by decide) (by decide)]
    simpa using q
  | succ n ih =>
    intro k v hk hv q
    refine v_X8_letterOf_4 ⟨fun z => absurd z (nI_ge (a := k) (b := 5) (by omega) (by decide)), fun _ => ?_⟩
    rw [show (27 : Int32) = nI 27 by decide, pk_div hv (by decide) (by decide), nI_1]
    refine ih (k + 1) (v / 27) (by omega) (Nat.lt_of_le_of_lt (Nat.div_le_self _ _) hv) ?_
    rwa [Nat.div_div_eq_div_mul, show 27 * 27 ^ n = 27 ^ (n + 1) by rw [Nat.pow_succ, Nat.mul_comm]]
theorem sp_X8_letterOf {K : Sh} {x : Cn} {Q : Int32 → Cn → Prop} {v i : Nat} (hv : v < 2 ^ 31) (hi : i < 6) (q : Q (nI (v / 27 ^ (5 - i) % 27)) x) : mSI mX8_letterOf [.int (nI v), .int (nI i)] K x Q := v_X8_letterOf_0 (lp_X8_letterOf (5 - i) i v (by omega) hv q)
end
set_option maxHeartbeats 2000000 in
theorem v_X7_spare_0 {K : Sh} {x : Cn} {Q : Int32 → Cn → Prop} {b0 : Nat} {l1 : Int32} {b0_2 : Nat} {b0_2_7 : Nat} {n_b0_2_7 : Nat} (k_b0 : kk K b0 = some (7, 0)) (g_b0_2 : gr x b0 2 = some b0_2) (k_b0_2 : kk K b0_2 = some (4, 0)) (g_b0_2_7 : gr x b0_2 7 = some b0_2_7) (k_b0_2_7 : kk K b0_2_7 = some (23, n_b0_2_7)) (K0 : ((0 ≤ l1 ∧ l1 < gi x b0_2 3) → (vp_in l1 n_b0_2_7 ∧ (∃ c_3 : Nat, gr x b0_2_7 ((l1 : Int32).toNatClampNeg) = some c_3 ∧ (kk K c_3 = some (5, 0) ∧ (mSI mX5_missesLeft [.ref c_3] K x (fun r_7 y_6 => Q r_7 y_6)))))) ∧ (¬ (0 ≤ l1 ∧ l1 < gi x b0_2 3) → (Q (-2) x))) : mSI mX7_spare [.ref b0, .int l1] K x Q := by
  refine s_I (by decide) (by simp [Value.category]) (Nat.le_of_ble_eq_true rfl) ?_
  show mGM mX7_spare 0 [some (.ref b0), some (.int l1)] [] (hp K x) (PI K Q)
  refine r_aload_n (pc := 0) dX7_spare_0 rfl ?_
  refine r_iload_n (pc := 1) dX7_spare_1 rfl ?_
  refine s_VI (pc := 2) mX7_isSeries (ci := 7) (a := b0) (As := [.int l1]) dX7_spare_2 lk_X7_132 in_X7_isSeries mo_X7_isSeries ⟨by decide, rfl⟩ ⟨by decide, by decide⟩ (Nat.le_of_ble_eq_true rfl) k_b0 (sp_X7_isSeries k_b0 g_b0_2 k_b0_2 ?_)
  refine r_if_ne (pc := 5) (tgt := 11) dX7_spare_5 (by decide) (fun q => ?_) (fun q => ?_)
  · have q := b2i_nz q
    have K0 := K0.1 q
    refine r_aload_n (pc := 11) dX7_spare_11 rfl ?_
    refine s_getR (pc := 12) dX7_spare_12 fl_X7_20 rfl k_b0 g_b0_2 ?_
    refine s_getR (pc := 15) dX7_spare_15 fl_X7_135 rfl k_b0_2 g_b0_2_7 ?_
    refine r_iload_n (pc := 18) dX7_spare_18 rfl ?_
    obtain ⟨i_2, K0⟩ := K0
    obtain ⟨c_3, g_4, K0⟩ := K0
    refine s_aald (pc := 19) dX7_spare_19 (by decide) rfl k_b0_2_7 i_2 g_4 ?_
    obtain ⟨e_5, K0⟩ := K0
    refine s_VI (pc := 20) mX5_missesLeft (ci := 5) (a := c_3) (As := []) dX7_spare_20 lk_X7_242 in_X5_missesLeft mo_X5_missesLeft ⟨by decide, rfl⟩ ⟨by decide, by decide⟩ (Nat.le_of_ble_eq_true rfl) e_5 (mSI_mono K0 (fun r_7 y_6 K0 => ?_))
    exact s_iret rfl dX7_spare_23 K0
  · have q := (b2i_z _).mp q
    have K0 := K0.2 q
    refine r_bipush (pc := 8) (v := (-2)) dX7_spare_8 (by decide) ?_
    exact s_iret rfl dX7_spare_10 K0
set_option maxHeartbeats 2000000 in
theorem v_X5_missesLeft_0 {K : Sh} {x : Cn} {Q : Int32 → Cn → Prop} {b0 : Nat}  (k_b0 : kk K b0 = some (5, 0)) (K0 : (¬ (f_lost x b0) → (Q (if (((nI (cpt (gi x b0 8 ||| gi x b0 10))) + (nI (cpt (f_open x b0)))) - (((4 * (nI (cpt (f_held x b0)))) + 4) / 5)) < (nI (cpt (f_open x b0))) then (((nI (cpt (gi x b0 8 ||| gi x b0 10))) + (nI (cpt (f_open x b0)))) - (((4 * (nI (cpt (f_held x b0)))) + 4) / 5)) else (nI (cpt (f_open x b0)))) x)) ∧ ((f_lost x b0) → (Q (-1) x))) : mSI mX5_missesLeft [.ref b0] K x Q := by
  refine s_I (by decide) (by simp [Value.category]) (Nat.le_of_ble_eq_true rfl) ?_
  show mGM mX5_missesLeft 0 [some (.ref b0), none, none] [] (hp K x) (PI K Q)
  refine r_aload_n (pc := 0) dX5_missesLeft_0 rfl ?_
  refine s_VI (pc := 1) mX5_isLost (ci := 5) (a := b0) (As := []) dX5_missesLeft_1 lk_X5_90 in_X5_isLost mo_X5_isLost ⟨by decide, rfl⟩ ⟨by decide, by decide⟩ (Nat.le_of_ble_eq_true rfl) k_b0 (sp_X5_isLost k_b0 ?_)
  refine r_if_eq (pc := 4) (tgt := 9) dX5_missesLeft_4 (by decide) (fun q => ?_) (fun q => ?_)
  · have q := (b2i_z _).mp q
    have K0 := K0.1 q
    refine r_aload_n (pc := 9) dX5_missesLeft_9 rfl ?_
    refine s_VI (pc := 10) mX5_openBits (ci := 5) (a := b0) (As := []) dX5_missesLeft_10 lk_X5_57 in_X5_openBits mo_X5_openBits ⟨by decide, rfl⟩ ⟨by decide, by decide⟩ (Nat.le_of_ble_eq_true rfl) k_b0 (sp_X5_openBits k_b0 ?_)
    refine s_SI (pc := 13) mJ6_bitCount_0f7a4 (As := [.int (f_open x b0)]) dX5_missesLeft_13 lk_X5_76 st_J6_bitCount_0f7a4 mo_J6_bitCount_0f7a4 ⟨by decide, by decide⟩ (Nat.le_of_ble_eq_true rfl) (sp_bc  ?_)
    refine r_istore_n (pc := 16) dX5_missesLeft_16 (by decide) ?_
    refine r_iconst (pc := 17) (L := [some (.ref b0), some (.int (nI (cpt (f_open x b0)))), none]) (v := 4) dX5_missesLeft_17 (by decide) ?_
    refine r_aload_n (pc := 18) dX5_missesLeft_18 rfl ?_
    refine s_VI (pc := 19) mX5_basis (ci := 5) (a := b0) (As := []) dX5_missesLeft_19 lk_X5_81 in_X5_basis mo_X5_basis ⟨by decide, rfl⟩ ⟨by decide, by decide⟩ (Nat.le_of_ble_eq_true rfl) k_b0 (sp_X5_basis k_b0 ?_)
    refine r_imul (pc := 22) dX5_missesLeft_22 ?_
    refine r_iconst (pc := 23) (v := 4) dX5_missesLeft_23 (by decide) ?_
    refine r_iadd (pc := 24) dX5_missesLeft_24 ?_
    refine r_iconst (pc := 25) (v := 5) dX5_missesLeft_25 (by decide) ?_
    refine r_idiv (pc := 26) dX5_missesLeft_26 (by decide) ?_
    refine r_istore_n (pc := 27) dX5_missesLeft_27 (by decide) ?_
    refine r_iload_n (pc := 28) (L := [some (.ref b0), some (.int (nI (cpt (f_open x b0)))), some (.int (((4 * (nI (cpt (f_held x b0)))) + 4) / 5))]) dX5_missesLeft_28 rfl ?_
    refine r_aload_n (pc := 29) dX5_missesLeft_29 rfl ?_
    refine s_VI (pc := 30) mX5_good (ci := 5) (a := b0) (As := []) dX5_missesLeft_30 lk_X5_84 in_X5_good mo_X5_good ⟨by decide, rfl⟩ ⟨by decide, by decide⟩ (Nat.le_of_ble_eq_true rfl) k_b0 (sp_X5_good k_b0 ?_)
    refine r_iload_n (pc := 33) dX5_missesLeft_33 rfl ?_
    refine r_iadd (pc := 34) dX5_missesLeft_34 ?_
    refine r_iload_n (pc := 35) dX5_missesLeft_35 rfl ?_
    refine r_isub (pc := 36) dX5_missesLeft_36 ?_
    refine r_mmin (pc := 37) dX5_missesLeft_37 lk_X5_94 mw_min ⟨by decide, by decide⟩ (Nat.le_of_ble_eq_true rfl) ?_
    exact s_iret rfl dX5_missesLeft_40 K0
  · have q := b2i_nz q
    have K0 := K0.2 q
    refine r_iconst (pc := 7) (v := (-1)) dX5_missesLeft_7 (by decide) ?_
    exact s_iret rfl dX5_missesLeft_8 K0
section
theorem sp_X5_missesLeft {x : Cn} {Q : Int32 → Cn → Prop} {p : Nat} {T : TT} {C W s : Nat} (h1 : kk KW p = some (5, 0)) (h2 : SER x p T s) (h3 : Wse T C W s) (q : Q (sprT T s) x) : mSI mX5_missesLeft [.ref p] KW x Q := by
  refine v_X5_missesLeft_0 h1 ?_
  unfold f_lost
  rw [h2.held h3, h2.opn h3, h2.1 8 (by decide) (by decide), h2.1 10 (by decide) (by decide), nI_add]
  have b1 := cpt_le (bas T s)
  have b2 := cpt_le (so T s 8 ||| so T s 10)
  have b3 := cpt_le (so T s 7)
  unfold sprT mlf at q
  revert q
  generalize cpt (bas T s) = h at *
  generalize cpt (so T s 8 ||| so T s 10) = g at *
  generalize cpt (so T s 7) = o at *
  intro q
  rw [kwN (by omega) (by omega)]
  by_cases z : 0 < h ∧ 4 * h ≤ 5 * (g + o)
  · rw [if_pos z] at q
    refine ⟨fun _ => ?_, fun w => absurd z w⟩
    rw [show (4 : Int32) = nI 4 by decide, show (5 : Int32) = nI 5 by decide, pk_mul, nI_add, pk_div (by omega) (by decide) (by decide), pk_sub (by omega)]
    by_cases c : g + o - (4 * h + 4) / 5 < o
    · rw [if_pos (nI_lt c (by omega))]
      rwa [Nat.min_eq_right (by omega)] at q
    · rw [if_neg (nI_nlt (by omega) (by omega))]
      rwa [Nat.min_eq_left (by omega)] at q
  · rw [if_neg z] at q
    exact ⟨fun w => absurd z w, fun _ => q⟩
end
set_option maxHeartbeats 2000000 in
theorem v_X8_spare_0 {K : Sh} {x : Cn} {Q : Int32 → Cn → Prop} {b0 : Nat} {l1 : Int32} {b0_1 : Nat} {n_b0_1 : Nat} (k_b0 : kk K b0 = some (8, 0)) (g_b0_1 : gr x b0 1 = some b0_1) (k_b0_1 : kk K b0_1 = some (20, n_b0_1)) (K0 : vp_in 2 n_b0_1 ∧ ((¬ (0 ≤ l1 ∧ l1 ≤ gi x b0_1 2 - 1) → (Q (-2) x)) ∧ ((0 ≤ l1 ∧ l1 ≤ gi x b0_1 2 - 1) → (mSI mX8_spareOf [.ref b0, .int l1] K x (fun r_4 y_3 => Q r_4 y_3))))) : mSI mX8_spare [.ref b0, .int l1] K x Q := by
  refine s_I (by decide) (by simp [Value.category]) (Nat.le_of_ble_eq_true rfl) ?_
  show mGM mX8_spare 0 [some (.ref b0), some (.int l1)] [] (hp K x) (PI K Q)
  refine r_aload_n (pc := 0) dX8_spare_0 rfl ?_
  refine r_iload_n (pc := 1) dX8_spare_1 rfl ?_
  obtain ⟨i_1, K0⟩ := K0
  refine s_VI (pc := 2) mX8_isSeries (ci := 8) (a := b0) (As := [.int l1]) dX8_spare_2 lk_X8_273 in_X8_isSeries mo_X8_isSeries ⟨by decide, rfl⟩ ⟨by decide, by decide⟩ (Nat.le_of_ble_eq_true rfl) k_b0 (sp_X8_isSeries k_b0 g_b0_1 k_b0_1 i_1 ?_)
  refine r_if_eq (pc := 5) (tgt := 16) dX8_spare_5 (by decide) (fun q => ?_) (fun q => ?_)
  · have q := (b2i_z _).mp q
    have K0 := K0.1 q
    refine r_bipush (pc := 16) (v := (-2)) dX8_spare_16 (by decide) ?_
    exact s_iret rfl dX8_spare_18 K0
  · have q := b2i_nz q
    have K0 := K0.2 q
    refine r_aload_n (pc := 8) dX8_spare_8 rfl ?_
    refine r_iload_n (pc := 9) dX8_spare_9 rfl ?_
    refine s_VI (pc := 10) mX8_spareOf (ci := 8) (a := b0) (As := [.int l1]) dX8_spare_10 lk_X8_308 in_X8_spareOf mo_X8_spareOf ⟨by decide, rfl⟩ ⟨by decide, by decide⟩ (Nat.le_of_ble_eq_true rfl) k_b0 (mSI_mono K0 (fun r_4 y_3 K0 => ?_))
    refine r_goto (pc := 13) (tgt := 18) dX8_spare_13 (by decide) ?_
    exact s_iret rfl dX8_spare_18 K0
set_option maxHeartbeats 2000000 in
theorem v_X8_spareOf_0 {K : Sh} {x : Cn} {Q : Int32 → Cn → Prop} {b0 : Nat} {l1 : Int32} {b0_3 : Nat} {n_b0_3 : Nat} (k_b0 : kk K b0 = some (8, 0)) (g_b0_3 : gr x b0 3 = some b0_3) (k_b0_3 : kk K b0_3 = some (20, n_b0_3)) (K0 : (l24 l1 n_b0_3) ∧ (GI mX8_spareOf 11 [some (.ref b0), some (.int l1), some (.int (nI (cpt (so (gi x b0_3) (l1 : Int32).toNatClampNeg 7))))] [] K x Q)) : mSI mX8_spareOf [.ref b0, .int l1] K x Q := by
  refine s_I (by decide) (by simp [Value.category]) (Nat.le_of_ble_eq_true rfl) ?_
  show mGM mX8_spareOf 0 [some (.ref b0), some (.int l1), none] [] (hp K x) (PI K Q)
  refine r_aload_n (pc := 0) dX8_spareOf_0 rfl ?_
  refine r_iload_n (pc := 1) dX8_spareOf_1 rfl ?_
  refine r_bipush (pc := 2) (v := 7) dX8_spareOf_2 (by decide) ?_
  obtain ⟨p_1, K0⟩ := K0
  refine s_VI (pc := 4) mX8_one (ci := 8) (a := b0) (As := [.int l1, .int 7]) dX8_spareOf_4 lk_X8_67 in_X8_one mo_X8_one ⟨by decide, rfl⟩ ⟨by decide, by decide⟩ (Nat.le_of_ble_eq_true rfl) k_b0 (sr_X8_one k_b0 g_b0_3 k_b0_3 p_1 ⟨by decide, by decide⟩ ?_)
  refine s_SI (pc := 7) mX8_bits (As := [.int (so (gi x b0_3) (l1 : Int32).toNatClampNeg 7)]) dX8_spareOf_7 lk_X8_296 st_X8_bits mo_X8_bits ⟨by decide, by decide⟩ (Nat.le_of_ble_eq_true rfl) (sp_X8_bits  ?_)
  refine r_istore_n (pc := 10) dX8_spareOf_10 (by decide) ?_
  exact r_le (L' := [some (.ref b0), some (.int l1), some (.int (nI (cpt (so (gi x b0_3) (l1 : Int32).toNatClampNeg 7))))]) ⟨rfl, ⟨rfl, ⟨rfl, trivial⟩⟩⟩ K0
set_option maxHeartbeats 2000000 in
theorem v_X8_spareOf_11 {K : Sh} {x : Cn} {Q : Int32 → Cn → Prop} {b0 : Nat} {l1 : Int32} {l2 : Int32} {b0_3 : Nat} {n_b0_3 : Nat} (k_b0 : kk K b0 = some (8, 0)) (g_b0_3 : gr x b0 3 = some b0_3) (k_b0_3 : kk K b0_3 = some (20, n_b0_3)) (K0 : (l2 < 0 → (Q l2 x)) ∧ (¬ l2 < 0 → ((l24 l1 n_b0_3) ∧ (mSI mX8_isKept [.ref b0, .int l1, .int ((nI (cpt (so (gi x b0_3) (l1 : Int32).toNatClampNeg 7))) - l2)] K x (fun r_4 y_3 => (¬ r_4 = 0 → (Q l2 y_3)) ∧ (r_4 = 0 → (GI mX8_spareOf 11 [some (.ref b0), some (.int l1), some (.int (l2 + (-1)))] [] K y_3 Q))))))) : GI mX8_spareOf 11 [some (.ref b0), some (.int l1), some (.int l2)] [] K x Q := by
  show mGM mX8_spareOf 11 [some (.ref b0), some (.int l1), some (.int l2)] [] (hp K x) (PI K Q)
  refine r_iload_n (pc := 11) dX8_spareOf_11 rfl ?_
  refine r_if_lt (pc := 12) (tgt := 41) dX8_spareOf_12 (by decide) (fun q => ?_) (fun q => ?_)
  · have K0 := K0.1 q
    refine r_iload_n (pc := 41) dX8_spareOf_41 rfl ?_
    exact s_iret rfl dX8_spareOf_42 K0
  · have K0 := K0.2 q
    refine r_aload_n (pc := 15) dX8_spareOf_15 rfl ?_
    refine r_iload_n (pc := 16) dX8_spareOf_16 rfl ?_
    refine r_aload_n (pc := 17) dX8_spareOf_17 rfl ?_
    refine r_iload_n (pc := 18) dX8_spareOf_18 rfl ?_
    refine r_bipush (pc := 19) (v := 7) dX8_spareOf_19 (by decide) ?_
    obtain ⟨p_2, K0⟩ := K0
    refine s_VI (pc := 21) mX8_one (ci := 8) (a := b0) (As := [.int l1, .int 7]) dX8_spareOf_21 lk_X8_67 in_X8_one mo_X8_one ⟨by decide, rfl⟩ ⟨by decide, by decide⟩ (Nat.le_of_ble_eq_true rfl) k_b0 (sr_X8_one k_b0 g_b0_3 k_b0_3 p_2 ⟨by decide, by decide⟩ ?_)
    refine s_SI (pc := 24) mX8_bits (As := [.int (so (gi x b0_3) (l1 : Int32).toNatClampNeg 7)]) dX8_spareOf_24 lk_X8_296 st_X8_bits mo_X8_bits ⟨by decide, by decide⟩ (Nat.le_of_ble_eq_true rfl) (sp_X8_bits  ?_)
    refine r_iload_n (pc := 27) dX8_spareOf_27 rfl ?_
    refine r_isub (pc := 28) dX8_spareOf_28 ?_
    refine s_VI (pc := 29) mX8_isKept (ci := 8) (a := b0) (As := [.int l1, .int ((nI (cpt (so (gi x b0_3) (l1 : Int32).toNatClampNeg 7))) - l2)]) dX8_spareOf_29 lk_X8_302 in_X8_isKept mo_X8_isKept ⟨by decide, rfl⟩ ⟨by decide, by decide⟩ (Nat.le_of_ble_eq_true rfl) k_b0 (mSI_mono K0 (fun r_4 y_3 K0 => ?_))
    refine r_if_ne (pc := 32) (tgt := 41) dX8_spareOf_32 (by decide) (fun q => ?_) (fun q => ?_)
    · have K0 := K0.1 q
      refine r_iload_n (pc := 41) dX8_spareOf_41 rfl ?_
      exact s_iret rfl dX8_spareOf_42 K0
    · have K0 := K0.2 q
      refine r_iinc (pc := 35) (v := l2 + (-1)) dX8_spareOf_35 rfl rfl (by decide) ?_
      refine r_goto (pc := 38) (L := [some (.ref b0), some (.int l1), some (.int (l2 + (-1)))]) (tgt := 11) dX8_spareOf_38 (by decide) ?_
      exact r_le (L' := [some (.ref b0), some (.int l1), some (.int (l2 + (-1)))]) ⟨rfl, ⟨rfl, ⟨rfl, trivial⟩⟩⟩ K0
section
theorem lp_X8_spareOf {x : Cn} {Q : Int32 → Cn → Prop} {t s : Nat} (M : MRf x t) (ht : kk KW t = some (20, 518)) (hs : s < 24) (q : Q (sprT (gi x t) s) x) : ∀ m : Nat, m ≤ cpt (so (gi x t) s 7) → (∀ j, m < j → j ≤ cpt (so (gi x t) s 7) → ¬ (0 < cpt (bas (gi x t) s) ∧ 4 * cpt (bas (gi x t) s) ≤ 5 * (cpt (so (gi x t) s 8 ||| so (gi x t) s 10) + (cpt (so (gi x t) s 7) - j)))) → GI mX8_spareOf 11 [some (.ref 717), some (.int (nI s)), some (.int (nI m))] [] KW x Q := by
  have b1 := cpt_le (bas (gi x t) s)
  have b2 := cpt_le (so (gi x t) s 8 ||| so (gi x t) s 10)
  have b3 := cpt_le (so (gi x t) s 7)
  intro m
  induction m with
  | zero =>
    intro hm hj
    refine v_X8_spareOf_11 km M.2.2.1 ht ⟨fun z => absurd z (by decide), fun _ => ⟨l24_nI hs rfl, ?_⟩⟩
    rw [nI_clamp (by omega), pk_sub (by omega)]
    refine sp_X8_isKept M ht hs ?_
    unfold sprT mlf at q
    unfold kw
    rw [nI_add]
    by_cases z : f_kw (nI (cpt (bas (gi x t) s))) (nI (cpt (so (gi x t) s 8 ||| so (gi x t) s 10) + (cpt (so (gi x t) s 7) - 0)))
    · rw [b2i_t z]
      refine ⟨fun _ => ?_, fun w => absurd w (by decide)⟩
      rw [kwN (by omega) (by omega)] at z
      rw [if_pos ⟨z.1, by simpa using z.2⟩] at q
      have : cpt (so (gi x t) s 7) = 0 ∨ cpt (so (gi x t) s 8 ||| so (gi x t) s 10) + cpt (so (gi x t) s 7) - (4 * cpt (bas (gi x t) s) + 4) / 5 = 0 := by
        by_cases c : cpt (so (gi x t) s 7) = 0
        · exact Or.inl c
        · have := hj 1 (by omega) (by omega)
          refine Or.inr ?_
          have hz := z.1
          omega
      rcases this with c | c
      · rwa [c, Nat.zero_min] at q
      · rwa [c, Nat.min_zero] at q
    · rw [b2i_f z]
      refine ⟨fun w => absurd rfl w, fun _ => ?_⟩
      rw [kwN (by omega) (by omega)] at z
      rw [if_neg (fun w => z ⟨w.1, by simpa using w.2⟩)] at q
      exact v_X8_spareOf_11 km M.2.2.1 ht ⟨fun _ => q, fun w => absurd (by decide) w⟩
  | succ m ih =>
    intro hm hj
    refine v_X8_spareOf_11 km M.2.2.1 ht ⟨fun z => absurd z (nI_pos (by omega)), fun _ => ⟨l24_nI hs rfl, ?_⟩⟩
    rw [nI_clamp (by omega), pk_sub (by omega)]
    refine sp_X8_isKept M ht hs ?_
    unfold kw
    rw [nI_add]
    by_cases z : f_kw (nI (cpt (bas (gi x t) s))) (nI (cpt (so (gi x t) s 8 ||| so (gi x t) s 10) + (cpt (so (gi x t) s 7) - (m + 1))))
    · rw [b2i_t z]
      refine ⟨fun _ => ?_, fun w => absurd w (by decide)⟩
      rw [kwN (by omega) (by omega)] at z
      unfold sprT mlf at q
      rw [if_pos ⟨z.1, by have := z.2; omega⟩] at q
      have : min (cpt (so (gi x t) s 7)) (cpt (so (gi x t) s 8 ||| so (gi x t) s 10) + cpt (so (gi x t) s 7) - (4 * cpt (bas (gi x t) s) + 4) / 5) = m + 1 := by
        have hz := z.1
        have hz2 := z.2
        by_cases c : cpt (so (gi x t) s 7) = m + 1
        · rw [Nat.min_eq_left (by omega)]; exact c
        · have := hj (m + 2) (by omega) (by omega)
          rw [Nat.min_eq_right (by omega)]
          omega
      rwa [this] at q
    · rw [b2i_f z]
      refine ⟨fun w => absurd rfl w, fun _ => ?_⟩
      rw [kwN (by omega) (by omega)] at z
      rw [pk_m1]
      refine ih (by omega) (fun j h1 h2 => ?_)
      by_cases c : j = m + 1
      · rw [c]; exact z
      · exact hj j (by omega) h2
theorem sp_X8_spareOf {x : Cn} {Q : Int32 → Cn → Prop} {t s : Nat} (M : MRf x t) (ht : kk KW t = some (20, 518)) (hs : s < 24) (q : Q (sprT (gi x t) s) x) : mSI mX8_spareOf [.ref 717, .int (nI s)] KW x Q := by
  refine v_X8_spareOf_0 km M.2.2.1 ht ⟨l24_nI hs rfl, ?_⟩
  rw [nI_clamp (by omega)]
  exact lp_X8_spareOf M ht hs q _ (Nat.le_refl _) (fun j h1 h2 => absurd h1 (by omega))
end
theorem eq_octet (a : Int32) : Both mX7_octet mX8_octet [.int a] := by
  intro x R
  obtain ⟨n, hn, h1, h2, h3⟩ := R.2.2.2.2.1
  have iN := inN' (v := a) (n := n) (by omega)
  have rf : mSI mX8_octet [.ref 717, .int a] KW x (fun r' z => (if 0 ≤ a ∧ a < nI n then gi x 176 a.toNatClampNeg else -1) = r' ∧ Rel z) := by
    refine v_X8_octet_0 km R.2.1.2.2.2.2.2.2.2.2 km725 ?_
    rw [h2, iN]
    refine ⟨fun z => ⟨if_neg z, R⟩, fun z => ?_⟩
    rw [if_pos z]
    obtain ⟨j, hj, rfl⟩ := inN (by omega) z
    rw [nI_clamp (by omega), h3 j hj]
    exact ⟨vp_in_nI (by omega) (by decide), rfl, R⟩
  refine v_X7_octet_0 k0 R.1.c10 (by decide) R.1.c175 k176 ?_
  rw [h1]
  refine ⟨fun z => by rwa [if_neg (fun w => Int32.not_lt.mpr w.1 z)] at rf, fun z => ⟨fun z2 => ?_, fun z2 => by rwa [if_neg (fun w => z2 w.2)] at rf⟩⟩
  rw [if_pos ⟨Int32.not_lt.mp z, z2⟩] at rf
  obtain ⟨j, hj, rfl⟩ := inN (by omega) ⟨Int32.not_lt.mp z, z2⟩
  exact ⟨vp_in_nI (by omega) (by decide), rf⟩
theorem eq_end (a : Int32) : Both mX7_end mX8_end [.int a] := by
  intro x R
  obtain ⟨n, hn, h1, h2, h3⟩ := R.2.2.2.1
  refine v_X7_end_0 k0 ?_
  rw [h1]
  have no : ¬ (0 ≤ a ∧ a ≤ nI n) → mSI mX8_end [.ref 717, .int a] KW x (fun r' z => -1 = r' ∧ Rel z) := by
    intro z
    refine v_X8_end_0 km ?_
    rw [h2]
    exact ⟨fun w => absurd w z, fun _ => ⟨rfl, R⟩⟩
  refine ⟨fun z => no (fun w => Int32.not_lt.mpr w.1 z), fun z => ⟨fun z2 => ?_, fun z2 => no (fun w => z2 w.2)⟩⟩
  refine v_X8_end_0 km ⟨fun _ => ⟨rfl, ?_⟩, fun w => absurd ⟨Int32.not_lt.mp z, by rw [gi_ui, if_neg (by decide), h2]; exact z2⟩ w⟩
  obtain ⟨j, hj, rfl⟩ := nI_of z
  have hjn : j ≤ n := (nI_leI hj (by omega)).mp z2
  obtain ⟨r1, r2, r3, -, r5, W, C, S, A, N, r6, r7, r8⟩ := R
  have e : ∀ b k, ¬ (b = 0 ∧ k = 1) → ¬ (b = 717 ∧ k = 5) → gi (ui (ui x 0 1 (nI j)) 717 5 (nI j)) b k = gi x b k := fun b k g1 g2 => by rw [gi_ui, if_neg g2, gi_ui, if_neg g1]
  have eT : gi (ui (ui x 0 1 (nI j)) 717 5 (nI j)) 718 = gi x 718 := by funext k; exact e 718 k (by omega) (by omega)
  refine ⟨r1.keep rfl, r2.keep rfl, ?_, ⟨j, by omega, rfl, rfl, fun i hi => ?_⟩, ?_, W, C, S, A, N, ?_, ?_, ?_⟩
  · exact r3
  · rw [e 1 i (by omega) (by omega), e 720 i (by omega) (by omega)]
    exact h3 i (by omega)
  · exact r5.keep (e _ _ (by omega) (by omega)) (e _ _ (by omega) (by omega)) (fun i => e _ _ (by omega) (by omega)) (fun i => e _ _ (by omega) (by omega))
  · rw [eT]
    exact r6.keep rfl (fun a k g1 g2 g3 => e a k (by omega) (by omega))
  · rw [eT]
    exact r7.keep (e _ _ (by omega) (by omega)) (fun i => e _ _ (by omega) (by omega)) (fun _ _ => rfl)
  · rw [eT]
    exact r8.keep r1 rfl (e _ _ (by omega) (by omega)) (e _ _ (by omega) (by omega)) (fun a k g1 g2 => e a k (by omega) (by omega)) (fun i => e _ _ (by omega) (by omega)) (fun _ _ => rfl)
theorem eq_letter (a b : Int32) : Both mX7_letter mX8_letter [.int a, .int b] := by
  intro x R
  obtain ⟨W, C, S, A, N, E, ⟨hc, hv⟩, -⟩ := R.sea
  have ht := Rel.t2 E
  have hC : C ≤ 8 := E.nums.2.2.2.2.2.1
  have iC := inN' (v := a) (n := C) (by omega)
  have rf : mSI mX8_letter [.ref 717, .int a, .int b] KW x (fun r' z => (if (0 ≤ a ∧ a < nI C) ∧ (0 ≤ b ∧ b ≤ 5) then gi x 57 (6 * a.toNatClampNeg + b.toNatClampNeg) else -2) = r' ∧ Rel z) := by
    refine v_X8_letter_0 km R.2.1.1 km1 ⟨v0 (k := 1) (by decide) rfl rfl, ?_⟩
    rw [ht.2.1, iC]
    refine ⟨fun z => ⟨if_neg (fun w => z w.1), R⟩, fun z => ⟨fun z2 => ⟨if_neg (fun w => z2 w.2), R⟩, fun z2 => ?_⟩⟩
    rw [if_pos ⟨z, z2⟩]
    obtain ⟨c, hc2, rfl⟩ := inN (by omega) z
    obtain ⟨i, hi, rfl⟩ := nI_of2 (M := 5) (n := 5) (by decide) (Int32.not_lt.mpr z2.1) z2.2
    obtain ⟨v, v1, v2, v3⟩ := hv c hc2
    rw [show (54 : Int32) = nI 54 by decide, nI_add, nI_clamp (by omega), nI_clamp (by omega), nI_clamp (by omega), v2]
    exact ⟨vp_in_nI (by omega) (by decide), sp_X8_letterOf (by omega) (by omega) ⟨v3 i (by omega), R⟩⟩
  refine v_X7_letter_0 k0 R.1.2.2.1 (by decide) ?_
  rw [hc]
  refine ⟨fun z => by rwa [if_neg (fun w => z w.1)] at rf, fun z => ⟨fun z2 => ?_, fun z2 => by rwa [if_neg (fun w => z2 w.2)] at rf⟩⟩
  rw [if_pos ⟨z, z2⟩] at rf
  obtain ⟨c, hc2, rfl⟩ := inN (by omega) z
  obtain ⟨i, hi, rfl⟩ := nI_of2 (M := 5) (n := 5) (by decide) (Int32.not_lt.mpr z2.1) z2.2
  rw [nI_clamp (show c < 2 ^ 31 by omega), nI_clamp (show i < 2 ^ 31 by omega)] at rf
  exact sp_X1_letterOf (nb := 56) (by decide) R.1.2.2.2.2.2.2.2.1 (by decide) (by omega) (by omega) rf
theorem eq_clash (a b : Int32) : Both mX7_clash mX8_clash [.int a, .int b] := by
  intro x R
  obtain ⟨W, C, S, A, N, E, -, -⟩ := R.sea
  have hn := E.nums
  have ht := Rel.t2 E
  have hA : A ≤ 24 := hn.2.2.2.2.2.2.2.1
  have hW : W ≤ 30 := hn.2.2.2.2.1
  have ia := inN' (v := a) (n := A) (by omega)
  have ib := inN' (v := b) (n := A) (by omega)
  let T := gi x 718
  let F : Int32 := if (0 ≤ a ∧ a < nI A) ∧ (0 ≤ b ∧ b < nI A) then (if ao T a.toNatClampNeg 1 = ao T b.toNatClampNeg 1 ∧ ao T a.toNatClampNeg 2 = ao T b.toNatClampNeg 2 then nI (cpt (f_span (ao T a.toNatClampNeg 4) (ao T a.toNatClampNeg 5) &&& f_span (ao T b.toNatClampNeg 4) (ao T b.toNatClampNeg 5))) else 0) else -2
  have rf : mSI mX8_clash [.ref 717, .int a, .int b] KW x (fun r' z => F = r' ∧ Rel z) := by
    refine v_X8_clash_0 km R.2.1.1 km1 R.2.1.2.2.1 km1 ⟨v0 (k := 3) (by decide) rfl rfl, ?_⟩
    rw [ht.2.2.2.1, ia, ib]
    refine ⟨fun z => ⟨if_neg (fun w => z w.1), R⟩, fun z => ⟨fun z2 => ?_, fun z2 => ⟨if_neg (fun w => z2 w.2), R⟩⟩⟩
    obtain ⟨i, hi, ei⟩ := inN (by omega) z
    obtain ⟨j, hj, ej⟩ := inN (by omega) z2
    have eF : F = (if ao T a.toNatClampNeg 1 = ao T b.toNatClampNeg 1 ∧ ao T a.toNatClampNeg 2 = ao T b.toNatClampNeg 2 then nI (cpt (f_span (ao T a.toNatClampNeg 4) (ao T a.toNatClampNeg 5) &&& f_span (ao T b.toNatClampNeg 4) (ao T b.toNatClampNeg 5))) else 0) := if_pos ⟨z, z2⟩
    rw [eF]
    refine ⟨by rw [ei]; exact l24_nI (by omega) rfl, by rw [ej]; exact l24_nI (by omega) rfl, fun w => ⟨if_neg (fun u => w u.1), R⟩, fun w => ⟨fun w2 => ⟨if_neg (fun u => w2 u.2), R⟩, fun w2 => ⟨if_pos ⟨w, w2⟩, R⟩⟩⟩
  refine v_X7_clash_0 k0 R.1.2.1 (ks0 E.1) E.2.1.2.2.2.1 (ks4 E.1) ?_
  rw [hn.2.2.2.1]
  refine ⟨fun z => ?_, fun z => ⟨fun z2 => ?_, fun z2 => ?_⟩⟩
  · have eF : F = -2 := if_neg (fun w => z w.1)
    rwa [eF] at rf
  · have eF : F = (if ao T a.toNatClampNeg 1 = ao T b.toNatClampNeg 1 ∧ ao T a.toNatClampNeg 2 = ao T b.toNatClampNeg 2 then nI (cpt (f_span (ao T a.toNatClampNeg 4) (ao T a.toNatClampNeg 5) &&& f_span (ao T b.toNatClampNeg 4) (ao T b.toNatClampNeg 5))) else 0) := if_pos ⟨z, z2⟩
    rw [eF] at rf
    obtain ⟨i, hi, ei⟩ := inN (by omega) z
    obtain ⟨j, hj, ej⟩ := inN (by omega) z2
    subst ei ej
    rw [nI_clamp (show i < 2 ^ 31 by omega), nI_clamp (show j < 2 ^ 31 by omega)] at rf ⊢
    obtain ⟨p, e1, e2, e3, -, -, -, -, ⟨f, l, f1, f2, f3, f4⟩, -⟩ := E.ask hi
    obtain ⟨p', e1', e2', e3', -, -, -, -, ⟨f', l', f1', f2', f3', f4'⟩, -⟩ := E.ask hj
    refine ⟨vp_in_nI (by omega) (by decide), p, e1, vp_in_nI (by omega) (by decide), p', e1', e2, e2', ?_⟩
    have c1 := e3 1 (by decide)
    have c2 := e3 2 (by decide)
    have c1' := e3' 1 (by decide)
    have c2' := e3' 2 (by decide)
    rw [c1, c2, c1', c2', e3 4 (by decide), e3 5 (by decide), e3' 4 (by decide), e3' 5 (by decide), f3, f4, f3', f4', sb_span (by omega) (by omega), sb_span (by omega) (by omega), ← f3, ← f4, ← f3', ← f4']
    refine ⟨fun w => by rwa [if_neg (fun u => w u.1)] at rf, fun w => ⟨fun w2 => by rwa [if_pos ⟨w, w2⟩] at rf, fun w2 => by rwa [if_neg (fun u => w2 u.2)] at rf⟩⟩
  · have eF : F = -2 := if_neg (fun w => z2 w.2)
    rwa [eF] at rf
theorem eq_spare (a : Int32) : Both mX7_spare mX8_spare [.int a] := by
  intro x R
  obtain ⟨W, C, S, A, N, E, -, -⟩ := R.sea
  have hn := E.nums
  have ht := Rel.t2 E
  have hS : S ≤ 24 := hn.2.2.2.2.2.2.1
  have iS := inN' (v := a) (n := S) (by omega)
  have rf : mSI mX8_spare [.ref 717, .int a] KW x (fun r' z => (if 0 ≤ a ∧ a < nI S then sprT (gi x 718) a.toNatClampNeg else -2) = r' ∧ Rel z) := by
    refine v_X8_spare_0 km R.2.1.1 km1 ⟨v0 (k := 2) (by decide) rfl rfl, ?_⟩
    rw [ht.2.2.1, iS]
    refine ⟨fun z => ⟨if_neg z, R⟩, fun z => ?_⟩
    rw [if_pos z]
    obtain ⟨s, hs, rfl⟩ := inN (by omega) z
    rw [nI_clamp (by omega)]
    exact sp_X8_spareOf R.2.1 km1 (by omega) ⟨rfl, R⟩
  refine v_X7_spare_0 k0 R.1.2.1 (ks0 E.1) E.2.1.2.2.1 (ks3 E.1) ?_
  rw [hn.2.2.1]
  refine ⟨fun z => ?_, fun z => by rwa [if_neg z] at rf⟩
  rw [if_pos z] at rf
  obtain ⟨s, hs, rfl⟩ := inN (by omega) z
  obtain ⟨p, e1, e2, e3, e4, -, e6⟩ := E.ser hs
  rw [nI_clamp (show s < 2 ^ 31 by omega)] at rf ⊢
  exact ⟨vp_in_nI (by omega) (by decide), p, e1, e2, sp_X5_missesLeft e2 e3 e6 rf⟩
end
/-! 39.pairs.lean.txt -/
section
abbrev pcr (T : TT) (wi : Int32) (s t : Nat) : Prop := so T t 0 = so T s 0 ∧ so T t 1 = so T s 1 ∧ so T t 3 = 1 ∧ (0 ≤ so T t 2 - so T s 2 ∧ so T t 2 - so T s 2 ≤ wi) ∧ ¬ (bas T t &&& bas T s) = 0
abbrev ppo (T : TT) (a b : Int32) (s : Nat) : Prop := so T s 0 = a ∧ so T s 1 = b ∧ so T s 3 = 0
theorem inc_off {c : Nat → Prop} [∀ s, Decidable (c s)] (a : Int32) : ∀ n, accT (inc c) n a = a + accT (inc c) n 0 := by
  intro n
  induction n with
  | zero => exact (Int32.add_zero a).symm
  | succ n ih =>
    simp only [accT]
    rw [ih]
    unfold inc
    by_cases h : c n
    · rw [if_pos h, if_pos h, Int32.add_assoc]
    · rw [if_neg h, if_neg h]
theorem inc_no {c : Nat → Prop} [∀ s, Decidable (c s)] (a : Int32) (h : ∀ s, ¬ c s) : ∀ n, accT (inc c) n a = a := by
  intro n
  induction n with
  | zero => rfl
  | succ n ih =>
    simp only [accT]
    rw [ih]
    exact if_neg (h n)
theorem inc_cg {c d : Nat → Prop} [∀ s, Decidable (c s)] [∀ s, Decidable (d s)] (a : Int32) (h : ∀ s, c s ↔ d s) (n : Nat) : accT (inc c) n a = accT (inc d) n a := accT_congr n (fun i b _ => by
  unfold inc
  by_cases z : c i
  · rw [if_pos z, if_pos ((h i).mp z)]
  · rw [if_neg z, if_neg (fun w => z ((h i).mpr w))])
def stP (T : TT) (S : Nat) (a b wi : Int32) : Nat → Int32 → Int32 := addS (ppo T a b) (fun s => accT (inc (pcr T wi s)) S 0)
set_option maxHeartbeats 2000000 in
theorem v_X7_departuresBehind_0 {K : Sh} {x : Cn} {Q : Int32 → Cn → Prop} {b0 : Nat} {b1 : Nat} {l2 : Int32}   (K0 : GI mX7_departuresBehind 5 [some (.ref b0), some (.ref b1), some (.int l2), some (.int 0), some (.int 0), none] [] K x Q) : mSI mX7_departuresBehind [.ref b0, .ref b1, .int l2] K x Q := by
  refine s_I (by decide) (by simp [Value.category]) (Nat.le_of_ble_eq_true rfl) ?_
  show mGM mX7_departuresBehind 0 [some (.ref b0), some (.ref b1), some (.int l2), none, none, none] [] (hp K x) (PI K Q)
  refine r_iconst (pc := 0) (v := 0) dX7_departuresBehind_0 (by decide) ?_
  refine r_istore_n (pc := 1) dX7_departuresBehind_1 (by decide) ?_
  refine r_iconst (pc := 2) (L := [some (.ref b0), some (.ref b1), some (.int l2), some (.int 0), none, none]) (v := 0) dX7_departuresBehind_2 (by decide) ?_
  refine r_istore (pc := 3) dX7_departuresBehind_3 (by decide) ?_
  exact r_le (L' := [some (.ref b0), some (.ref b1), some (.int l2), some (.int 0), some (.int 0), none]) ⟨rfl, ⟨rfl, ⟨rfl, ⟨rfl, ⟨rfl, trivial⟩⟩⟩⟩⟩ K0
set_option maxHeartbeats 2000000 in
theorem v_X7_departuresBehind_5 {K : Sh} {x : Cn} {Q : Int32 → Cn → Prop} {b0 : Nat} {b1 : Nat} {l2 : Int32} {l3 : Int32} {l4 : Int32} {b0_2 : Nat} {b0_2_7 : Nat} {n_b0_2_7 : Nat} (k_b0 : kk K b0 = some (7, 0)) (g_b0_2 : gr x b0 2 = some b0_2) (k_b0_2 : kk K b0_2 = some (4, 0)) (g_b0_2_7 : gr x b0_2 7 = some b0_2_7) (k_b0_2_7 : kk K b0_2_7 = some (23, n_b0_2_7)) (k_b1 : kk K b1 = some (5, 0)) (K0 : ((gi x b0_2 3) ≤ l4 → (Q l3 x)) ∧ (¬ (gi x b0_2 3) ≤ l4 → (vp_in l4 n_b0_2_7 ∧ (∃ c_3 : Nat, gr x b0_2_7 ((l4 : Int32).toNatClampNeg) = some c_3 ∧ (kk K c_3 = some (5, 0) ∧ ((¬ (gi x c_3 0 = (gi x b1 0) ∧ ((gi x b1 1) = -1 ∨ gi x c_3 1 = (gi x b1 1))) → (GI mX7_departuresBehind 5 [some (.ref b0), some (.ref b1), some (.int l2), some (.int l3), some (.int (l4 + 1)), none] [] K x Q)) ∧ ((gi x c_3 0 = (gi x b1 0) ∧ ((gi x b1 1) = -1 ∨ gi x c_3 1 = (gi x b1 1))) → ((¬ (gi x c_3 3) = 1 → (GI mX7_departuresBehind 5 [some (.ref b0), some (.ref b1), some (.int l2), some (.int l3), some (.int (l4 + 1)), none] [] K x Q)) ∧ ((gi x c_3 3) = 1 → ((¬ (0 ≤ ((gi x c_3 2) - (gi x b1 2)) ∧ ((gi x c_3 2) - (gi x b1 2)) ≤ l2) → (GI mX7_departuresBehind 5 [some (.ref b0), some (.ref b1), some (.int l2), some (.int l3), some (.int (l4 + 1)), none] [] K x Q)) ∧ ((0 ≤ ((gi x c_3 2) - (gi x b1 2)) ∧ ((gi x c_3 2) - (gi x b1 2)) ≤ l2) → ((((f_held x c_3) &&& (f_held x b1)) = 0 → (GI mX7_departuresBehind 5 [some (.ref b0), some (.ref b1), some (.int l2), some (.int l3), some (.int (l4 + 1)), none] [] K x Q)) ∧ (¬ ((f_held x c_3) &&& (f_held x b1)) = 0 → (GI mX7_departuresBehind 5 [some (.ref b0), some (.ref b1), some (.int l2), some (.int (l3 + 1)), some (.int (l4 + 1)), none] [] K x Q)))))))))))))) : GI mX7_departuresBehind 5 [some (.ref b0), some (.ref b1), some (.int l2), some (.int l3), some (.int l4), none] [] K x Q := by
  show mGM mX7_departuresBehind 5 [some (.ref b0), some (.ref b1), some (.int l2), some (.int l3), some (.int l4), none] [] (hp K x) (PI K Q)
  refine r_iload (pc := 5) dX7_departuresBehind_5 rfl ?_
  refine r_aload_n (pc := 7) dX7_departuresBehind_7 rfl ?_
  refine s_getR (pc := 8) dX7_departuresBehind_8 fl_X7_20 rfl k_b0 g_b0_2 ?_
  refine s_getI (pc := 11) dX7_departuresBehind_11 fl_X7_97 rfl k_b0_2 ?_
  refine r_icmp_ge (pc := 14) (tgt := 94) dX7_departuresBehind_14 (by decide) (fun q => ?_) (fun q => ?_)
  · have K0 := K0.1 q
    refine r_iload_n (pc := 94) dX7_departuresBehind_94 rfl ?_
    exact s_iret rfl dX7_departuresBehind_95 K0
  · have K0 := K0.2 q
    refine r_aload_n (pc := 17) dX7_departuresBehind_17 rfl ?_
    refine s_getR (pc := 18) dX7_departuresBehind_18 fl_X7_20 rfl k_b0 g_b0_2 ?_
    refine s_getR (pc := 21) dX7_departuresBehind_21 fl_X7_135 rfl k_b0_2 g_b0_2_7 ?_
    refine r_iload (pc := 24) dX7_departuresBehind_24 rfl ?_
    obtain ⟨i_2, K0⟩ := K0
    obtain ⟨c_3, g_4, K0⟩ := K0
    refine s_aald (pc := 26) dX7_departuresBehind_26 (by decide) rfl k_b0_2_7 i_2 g_4 ?_
    refine r_astore (pc := 27) dX7_departuresBehind_27 (by decide) ?_
    refine r_aload (pc := 29) (L := [some (.ref b0), some (.ref b1), some (.int l2), some (.int l3), some (.int l4), some (.ref c_3)]) dX7_departuresBehind_29 rfl ?_
    refine r_aload_n (pc := 31) dX7_departuresBehind_31 rfl ?_
    refine s_getI (pc := 32) dX7_departuresBehind_32 fl_X7_139 rfl k_b1 ?_
    refine r_aload_n (pc := 35) dX7_departuresBehind_35 rfl ?_
    refine s_getI (pc := 36) dX7_departuresBehind_36 fl_X7_144 rfl k_b1 ?_
    obtain ⟨e_5, K0⟩ := K0
    refine s_VI (pc := 39) mX5_isOf (ci := 5) (a := c_3) (As := [.int (gi x b1 0), .int (gi x b1 1)]) dX7_departuresBehind_39 lk_X7_248 in_X5_isOf mo_X5_isOf ⟨by decide, rfl⟩ ⟨by decide, by decide⟩ (Nat.le_of_ble_eq_true rfl) e_5 (sp_X5_isOf e_5 ?_)
    refine r_if_eq (pc := 42) (tgt := 88) dX7_departuresBehind_42 (by decide) (fun q => ?_) (fun q => ?_)
    · have q := (b2i_z _).mp q
      have K0 := K0.1 q
      refine r_iinc (pc := 88) (v := l4 + 1) dX7_departuresBehind_88 rfl rfl (by decide) ?_
      refine r_goto (pc := 91) (L := [some (.ref b0), some (.ref b1), some (.int l2), some (.int l3), some (.int (l4 + 1)), some (.ref c_3)]) (tgt := 5) dX7_departuresBehind_91 (by decide) ?_
      exact r_le (L' := [some (.ref b0), some (.ref b1), some (.int l2), some (.int l3), some (.int (l4 + 1)), none]) ⟨rfl, ⟨rfl, ⟨rfl, ⟨rfl, ⟨rfl, trivial⟩⟩⟩⟩⟩ K0
    · have q := b2i_nz q
      have K0 := K0.2 q
      refine r_aload (pc := 45) dX7_departuresBehind_45 rfl ?_
      refine s_getI (pc := 47) dX7_departuresBehind_47 fl_X7_150 rfl e_5 ?_
      refine r_iconst (pc := 50) (v := 1) dX7_departuresBehind_50 (by decide) ?_
      refine r_icmp_ne (pc := 51) (tgt := 88) dX7_departuresBehind_51 (by decide) (fun q => ?_) (fun q => ?_)
      · have K0 := K0.1 q
        refine r_iinc (pc := 88) (v := l4 + 1) dX7_departuresBehind_88 rfl rfl (by decide) ?_
        refine r_goto (pc := 91) (L := [some (.ref b0), some (.ref b1), some (.int l2), some (.int l3), some (.int (l4 + 1)), some (.ref c_3)]) (tgt := 5) dX7_departuresBehind_91 (by decide) ?_
        exact r_le (L' := [some (.ref b0), some (.ref b1), some (.int l2), some (.int l3), some (.int (l4 + 1)), none]) ⟨rfl, ⟨rfl, ⟨rfl, ⟨rfl, ⟨rfl, trivial⟩⟩⟩⟩⟩ K0
      · have K0 := K0.2 q
        refine r_aload (pc := 54) dX7_departuresBehind_54 rfl ?_
        refine s_getI (pc := 56) dX7_departuresBehind_56 fl_X7_147 rfl e_5 ?_
        refine r_aload_n (pc := 59) dX7_departuresBehind_59 rfl ?_
        refine s_getI (pc := 60) dX7_departuresBehind_60 fl_X7_147 rfl k_b1 ?_
        refine r_isub (pc := 63) dX7_departuresBehind_63 ?_
        refine r_iconst (pc := 64) (v := 0) dX7_departuresBehind_64 (by decide) ?_
        refine r_iload_n (pc := 65) dX7_departuresBehind_65 rfl ?_
        refine s_SI (pc := 66) mX7_isWithin (As := [.int ((gi x c_3 2) - (gi x b1 2)), .int 0, .int l2]) dX7_departuresBehind_66 lk_X7_113 st_X7_isWithin mo_X7_isWithin ⟨by decide, by decide⟩ (Nat.le_of_ble_eq_true rfl) (sp_X7_isWithin  ?_)
        refine r_if_eq (pc := 69) (tgt := 88) dX7_departuresBehind_69 (by decide) (fun q => ?_) (fun q => ?_)
        · have q := (b2i_z _).mp q
          have K0 := K0.1 q
          refine r_iinc (pc := 88) (v := l4 + 1) dX7_departuresBehind_88 rfl rfl (by decide) ?_
          refine r_goto (pc := 91) (L := [some (.ref b0), some (.ref b1), some (.int l2), some (.int l3), some (.int (l4 + 1)), some (.ref c_3)]) (tgt := 5) dX7_departuresBehind_91 (by decide) ?_
          exact r_le (L' := [some (.ref b0), some (.ref b1), some (.int l2), some (.int l3), some (.int (l4 + 1)), none]) ⟨rfl, ⟨rfl, ⟨rfl, ⟨rfl, ⟨rfl, trivial⟩⟩⟩⟩⟩ K0
        · have q := b2i_nz q
          have K0 := K0.2 q
          refine r_aload (pc := 72) dX7_departuresBehind_72 rfl ?_
          refine s_VI (pc := 74) mX5_heldBits (ci := 5) (a := c_3) (As := []) dX7_departuresBehind_74 lk_X7_272 in_X5_heldBits mo_X5_heldBits ⟨by decide, rfl⟩ ⟨by decide, by decide⟩ (Nat.le_of_ble_eq_true rfl) e_5 (sp_X5_heldBits e_5 ?_)
          refine r_aload_n (pc := 77) dX7_departuresBehind_77 rfl ?_
          refine s_VI (pc := 78) mX5_heldBits (ci := 5) (a := b1) (As := []) dX7_departuresBehind_78 lk_X7_272 in_X5_heldBits mo_X5_heldBits ⟨by decide, rfl⟩ ⟨by decide, by decide⟩ (Nat.le_of_ble_eq_true rfl) k_b1 (sp_X5_heldBits k_b1 ?_)
          refine r_iand (pc := 81) dX7_departuresBehind_81 ?_
          refine r_if_eq (pc := 82) (tgt := 88) dX7_departuresBehind_82 (by decide) (fun q => ?_) (fun q => ?_)
          · have K0 := K0.1 q
            refine r_iinc (pc := 88) (v := l4 + 1) dX7_departuresBehind_88 rfl rfl (by decide) ?_
            refine r_goto (pc := 91) (L := [some (.ref b0), some (.ref b1), some (.int l2), some (.int l3), some (.int (l4 + 1)), some (.ref c_3)]) (tgt := 5) dX7_departuresBehind_91 (by decide) ?_
            exact r_le (L' := [some (.ref b0), some (.ref b1), some (.int l2), some (.int l3), some (.int (l4 + 1)), none]) ⟨rfl, ⟨rfl, ⟨rfl, ⟨rfl, ⟨rfl, trivial⟩⟩⟩⟩⟩ K0
          · have K0 := K0.2 q
            refine r_iinc (pc := 85) (v := l3 + 1) dX7_departuresBehind_85 rfl rfl (by decide) ?_
            refine r_iinc (pc := 88) (L := [some (.ref b0), some (.ref b1), some (.int l2), some (.int (l3 + 1)), some (.int l4), some (.ref c_3)]) (v := l4 + 1) dX7_departuresBehind_88 rfl rfl (by decide) ?_
            refine r_goto (pc := 91) (L := [some (.ref b0), some (.ref b1), some (.int l2), some (.int (l3 + 1)), some (.int (l4 + 1)), some (.ref c_3)]) (tgt := 5) dX7_departuresBehind_91 (by decide) ?_
            exact r_le (L' := [some (.ref b0), some (.ref b1), some (.int l2), some (.int (l3 + 1)), some (.int (l4 + 1)), none]) ⟨rfl, ⟨rfl, ⟨rfl, ⟨rfl, ⟨rfl, trivial⟩⟩⟩⟩⟩ K0
section
theorem sp_X7_departuresBehind {x : Cn} {Q : Int32 → Cn → Prop} {T : TT} {W C S A N s p : Nat} {wi : Int32} (c1 : CRf x) (E : SEA x 2 T W C S A N) (hs : s < S) (hp : kk KW p = some (5, 0)) (hq : SER x p T s) (k : Q (accT (inc (pcr T wi s)) S 0) x) : mSI mX7_departuresBehind [.ref 0, .ref p, .int wi] KW x Q := by
  have hn := E.nums
  have hS : S ≤ 24 := hn.2.2.2.2.2.2.1
  obtain ⟨p', -, -, -, -, -, e9⟩ := E.ser hs
  have hh := hq.held e9
  have hd : ¬ so T s 1 = -1 := by
    obtain ⟨-, ⟨d, hd, ed⟩, -⟩ := e9
    rw [ed]
    intro z
    have := nI_pos (n := d) (by omega)
    rw [z] at this
    exact this (by decide)
  refine v_X7_departuresBehind_0 (lp_acc (inc (pcr T wi s)) (fun t c => GI mX7_departuresBehind 5 [some (.ref 0), some (.ref p), some (.int wi), some (.int c), some (.int (nI t)), none] [] KW x Q) S 0 ?_ (fun t c ht n1 => ?_))
  · exact v_X7_departuresBehind_5 k0 c1.2.1 (ks0 E.1) E.2.1.2.2.1 (ks3 E.1) hp ⟨fun _ => k, fun z => absurd (by rw [hn.2.2.1]; exact Int32.le_refl _) z⟩
  · obtain ⟨p2, e1, e2, e3, e4, -, e6⟩ := E.ser ht
    refine v_X7_departuresBehind_5 k0 c1.2.1 (ks0 E.1) E.2.1.2.2.1 (ks3 E.1) hp ⟨fun z => absurd (by rw [hn.2.2.1] at z; exact z) (nI_ge ht (by omega)), fun _ => ⟨vp_in_nI (by omega) (by decide), p2, by rw [nI_clamp (by omega)]; exact e1, e2, ?_⟩⟩
    rw [e3.1 0 (by decide) (by decide), e3.1 1 (by decide) (by decide), e3.1 2 (by decide) (by decide), e3.1 3 (by decide) (by decide), hq.1 0 (by decide) (by decide), hq.1 1 (by decide) (by decide), hq.1 2 (by decide) (by decide), e4, hh, nI_1]
    exact ⟨fun z => n1 _ (if_neg (fun w => z ⟨w.1, Or.inr w.2.1⟩)), fun z1 => ⟨fun z => n1 _ (if_neg (fun w => z w.2.2.1)), fun z2 => ⟨fun z => n1 _ (if_neg (fun w => z w.2.2.2.1)), fun z3 => ⟨fun z => n1 _ (if_neg (fun w => w.2.2.2.2 z)), fun z4 => n1 _ (if_pos ⟨z1.1, z1.2.resolve_left hd, z2, z3, z4⟩)⟩⟩⟩⟩
end
set_option maxHeartbeats 2000000 in
theorem v_X7_pairs_0 {K : Sh} {x : Cn} {Q : Int32 → Cn → Prop} {b0 : Nat} {l1 : Int32} {l2 : Int32} {l3 : Int32} {b0_3 : Nat} {b0_2 : Nat} (k_b0 : kk K b0 = some (7, 0)) (g_b0_3 : gr x b0 3 = some b0_3) (k_b0_3 : kk K b0_3 = some (1, 0)) (g_b0_2 : gr x b0 2 = some b0_2) (k_b0_2 : kk K b0_2 = some (4, 0)) (K0 : (¬ (0 ≤ l1 ∧ l1 < gi x b0_3 0) → (Q (-2) x)) ∧ ((0 ≤ l1 ∧ l1 < gi x b0_3 0) → ((¬ (0 < gi x b0_2 0 ∧ 0 ≤ l2 ∧ l2 < 7) → (Q (-2) x)) ∧ ((0 < gi x b0_2 0 ∧ 0 ≤ l2 ∧ l2 < 7) → (((0 ≤ l3 ∧ l3 ≤ 23) → (GI mX7_pairs 35 [some (.ref b0), some (.int l1), some (.int l2), some (.int l3), some (.int 0), some (.int 0), none] [] K x Q)) ∧ (¬ (0 ≤ l3 ∧ l3 ≤ 23) → (Q (-2) x))))))) : mSI mX7_pairs [.ref b0, .int l1, .int l2, .int l3] K x Q := by
  refine s_I (by decide) (by simp [Value.category]) (Nat.le_of_ble_eq_true rfl) ?_
  show mGM mX7_pairs 0 [some (.ref b0), some (.int l1), some (.int l2), some (.int l3), none, none, none] [] (hp K x) (PI K Q)
  refine r_aload_n (pc := 0) dX7_pairs_0 rfl ?_
  refine r_iload_n (pc := 1) dX7_pairs_1 rfl ?_
  refine s_VI (pc := 2) mX7_isCarrier (ci := 7) (a := b0) (As := [.int l1]) dX7_pairs_2 lk_X7_109 in_X7_isCarrier mo_X7_isCarrier ⟨by decide, rfl⟩ ⟨by decide, by decide⟩ (Nat.le_of_ble_eq_true rfl) k_b0 (sp_X7_isCarrier k_b0 g_b0_3 k_b0_3 ?_)
  refine r_if_eq (pc := 5) (tgt := 26) dX7_pairs_5 (by decide) (fun q => ?_) (fun q => ?_)
  · have q := (b2i_z _).mp q
    have K0 := K0.1 q
    refine r_bipush (pc := 26) (v := (-2)) dX7_pairs_26 (by decide) ?_
    exact s_iret rfl dX7_pairs_28 K0
  · have q := b2i_nz q
    have K0 := K0.2 q
    refine r_aload_n (pc := 8) dX7_pairs_8 rfl ?_
    refine r_iload_n (pc := 9) dX7_pairs_9 rfl ?_
    refine s_VI (pc := 10) mX7_isDay (ci := 7) (a := b0) (As := [.int l2]) dX7_pairs_10 lk_X7_245 in_X7_isDay mo_X7_isDay ⟨by decide, rfl⟩ ⟨by decide, by decide⟩ (Nat.le_of_ble_eq_true rfl) k_b0 (sp_X7_isDay k_b0 g_b0_2 k_b0_2 ?_)
    refine r_if_eq (pc := 13) (tgt := 26) dX7_pairs_13 (by decide) (fun q => ?_) (fun q => ?_)
    · have q := (b2i_z _).mp q
      have K0 := K0.1 q
      refine r_bipush (pc := 26) (v := (-2)) dX7_pairs_26 (by decide) ?_
      exact s_iret rfl dX7_pairs_28 K0
    · have q := b2i_nz q
      have K0 := K0.2 q
      refine r_iload_n (pc := 16) dX7_pairs_16 rfl ?_
      refine r_iconst (pc := 17) (v := 0) dX7_pairs_17 (by decide) ?_
      refine r_bipush (pc := 18) (v := 23) dX7_pairs_18 (by decide) ?_
      refine s_SI (pc := 20) mX7_isWithin (As := [.int l3, .int 0, .int 23]) dX7_pairs_20 lk_X7_113 st_X7_isWithin mo_X7_isWithin ⟨by decide, by decide⟩ (Nat.le_of_ble_eq_true rfl) (sp_X7_isWithin  ?_)
      refine r_if_ne (pc := 23) (tgt := 29) dX7_pairs_23 (by decide) (fun q => ?_) (fun q => ?_)
      · have q := b2i_nz q
        have K0 := K0.1 q
        refine r_iconst (pc := 29) (v := 0) dX7_pairs_29 (by decide) ?_
        refine r_istore (pc := 30) dX7_pairs_30 (by decide) ?_
        refine r_iconst (pc := 32) (L := [some (.ref b0), some (.int l1), some (.int l2), some (.int l3), some (.int 0), none, none]) (v := 0) dX7_pairs_32 (by decide) ?_
        refine r_istore (pc := 33) dX7_pairs_33 (by decide) ?_
        exact r_le (L' := [some (.ref b0), some (.int l1), some (.int l2), some (.int l3), some (.int 0), some (.int 0), none]) ⟨rfl, ⟨rfl, ⟨rfl, ⟨rfl, ⟨rfl, ⟨rfl, trivial⟩⟩⟩⟩⟩⟩ K0
      · have q := (b2i_z _).mp q
        have K0 := K0.2 q
        refine r_bipush (pc := 26) (v := (-2)) dX7_pairs_26 (by decide) ?_
        exact s_iret rfl dX7_pairs_28 K0
set_option maxHeartbeats 2000000 in
theorem v_X7_pairs_35 {K : Sh} {x : Cn} {Q : Int32 → Cn → Prop} {b0 : Nat} {l1 : Int32} {l2 : Int32} {l3 : Int32} {l4 : Int32} {l5 : Int32} {b0_2 : Nat} {b0_2_7 : Nat} {n_b0_2_7 : Nat} (k_b0 : kk K b0 = some (7, 0)) (g_b0_2 : gr x b0 2 = some b0_2) (k_b0_2 : kk K b0_2 = some (4, 0)) (g_b0_2_7 : gr x b0_2 7 = some b0_2_7) (k_b0_2_7 : kk K b0_2_7 = some (23, n_b0_2_7)) (K0 : ((gi x b0_2 3) ≤ l5 → (Q l4 x)) ∧ (¬ (gi x b0_2 3) ≤ l5 → (vp_in l5 n_b0_2_7 ∧ (∃ c_3 : Nat, gr x b0_2_7 ((l5 : Int32).toNatClampNeg) = some c_3 ∧ (kk K c_3 = some (5, 0) ∧ ((¬ (gi x c_3 0 = l1 ∧ (l2 = -1 ∨ gi x c_3 1 = l2)) → (GI mX7_pairs 35 [some (.ref b0), some (.int l1), some (.int l2), some (.int l3), some (.int l4), some (.int (l5 + 1)), none] [] K x Q)) ∧ ((gi x c_3 0 = l1 ∧ (l2 = -1 ∨ gi x c_3 1 = l2)) → ((¬ (gi x c_3 3) = 0 → (GI mX7_pairs 35 [some (.ref b0), some (.int l1), some (.int l2), some (.int l3), some (.int l4), some (.int (l5 + 1)), none] [] K x Q)) ∧ ((gi x c_3 3) = 0 → (mSI mX7_departuresBehind [.ref b0, .ref c_3, .int l3] K x (fun r_9 y_8 => GI mX7_pairs 35 [some (.ref b0), some (.int l1), some (.int l2), some (.int l3), some (.int (l4 + r_9)), some (.int (l5 + 1)), none] [] K y_8 Q))))))))))) : GI mX7_pairs 35 [some (.ref b0), some (.int l1), some (.int l2), some (.int l3), some (.int l4), some (.int l5), none] [] K x Q := by
  show mGM mX7_pairs 35 [some (.ref b0), some (.int l1), some (.int l2), some (.int l3), some (.int l4), some (.int l5), none] [] (hp K x) (PI K Q)
  refine r_iload (pc := 35) dX7_pairs_35 rfl ?_
  refine r_aload_n (pc := 37) dX7_pairs_37 rfl ?_
  refine s_getR (pc := 38) dX7_pairs_38 fl_X7_20 rfl k_b0 g_b0_2 ?_
  refine s_getI (pc := 41) dX7_pairs_41 fl_X7_97 rfl k_b0_2 ?_
  refine r_icmp_ge (pc := 44) (tgt := 95) dX7_pairs_44 (by decide) (fun q => ?_) (fun q => ?_)
  · have K0 := K0.1 q
    refine r_iload (pc := 95) dX7_pairs_95 rfl ?_
    exact s_iret rfl dX7_pairs_97 K0
  · have K0 := K0.2 q
    refine r_aload_n (pc := 47) dX7_pairs_47 rfl ?_
    refine s_getR (pc := 48) dX7_pairs_48 fl_X7_20 rfl k_b0 g_b0_2 ?_
    refine s_getR (pc := 51) dX7_pairs_51 fl_X7_135 rfl k_b0_2 g_b0_2_7 ?_
    refine r_iload (pc := 54) dX7_pairs_54 rfl ?_
    obtain ⟨i_2, K0⟩ := K0
    obtain ⟨c_3, g_4, K0⟩ := K0
    refine s_aald (pc := 56) dX7_pairs_56 (by decide) rfl k_b0_2_7 i_2 g_4 ?_
    refine r_astore (pc := 57) dX7_pairs_57 (by decide) ?_
    refine r_aload (pc := 59) (L := [some (.ref b0), some (.int l1), some (.int l2), some (.int l3), some (.int l4), some (.int l5), some (.ref c_3)]) dX7_pairs_59 rfl ?_
    refine r_iload_n (pc := 61) dX7_pairs_61 rfl ?_
    refine r_iload_n (pc := 62) dX7_pairs_62 rfl ?_
    obtain ⟨e_5, K0⟩ := K0
    refine s_VI (pc := 63) mX5_isOf (ci := 5) (a := c_3) (As := [.int l1, .int l2]) dX7_pairs_63 lk_X7_248 in_X5_isOf mo_X5_isOf ⟨by decide, rfl⟩ ⟨by decide, by decide⟩ (Nat.le_of_ble_eq_true rfl) e_5 (sp_X5_isOf e_5 ?_)
    refine r_if_eq (pc := 66) (tgt := 89) dX7_pairs_66 (by decide) (fun q => ?_) (fun q => ?_)
    · have q := (b2i_z _).mp q
      have K0 := K0.1 q
      refine r_iinc (pc := 89) (v := l5 + 1) dX7_pairs_89 rfl rfl (by decide) ?_
      refine r_goto (pc := 92) (L := [some (.ref b0), some (.int l1), some (.int l2), some (.int l3), some (.int l4), some (.int (l5 + 1)), some (.ref c_3)]) (tgt := 35) dX7_pairs_92 (by decide) ?_
      exact r_le (L' := [some (.ref b0), some (.int l1), some (.int l2), some (.int l3), some (.int l4), some (.int (l5 + 1)), none]) ⟨rfl, ⟨rfl, ⟨rfl, ⟨rfl, ⟨rfl, ⟨rfl, trivial⟩⟩⟩⟩⟩⟩ K0
    · have q := b2i_nz q
      have K0 := K0.2 q
      refine r_aload (pc := 69) dX7_pairs_69 rfl ?_
      refine s_getI (pc := 71) dX7_pairs_71 fl_X7_150 rfl e_5 ?_
      refine r_if_ne (pc := 74) (tgt := 89) dX7_pairs_74 (by decide) (fun q => ?_) (fun q => ?_)
      · have K0 := K0.1 q
        refine r_iinc (pc := 89) (v := l5 + 1) dX7_pairs_89 rfl rfl (by decide) ?_
        refine r_goto (pc := 92) (L := [some (.ref b0), some (.int l1), some (.int l2), some (.int l3), some (.int l4), some (.int (l5 + 1)), some (.ref c_3)]) (tgt := 35) dX7_pairs_92 (by decide) ?_
        exact r_le (L' := [some (.ref b0), some (.int l1), some (.int l2), some (.int l3), some (.int l4), some (.int (l5 + 1)), none]) ⟨rfl, ⟨rfl, ⟨rfl, ⟨rfl, ⟨rfl, ⟨rfl, trivial⟩⟩⟩⟩⟩⟩ K0
      · have K0 := K0.2 q
        refine r_iload (pc := 77) dX7_pairs_77 rfl ?_
        refine r_aload_n (pc := 79) dX7_pairs_79 rfl ?_
        refine r_aload (pc := 80) dX7_pairs_80 rfl ?_
        refine r_iload_n (pc := 82) dX7_pairs_82 rfl ?_
        refine s_VI (pc := 83) mX7_departuresBehind (ci := 7) (a := b0) (As := [.ref c_3, .int l3]) dX7_pairs_83 lk_X7_275 in_X7_departuresBehind mo_X7_departuresBehind ⟨by decide, rfl⟩ ⟨by decide, by decide⟩ (Nat.le_of_ble_eq_true rfl) k_b0 (mSI_mono K0 (fun r_9 y_8 K0 => ?_))
        refine r_iadd (pc := 86) dX7_pairs_86 ?_
        refine r_istore (pc := 87) dX7_pairs_87 (by decide) ?_
        refine r_iinc (pc := 89) (L := [some (.ref b0), some (.int l1), some (.int l2), some (.int l3), some (.int (l4 + r_9)), some (.int l5), some (.ref c_3)]) (v := l5 + 1) dX7_pairs_89 rfl rfl (by decide) ?_
        refine r_goto (pc := 92) (L := [some (.ref b0), some (.int l1), some (.int l2), some (.int l3), some (.int (l4 + r_9)), some (.int (l5 + 1)), some (.ref c_3)]) (tgt := 35) dX7_pairs_92 (by decide) ?_
        exact r_le (L' := [some (.ref b0), some (.int l1), some (.int l2), some (.int l3), some (.int (l4 + r_9)), some (.int (l5 + 1)), none]) ⟨rfl, ⟨rfl, ⟨rfl, ⟨rfl, ⟨rfl, ⟨rfl, trivial⟩⟩⟩⟩⟩⟩ K0
set_option maxHeartbeats 2000000 in
theorem v_X8_pairs_0 {K : Sh} {x : Cn} {Q : Int32 → Cn → Prop} {b0 : Nat} {l1 : Int32} {l2 : Int32} {l3 : Int32} {b0_1 : Nat} {n_b0_1 : Nat} (k_b0 : kk K b0 = some (8, 0)) (g_b0_1 : gr x b0 1 = some b0_1) (k_b0_1 : kk K b0_1 = some (20, n_b0_1)) (K0 : vp_in 1 n_b0_1 ∧ ((¬ (0 ≤ l1 ∧ l1 ≤ gi x b0_1 1 - 1) → (Q (-2) x)) ∧ ((0 ≤ l1 ∧ l1 ≤ gi x b0_1 1 - 1) → (vp_in 0 n_b0_1 ∧ ((¬ (0 < gi x b0_1 0 ∧ 0 ≤ l2 ∧ l2 ≤ 6) → (Q (-2) x)) ∧ ((0 < gi x b0_1 0 ∧ 0 ≤ l2 ∧ l2 ≤ 6) → (((0 ≤ l3 ∧ l3 ≤ 23) → (GI mX8_pairs 37 [some (.ref b0), some (.int l1), some (.int l2), some (.int l3), some (.int 0), some (.int 0), none, none, none] [] K x Q)) ∧ (¬ (0 ≤ l3 ∧ l3 ≤ 23) → (Q (-2) x))))))))) : mSI mX8_pairs [.ref b0, .int l1, .int l2, .int l3] K x Q := by
  refine s_I (by decide) (by simp [Value.category]) (Nat.le_of_ble_eq_true rfl) ?_
  show mGM mX8_pairs 0 [some (.ref b0), some (.int l1), some (.int l2), some (.int l3), none, none, none, none, none] [] (hp K x) (PI K Q)
  refine r_aload_n (pc := 0) dX8_pairs_0 rfl ?_
  refine r_iload_n (pc := 1) dX8_pairs_1 rfl ?_
  obtain ⟨i_1, K0⟩ := K0
  refine s_VI (pc := 2) mX8_isCarrier (ci := 8) (a := b0) (As := [.int l1]) dX8_pairs_2 lk_X8_265 in_X8_isCarrier mo_X8_isCarrier ⟨by decide, rfl⟩ ⟨by decide, by decide⟩ (Nat.le_of_ble_eq_true rfl) k_b0 (sp_X8_isCarrier k_b0 g_b0_1 k_b0_1 i_1 ?_)
  refine r_if_eq (pc := 5) (tgt := 28) dX8_pairs_5 (by decide) (fun q => ?_) (fun q => ?_)
  · have q := (b2i_z _).mp q
    have K0 := K0.1 q
    refine r_bipush (pc := 28) (v := (-2)) dX8_pairs_28 (by decide) ?_
    exact s_iret rfl dX8_pairs_30 K0
  · have q := b2i_nz q
    have K0 := K0.2 q
    refine r_aload_n (pc := 8) dX8_pairs_8 rfl ?_
    refine r_iload_n (pc := 9) dX8_pairs_9 rfl ?_
    obtain ⟨i_3, K0⟩ := K0
    refine s_VI (pc := 10) mX8_isDay (ci := 8) (a := b0) (As := [.int l2]) dX8_pairs_10 lk_X8_61 in_X8_isDay mo_X8_isDay ⟨by decide, rfl⟩ ⟨by decide, by decide⟩ (Nat.le_of_ble_eq_true rfl) k_b0 (sp_X8_isDay k_b0 g_b0_1 k_b0_1 i_3 ?_)
    refine r_if_eq (pc := 13) (tgt := 28) dX8_pairs_13 (by decide) (fun q => ?_) (fun q => ?_)
    · have q := (b2i_z _).mp q
      have K0 := K0.1 q
      refine r_bipush (pc := 28) (v := (-2)) dX8_pairs_28 (by decide) ?_
      exact s_iret rfl dX8_pairs_30 K0
    · have q := b2i_nz q
      have K0 := K0.2 q
      refine r_iload_n (pc := 16) dX8_pairs_16 rfl ?_
      refine r_i2l (pc := 17) dX8_pairs_17 ?_
      refine r_lconst (pc := 18) (v := 0) dX8_pairs_18 (by decide) ?_
      refine r_ldc2 (pc := 19) (v := 23) dX8_pairs_19 cn_X8_55 ?_
      refine s_SI (pc := 22) mX8_in (As := [.long ((l3 : Int32).toInt64), .long 0, .long 23]) dX8_pairs_22 lk_X8_45 st_X8_in mo_X8_in ⟨by decide, by decide⟩ (Nat.le_of_ble_eq_true rfl) (sq_X8_in (v := l3) (lo := 0) (hi := 23) rfl (by decide) (by decide) ?_)
      refine r_if_ne (pc := 25) (tgt := 31) dX8_pairs_25 (by decide) (fun q => ?_) (fun q => ?_)
      · have q := b2i_nz q
        have K0 := K0.1 q
        refine r_iconst (pc := 31) (v := 0) dX8_pairs_31 (by decide) ?_
        refine r_istore (pc := 32) dX8_pairs_32 (by decide) ?_
        refine r_iconst (pc := 34) (L := [some (.ref b0), some (.int l1), some (.int l2), some (.int l3), some (.int 0), none, none, none, none]) (v := 0) dX8_pairs_34 (by decide) ?_
        refine r_istore (pc := 35) dX8_pairs_35 (by decide) ?_
        exact r_le (L' := [some (.ref b0), some (.int l1), some (.int l2), some (.int l3), some (.int 0), some (.int 0), none, none, none]) ⟨rfl, ⟨rfl, ⟨rfl, ⟨rfl, ⟨rfl, ⟨rfl, trivial⟩⟩⟩⟩⟩⟩ K0
      · have q := (b2i_z _).mp q
        have K0 := K0.2 q
        refine r_bipush (pc := 28) (v := (-2)) dX8_pairs_28 (by decide) ?_
        exact s_iret rfl dX8_pairs_30 K0
set_option maxHeartbeats 2000000 in
theorem v_X8_pairs_37 {K : Sh} {x : Cn} {Q : Int32 → Cn → Prop} {b0 : Nat} {l1 : Int32} {l2 : Int32} {l3 : Int32} {l4 : Int32} {l5 : Int32} {b0_1 : Nat} {n_b0_1 : Nat} (k_b0 : kk K b0 = some (8, 0)) (g_b0_1 : gr x b0 1 = some b0_1) (k_b0_1 : kk K b0_1 = some (20, n_b0_1)) (K0 : vp_in 2 n_b0_1 ∧ (((gi x b0_1 2) ≤ l5 → (Q l4 x)) ∧ (¬ (gi x b0_1 2) ≤ l5 → (GI mX8_pairs 51 [some (.ref b0), some (.int l1), some (.int l2), some (.int l3), some (.int l4), some (.int l5), some (.int 0), none, none] [] K x Q)))) : GI mX8_pairs 37 [some (.ref b0), some (.int l1), some (.int l2), some (.int l3), some (.int l4), some (.int l5), none, none, none] [] K x Q := by
  show mGM mX8_pairs 37 [some (.ref b0), some (.int l1), some (.int l2), some (.int l3), some (.int l4), some (.int l5), none, none, none] [] (hp K x) (PI K Q)
  refine r_iload (pc := 37) dX8_pairs_37 rfl ?_
  refine r_aload_n (pc := 39) dX8_pairs_39 rfl ?_
  refine s_getR (pc := 40) dX8_pairs_40 fl_X8_9 rfl k_b0 g_b0_1 ?_
  refine r_iconst (pc := 43) (v := 2) dX8_pairs_43 (by decide) ?_
  obtain ⟨i_1, K0⟩ := K0
  refine s_iald (pc := 44) dX8_pairs_44 k_b0_1 i_1 ?_
  refine r_icmp_ge (pc := 45) (tgt := 214) dX8_pairs_45 (by decide) (fun q => ?_) (fun q => ?_)
  · have K0 := K0.1 q
    refine r_iload (pc := 214) dX8_pairs_214 rfl ?_
    exact s_iret rfl dX8_pairs_216 K0
  · have K0 := K0.2 q
    refine r_iconst (pc := 48) (v := 0) dX8_pairs_48 (by decide) ?_
    refine r_istore (pc := 49) dX8_pairs_49 (by decide) ?_
    exact r_le (L' := [some (.ref b0), some (.int l1), some (.int l2), some (.int l3), some (.int l4), some (.int l5), some (.int 0), none, none]) ⟨rfl, ⟨rfl, ⟨rfl, ⟨rfl, ⟨rfl, ⟨rfl, ⟨rfl, trivial⟩⟩⟩⟩⟩⟩⟩ K0
set_option maxHeartbeats 2000000 in
theorem v_X8_pairs_51 {K : Sh} {x : Cn} {Q : Int32 → Cn → Prop} {b0 : Nat} {l1 : Int32} {l2 : Int32} {l3 : Int32} {l4 : Int32} {l5 : Int32} {l6 : Int32} {b0_1 : Nat} {n_b0_1 : Nat} {b0_3 : Nat} {n_b0_3 : Nat} (k_b0 : kk K b0 = some (8, 0)) (g_b0_1 : gr x b0 1 = some b0_1) (k_b0_1 : kk K b0_1 = some (20, n_b0_1)) (g_b0_3 : gr x b0 3 = some b0_3) (k_b0_3 : kk K b0_3 = some (20, n_b0_3)) (K0 : vp_in 2 n_b0_1 ∧ (((gi x b0_1 2) ≤ l6 → (GI mX8_pairs 37 [some (.ref b0), some (.int l1), some (.int l2), some (.int l3), some (.int l4), some (.int (l5 + 1)), none, none, none] [] K x Q)) ∧ (¬ (gi x b0_1 2) ≤ l6 → ((l24 l5 n_b0_3) ∧ ((¬ (so (gi x b0_3) (l5 : Int32).toNatClampNeg 0) = l1 → (GI mX8_pairs 110 [some (.ref b0), some (.int l1), some (.int l2), some (.int l3), some (.int l4), some (.int l5), some (.int l6), none, none] [] K x Q)) ∧ ((so (gi x b0_3) (l5 : Int32).toNatClampNeg 0) = l1 → ((l24 l6 n_b0_3) ∧ ((¬ (so (gi x b0_3) (l6 : Int32).toNatClampNeg 0) = l1 → (GI mX8_pairs 110 [some (.ref b0), some (.int l1), some (.int l2), some (.int l3), some (.int l4), some (.int l5), some (.int l6), none, none] [] K x Q)) ∧ ((so (gi x b0_3) (l6 : Int32).toNatClampNeg 0) = l1 → ((¬ (so (gi x b0_3) (l5 : Int32).toNatClampNeg 1) = l2 → (GI mX8_pairs 110 [some (.ref b0), some (.int l1), some (.int l2), some (.int l3), some (.int l4), some (.int l5), some (.int l6), none, none] [] K x Q)) ∧ ((so (gi x b0_3) (l5 : Int32).toNatClampNeg 1) = l2 → ((¬ (so (gi x b0_3) (l6 : Int32).toNatClampNeg 1) = l2 → (GI mX8_pairs 110 [some (.ref b0), some (.int l1), some (.int l2), some (.int l3), some (.int l4), some (.int l5), some (.int l6), none, none] [] K x Q)) ∧ ((so (gi x b0_3) (l6 : Int32).toNatClampNeg 1) = l2 → ((¬ (so (gi x b0_3) (l5 : Int32).toNatClampNeg 3) = 0 → (GI mX8_pairs 163 [some (.ref b0), some (.int l1), some (.int l2), some (.int l3), some (.int l4), some (.int l5), some (.int l6), some (.int 1), none] [] K x Q)) ∧ ((so (gi x b0_3) (l5 : Int32).toNatClampNeg 3) = 0 → ((¬ (so (gi x b0_3) (l6 : Int32).toNatClampNeg 3) = 1 → (GI mX8_pairs 163 [some (.ref b0), some (.int l1), some (.int l2), some (.int l3), some (.int l4), some (.int l5), some (.int l6), some (.int 1), none] [] K x Q)) ∧ ((so (gi x b0_3) (l6 : Int32).toNatClampNeg 3) = 1 → ((¬ (0 ≤ ((so (gi x b0_3) (l6 : Int32).toNatClampNeg 2) - (so (gi x b0_3) (l5 : Int32).toNatClampNeg 2)) ∧ ((so (gi x b0_3) (l6 : Int32).toNatClampNeg 2) - (so (gi x b0_3) (l5 : Int32).toNatClampNeg 2)) ≤ l3) → (GI mX8_pairs 163 [some (.ref b0), some (.int l1), some (.int l2), some (.int l3), some (.int l4), some (.int l5), some (.int l6), some (.int 1), none] [] K x Q)) ∧ ((0 ≤ ((so (gi x b0_3) (l6 : Int32).toNatClampNeg 2) - (so (gi x b0_3) (l5 : Int32).toNatClampNeg 2)) ∧ ((so (gi x b0_3) (l6 : Int32).toNatClampNeg 2) - (so (gi x b0_3) (l5 : Int32).toNatClampNeg 2)) ≤ l3) → ((((bas (gi x b0_3) (l5 : Int32).toNatClampNeg) &&& (bas (gi x b0_3) (l6 : Int32).toNatClampNeg)) = 0 → (GI mX8_pairs 51 [some (.ref b0), some (.int l1), some (.int l2), some (.int l3), some (.int (l4 + 0)), some (.int l5), some (.int (l6 + 1)), none, none] [] K x Q)) ∧ (¬ ((bas (gi x b0_3) (l5 : Int32).toNatClampNeg) &&& (bas (gi x b0_3) (l6 : Int32).toNatClampNeg)) = 0 → (GI mX8_pairs 51 [some (.ref b0), some (.int l1), some (.int l2), some (.int l3), some (.int (l4 + 1)), some (.int l5), some (.int (l6 + 1)), none, none] [] K x Q)))))))))))))))))))))) : GI mX8_pairs 51 [some (.ref b0), some (.int l1), some (.int l2), some (.int l3), some (.int l4), some (.int l5), some (.int l6), none, none] [] K x Q := by
  show mGM mX8_pairs 51 [some (.ref b0), some (.int l1), some (.int l2), some (.int l3), some (.int l4), some (.int l5), some (.int l6), none, none] [] (hp K x) (PI K Q)
  refine r_iload (pc := 51) dX8_pairs_51 rfl ?_
  refine r_aload_n (pc := 53) dX8_pairs_53 rfl ?_
  refine s_getR (pc := 54) dX8_pairs_54 fl_X8_9 rfl k_b0 g_b0_1 ?_
  refine r_iconst (pc := 57) (v := 2) dX8_pairs_57 (by decide) ?_
  obtain ⟨i_1, K0⟩ := K0
  refine s_iald (pc := 58) dX8_pairs_58 k_b0_1 i_1 ?_
  refine r_icmp_ge (pc := 59) (tgt := 208) dX8_pairs_59 (by decide) (fun q => ?_) (fun q => ?_)
  · have K0 := K0.1 q
    refine r_iinc (pc := 208) (v := l5 + 1) dX8_pairs_208 rfl rfl (by decide) ?_
    refine r_goto (pc := 211) (L := [some (.ref b0), some (.int l1), some (.int l2), some (.int l3), some (.int l4), some (.int (l5 + 1)), some (.int l6), none, none]) (tgt := 37) dX8_pairs_211 (by decide) ?_
    exact r_le (L' := [some (.ref b0), some (.int l1), some (.int l2), some (.int l3), some (.int l4), some (.int (l5 + 1)), none, none, none]) ⟨rfl, ⟨rfl, ⟨rfl, ⟨rfl, ⟨rfl, ⟨rfl, trivial⟩⟩⟩⟩⟩⟩ K0
  · have K0 := K0.2 q
    refine r_aload_n (pc := 62) dX8_pairs_62 rfl ?_
    refine r_iload (pc := 63) dX8_pairs_63 rfl ?_
    refine r_iconst (pc := 65) (v := 0) dX8_pairs_65 (by decide) ?_
    obtain ⟨p_3, K0⟩ := K0
    refine s_VI (pc := 66) mX8_one (ci := 8) (a := b0) (As := [.int l5, .int 0]) dX8_pairs_66 lk_X8_67 in_X8_one mo_X8_one ⟨by decide, rfl⟩ ⟨by decide, by decide⟩ (Nat.le_of_ble_eq_true rfl) k_b0 (sr_X8_one k_b0 g_b0_3 k_b0_3 p_3 ⟨by decide, by decide⟩ ?_)
    refine r_iload_n (pc := 69) dX8_pairs_69 rfl ?_
    refine r_icmp_ne (pc := 70) (tgt := 110) dX8_pairs_70 (by decide) (fun q => ?_) (fun q => ?_)
    · have K0 := K0.1 q
      exact r_le (L' := [some (.ref b0), some (.int l1), some (.int l2), some (.int l3), some (.int l4), some (.int l5), some (.int l6), none, none]) ⟨rfl, ⟨rfl, ⟨rfl, ⟨rfl, ⟨rfl, ⟨rfl, ⟨rfl, trivial⟩⟩⟩⟩⟩⟩⟩ K0
    · have K0 := K0.2 q
      refine r_aload_n (pc := 73) dX8_pairs_73 rfl ?_
      refine r_iload (pc := 74) dX8_pairs_74 rfl ?_
      refine r_iconst (pc := 76) (v := 0) dX8_pairs_76 (by decide) ?_
      obtain ⟨p_5, K0⟩ := K0
      refine s_VI (pc := 77) mX8_one (ci := 8) (a := b0) (As := [.int l6, .int 0]) dX8_pairs_77 lk_X8_67 in_X8_one mo_X8_one ⟨by decide, rfl⟩ ⟨by decide, by decide⟩ (Nat.le_of_ble_eq_true rfl) k_b0 (sr_X8_one k_b0 g_b0_3 k_b0_3 p_5 ⟨by decide, by decide⟩ ?_)
      refine r_iload_n (pc := 80) dX8_pairs_80 rfl ?_
      refine r_icmp_ne (pc := 81) (tgt := 110) dX8_pairs_81 (by decide) (fun q => ?_) (fun q => ?_)
      · have K0 := K0.1 q
        exact r_le (L' := [some (.ref b0), some (.int l1), some (.int l2), some (.int l3), some (.int l4), some (.int l5), some (.int l6), none, none]) ⟨rfl, ⟨rfl, ⟨rfl, ⟨rfl, ⟨rfl, ⟨rfl, ⟨rfl, trivial⟩⟩⟩⟩⟩⟩⟩ K0
      · have K0 := K0.2 q
        refine r_aload_n (pc := 84) dX8_pairs_84 rfl ?_
        refine r_iload (pc := 85) dX8_pairs_85 rfl ?_
        refine r_iconst (pc := 87) (v := 1) dX8_pairs_87 (by decide) ?_
        refine s_VI (pc := 88) mX8_one (ci := 8) (a := b0) (As := [.int l5, .int 1]) dX8_pairs_88 lk_X8_67 in_X8_one mo_X8_one ⟨by decide, rfl⟩ ⟨by decide, by decide⟩ (Nat.le_of_ble_eq_true rfl) k_b0 (sr_X8_one k_b0 g_b0_3 k_b0_3 p_3 ⟨by decide, by decide⟩ ?_)
        refine r_iload_n (pc := 91) dX8_pairs_91 rfl ?_
        refine r_icmp_ne (pc := 92) (tgt := 110) dX8_pairs_92 (by decide) (fun q => ?_) (fun q => ?_)
        · have K0 := K0.1 q
          exact r_le (L' := [some (.ref b0), some (.int l1), some (.int l2), some (.int l3), some (.int l4), some (.int l5), some (.int l6), none, none]) ⟨rfl, ⟨rfl, ⟨rfl, ⟨rfl, ⟨rfl, ⟨rfl, ⟨rfl, trivial⟩⟩⟩⟩⟩⟩⟩ K0
        · have K0 := K0.2 q
          refine r_aload_n (pc := 95) dX8_pairs_95 rfl ?_
          refine r_iload (pc := 96) dX8_pairs_96 rfl ?_
          refine r_iconst (pc := 98) (v := 1) dX8_pairs_98 (by decide) ?_
          refine s_VI (pc := 99) mX8_one (ci := 8) (a := b0) (As := [.int l6, .int 1]) dX8_pairs_99 lk_X8_67 in_X8_one mo_X8_one ⟨by decide, rfl⟩ ⟨by decide, by decide⟩ (Nat.le_of_ble_eq_true rfl) k_b0 (sr_X8_one k_b0 g_b0_3 k_b0_3 p_5 ⟨by decide, by decide⟩ ?_)
          refine r_iload_n (pc := 102) dX8_pairs_102 rfl ?_
          refine r_icmp_ne (pc := 103) (tgt := 110) dX8_pairs_103 (by decide) (fun q => ?_) (fun q => ?_)
          · have K0 := K0.1 q
            exact r_le (L' := [some (.ref b0), some (.int l1), some (.int l2), some (.int l3), some (.int l4), some (.int l5), some (.int l6), none, none]) ⟨rfl, ⟨rfl, ⟨rfl, ⟨rfl, ⟨rfl, ⟨rfl, ⟨rfl, trivial⟩⟩⟩⟩⟩⟩⟩ K0
          · have K0 := K0.2 q
            refine r_iconst (pc := 106) (v := 1) dX8_pairs_106 (by decide) ?_
            refine r_goto (pc := 107) (tgt := 111) dX8_pairs_107 (by decide) ?_
            refine r_istore (pc := 111) dX8_pairs_111 (by decide) ?_
            refine r_aload_n (pc := 113) (L := [some (.ref b0), some (.int l1), some (.int l2), some (.int l3), some (.int l4), some (.int l5), some (.int l6), some (.int 1), none]) dX8_pairs_113 rfl ?_
            refine r_iload (pc := 114) dX8_pairs_114 rfl ?_
            refine r_iconst (pc := 116) (v := 3) dX8_pairs_116 (by decide) ?_
            refine s_VI (pc := 117) mX8_one (ci := 8) (a := b0) (As := [.int l5, .int 3]) dX8_pairs_117 lk_X8_67 in_X8_one mo_X8_one ⟨by decide, rfl⟩ ⟨by decide, by decide⟩ (Nat.le_of_ble_eq_true rfl) k_b0 (sr_X8_one k_b0 g_b0_3 k_b0_3 p_3 ⟨by decide, by decide⟩ ?_)
            refine r_if_ne (pc := 120) (tgt := 163) dX8_pairs_120 (by decide) (fun q => ?_) (fun q => ?_)
            · have K0 := K0.1 q
              exact r_le (L' := [some (.ref b0), some (.int l1), some (.int l2), some (.int l3), some (.int l4), some (.int l5), some (.int l6), some (.int 1), none]) ⟨rfl, ⟨rfl, ⟨rfl, ⟨rfl, ⟨rfl, ⟨rfl, ⟨rfl, ⟨rfl, trivial⟩⟩⟩⟩⟩⟩⟩⟩ K0
            · have K0 := K0.2 q
              refine r_aload_n (pc := 123) dX8_pairs_123 rfl ?_
              refine r_iload (pc := 124) dX8_pairs_124 rfl ?_
              refine r_iconst (pc := 126) (v := 3) dX8_pairs_126 (by decide) ?_
              refine s_VI (pc := 127) mX8_one (ci := 8) (a := b0) (As := [.int l6, .int 3]) dX8_pairs_127 lk_X8_67 in_X8_one mo_X8_one ⟨by decide, rfl⟩ ⟨by decide, by decide⟩ (Nat.le_of_ble_eq_true rfl) k_b0 (sr_X8_one k_b0 g_b0_3 k_b0_3 p_5 ⟨by decide, by decide⟩ ?_)
              refine r_iconst (pc := 130) (v := 1) dX8_pairs_130 (by decide) ?_
              refine r_icmp_ne (pc := 131) (tgt := 163) dX8_pairs_131 (by decide) (fun q => ?_) (fun q => ?_)
              · have K0 := K0.1 q
                exact r_le (L' := [some (.ref b0), some (.int l1), some (.int l2), some (.int l3), some (.int l4), some (.int l5), some (.int l6), some (.int 1), none]) ⟨rfl, ⟨rfl, ⟨rfl, ⟨rfl, ⟨rfl, ⟨rfl, ⟨rfl, ⟨rfl, trivial⟩⟩⟩⟩⟩⟩⟩⟩ K0
              · have K0 := K0.2 q
                refine r_aload_n (pc := 134) dX8_pairs_134 rfl ?_
                refine r_iload (pc := 135) dX8_pairs_135 rfl ?_
                refine r_iconst (pc := 137) (v := 2) dX8_pairs_137 (by decide) ?_
                refine s_VI (pc := 138) mX8_one (ci := 8) (a := b0) (As := [.int l6, .int 2]) dX8_pairs_138 lk_X8_67 in_X8_one mo_X8_one ⟨by decide, rfl⟩ ⟨by decide, by decide⟩ (Nat.le_of_ble_eq_true rfl) k_b0 (sr_X8_one k_b0 g_b0_3 k_b0_3 p_5 ⟨by decide, by decide⟩ ?_)
                refine r_aload_n (pc := 141) dX8_pairs_141 rfl ?_
                refine r_iload (pc := 142) dX8_pairs_142 rfl ?_
                refine r_iconst (pc := 144) (v := 2) dX8_pairs_144 (by decide) ?_
                refine s_VI (pc := 145) mX8_one (ci := 8) (a := b0) (As := [.int l5, .int 2]) dX8_pairs_145 lk_X8_67 in_X8_one mo_X8_one ⟨by decide, rfl⟩ ⟨by decide, by decide⟩ (Nat.le_of_ble_eq_true rfl) k_b0 (sr_X8_one k_b0 g_b0_3 k_b0_3 p_3 ⟨by decide, by decide⟩ ?_)
                refine r_isub (pc := 148) dX8_pairs_148 ?_
                refine r_i2l (pc := 149) dX8_pairs_149 ?_
                refine r_lconst (pc := 150) (v := 0) dX8_pairs_150 (by decide) ?_
                refine r_iload_n (pc := 151) dX8_pairs_151 rfl ?_
                refine r_i2l (pc := 152) dX8_pairs_152 ?_
                refine s_SI (pc := 153) mX8_in (As := [.long ((((so (gi x b0_3) (l6 : Int32).toNatClampNeg 2) - (so (gi x b0_3) (l5 : Int32).toNatClampNeg 2)) : Int32).toInt64), .long 0, .long ((l3 : Int32).toInt64)]) dX8_pairs_153 lk_X8_45 st_X8_in mo_X8_in ⟨by decide, by decide⟩ (Nat.le_of_ble_eq_true rfl) (sq_X8_in (v := ((so (gi x b0_3) (l6 : Int32).toNatClampNeg 2) - (so (gi x b0_3) (l5 : Int32).toNatClampNeg 2))) (lo := 0) (hi := l3) rfl (by decide) rfl ?_)
                refine r_if_eq (pc := 156) (tgt := 163) dX8_pairs_156 (by decide) (fun q => ?_) (fun q => ?_)
                · have q := (b2i_z _).mp q
                  have K0 := K0.1 q
                  exact r_le (L' := [some (.ref b0), some (.int l1), some (.int l2), some (.int l3), some (.int l4), some (.int l5), some (.int l6), some (.int 1), none]) ⟨rfl, ⟨rfl, ⟨rfl, ⟨rfl, ⟨rfl, ⟨rfl, ⟨rfl, ⟨rfl, trivial⟩⟩⟩⟩⟩⟩⟩⟩ K0
                · have q := b2i_nz q
                  have K0 := K0.2 q
                  refine r_iconst (pc := 159) (v := 1) dX8_pairs_159 (by decide) ?_
                  refine r_goto (pc := 160) (tgt := 164) dX8_pairs_160 (by decide) ?_
                  refine r_istore (pc := 164) dX8_pairs_164 (by decide) ?_
                  refine r_iload (pc := 166) (L := [some (.ref b0), some (.int l1), some (.int l2), some (.int l3), some (.int l4), some (.int l5), some (.int l6), some (.int 1), some (.int 1)]) dX8_pairs_166 rfl ?_
                  refine r_iload (pc := 168) dX8_pairs_168 rfl ?_
                  refine r_if_eq (pc := 170) (tgt := 198) dX8_pairs_170 (by decide) (fun q => by first | exact absurd q (by decide) | exact absurd (by decide) q) (fun _ => ?_)
                  refine r_iload (pc := 173) dX8_pairs_173 rfl ?_
                  refine r_if_eq (pc := 175) (tgt := 198) dX8_pairs_175 (by decide) (fun q => by first | exact absurd q (by decide) | exact absurd (by decide) q) (fun _ => ?_)
                  refine r_aload_n (pc := 178) dX8_pairs_178 rfl ?_
                  refine r_iload (pc := 179) dX8_pairs_179 rfl ?_
                  refine s_VI (pc := 181) mX8_basisOf (ci := 8) (a := b0) (As := [.int l5]) dX8_pairs_181 lk_X8_71 in_X8_basisOf mo_X8_basisOf ⟨by decide, rfl⟩ ⟨by decide, by decide⟩ (Nat.le_of_ble_eq_true rfl) k_b0 (sr_X8_basisOf k_b0 g_b0_3 k_b0_3 p_3 ?_)
                  refine r_aload_n (pc := 184) dX8_pairs_184 rfl ?_
                  refine r_iload (pc := 185) dX8_pairs_185 rfl ?_
                  refine s_VI (pc := 187) mX8_basisOf (ci := 8) (a := b0) (As := [.int l6]) dX8_pairs_187 lk_X8_71 in_X8_basisOf mo_X8_basisOf ⟨by decide, rfl⟩ ⟨by decide, by decide⟩ (Nat.le_of_ble_eq_true rfl) k_b0 (sr_X8_basisOf k_b0 g_b0_3 k_b0_3 p_5 ?_)
                  refine r_iand (pc := 190) dX8_pairs_190 ?_
                  refine r_if_eq (pc := 191) (tgt := 198) dX8_pairs_191 (by decide) (fun q => ?_) (fun q => ?_)
                  · have K0 := K0.1 q
                    refine r_iconst (pc := 198) (v := 0) dX8_pairs_198 (by decide) ?_
                    refine r_iadd (pc := 199) dX8_pairs_199 ?_
                    refine r_istore (pc := 200) dX8_pairs_200 (by decide) ?_
                    refine r_iinc (pc := 202) (L := [some (.ref b0), some (.int l1), some (.int l2), some (.int l3), some (.int (l4 + 0)), some (.int l5), some (.int l6), some (.int 1), some (.int 1)]) (v := l6 + 1) dX8_pairs_202 rfl rfl (by decide) ?_
                    refine r_goto (pc := 205) (L := [some (.ref b0), some (.int l1), some (.int l2), some (.int l3), some (.int (l4 + 0)), some (.int l5), some (.int (l6 + 1)), some (.int 1), some (.int 1)]) (tgt := 51) dX8_pairs_205 (by decide) ?_
                    exact r_le (L' := [some (.ref b0), some (.int l1), some (.int l2), some (.int l3), some (.int (l4 + 0)), some (.int l5), some (.int (l6 + 1)), none, none]) ⟨rfl, ⟨rfl, ⟨rfl, ⟨rfl, ⟨rfl, ⟨rfl, ⟨rfl, trivial⟩⟩⟩⟩⟩⟩⟩ K0
                  · have K0 := K0.2 q
                    refine r_iconst (pc := 194) (v := 1) dX8_pairs_194 (by decide) ?_
                    refine r_goto (pc := 195) (tgt := 199) dX8_pairs_195 (by decide) ?_
                    refine r_iadd (pc := 199) dX8_pairs_199 ?_
                    refine r_istore (pc := 200) dX8_pairs_200 (by decide) ?_
                    refine r_iinc (pc := 202) (L := [some (.ref b0), some (.int l1), some (.int l2), some (.int l3), some (.int (l4 + 1)), some (.int l5), some (.int l6), some (.int 1), some (.int 1)]) (v := l6 + 1) dX8_pairs_202 rfl rfl (by decide) ?_
                    refine r_goto (pc := 205) (L := [some (.ref b0), some (.int l1), some (.int l2), some (.int l3), some (.int (l4 + 1)), some (.int l5), some (.int (l6 + 1)), some (.int 1), some (.int 1)]) (tgt := 51) dX8_pairs_205 (by decide) ?_
                    exact r_le (L' := [some (.ref b0), some (.int l1), some (.int l2), some (.int l3), some (.int (l4 + 1)), some (.int l5), some (.int (l6 + 1)), none, none]) ⟨rfl, ⟨rfl, ⟨rfl, ⟨rfl, ⟨rfl, ⟨rfl, ⟨rfl, trivial⟩⟩⟩⟩⟩⟩⟩ K0
set_option maxHeartbeats 2000000 in
theorem v_X8_pairs_110 {K : Sh} {x : Cn} {Q : Int32 → Cn → Prop} {b0 : Nat} {l1 : Int32} {l2 : Int32} {l3 : Int32} {l4 : Int32} {l5 : Int32} {l6 : Int32} {b0_3 : Nat} {n_b0_3 : Nat} (k_b0 : kk K b0 = some (8, 0)) (g_b0_3 : gr x b0 3 = some b0_3) (k_b0_3 : kk K b0_3 = some (20, n_b0_3)) (K0 : (l24 l5 n_b0_3) ∧ ((¬ (so (gi x b0_3) (l5 : Int32).toNatClampNeg 3) = 0 → (GI mX8_pairs 163 [some (.ref b0), some (.int l1), some (.int l2), some (.int l3), some (.int l4), some (.int l5), some (.int l6), some (.int 0), none] [] K x Q)) ∧ ((so (gi x b0_3) (l5 : Int32).toNatClampNeg 3) = 0 → ((l24 l6 n_b0_3) ∧ ((¬ (so (gi x b0_3) (l6 : Int32).toNatClampNeg 3) = 1 → (GI mX8_pairs 163 [some (.ref b0), some (.int l1), some (.int l2), some (.int l3), some (.int l4), some (.int l5), some (.int l6), some (.int 0), none] [] K x Q)) ∧ ((so (gi x b0_3) (l6 : Int32).toNatClampNeg 3) = 1 → ((¬ (0 ≤ ((so (gi x b0_3) (l6 : Int32).toNatClampNeg 2) - (so (gi x b0_3) (l5 : Int32).toNatClampNeg 2)) ∧ ((so (gi x b0_3) (l6 : Int32).toNatClampNeg 2) - (so (gi x b0_3) (l5 : Int32).toNatClampNeg 2)) ≤ l3) → (GI mX8_pairs 163 [some (.ref b0), some (.int l1), some (.int l2), some (.int l3), some (.int l4), some (.int l5), some (.int l6), some (.int 0), none] [] K x Q)) ∧ ((0 ≤ ((so (gi x b0_3) (l6 : Int32).toNatClampNeg 2) - (so (gi x b0_3) (l5 : Int32).toNatClampNeg 2)) ∧ ((so (gi x b0_3) (l6 : Int32).toNatClampNeg 2) - (so (gi x b0_3) (l5 : Int32).toNatClampNeg 2)) ≤ l3) → (GI mX8_pairs 51 [some (.ref b0), some (.int l1), some (.int l2), some (.int l3), some (.int (l4 + 0)), some (.int l5), some (.int (l6 + 1)), none, none] [] K x Q))))))))) : GI mX8_pairs 110 [some (.ref b0), some (.int l1), some (.int l2), some (.int l3), some (.int l4), some (.int l5), some (.int l6), none, none] [] K x Q := by
  show mGM mX8_pairs 110 [some (.ref b0), some (.int l1), some (.int l2), some (.int l3), some (.int l4), some (.int l5), some (.int l6), none, none] [] (hp K x) (PI K Q)
  refine r_iconst (pc := 110) (v := 0) dX8_pairs_110 (by decide) ?_
  refine r_istore (pc := 111) dX8_pairs_111 (by decide) ?_
  refine r_aload_n (pc := 113) (L := [some (.ref b0), some (.int l1), some (.int l2), some (.int l3), some (.int l4), some (.int l5), some (.int l6), some (.int 0), none]) dX8_pairs_113 rfl ?_
  refine r_iload (pc := 114) dX8_pairs_114 rfl ?_
  refine r_iconst (pc := 116) (v := 3) dX8_pairs_116 (by decide) ?_
  obtain ⟨p_1, K0⟩ := K0
  refine s_VI (pc := 117) mX8_one (ci := 8) (a := b0) (As := [.int l5, .int 3]) dX8_pairs_117 lk_X8_67 in_X8_one mo_X8_one ⟨by decide, rfl⟩ ⟨by decide, by decide⟩ (Nat.le_of_ble_eq_true rfl) k_b0 (sr_X8_one k_b0 g_b0_3 k_b0_3 p_1 ⟨by decide, by decide⟩ ?_)
  refine r_if_ne (pc := 120) (tgt := 163) dX8_pairs_120 (by decide) (fun q => ?_) (fun q => ?_)
  · have K0 := K0.1 q
    exact r_le (L' := [some (.ref b0), some (.int l1), some (.int l2), some (.int l3), some (.int l4), some (.int l5), some (.int l6), some (.int 0), none]) ⟨rfl, ⟨rfl, ⟨rfl, ⟨rfl, ⟨rfl, ⟨rfl, ⟨rfl, ⟨rfl, trivial⟩⟩⟩⟩⟩⟩⟩⟩ K0
  · have K0 := K0.2 q
    refine r_aload_n (pc := 123) dX8_pairs_123 rfl ?_
    refine r_iload (pc := 124) dX8_pairs_124 rfl ?_
    refine r_iconst (pc := 126) (v := 3) dX8_pairs_126 (by decide) ?_
    obtain ⟨p_3, K0⟩ := K0
    refine s_VI (pc := 127) mX8_one (ci := 8) (a := b0) (As := [.int l6, .int 3]) dX8_pairs_127 lk_X8_67 in_X8_one mo_X8_one ⟨by decide, rfl⟩ ⟨by decide, by decide⟩ (Nat.le_of_ble_eq_true rfl) k_b0 (sr_X8_one k_b0 g_b0_3 k_b0_3 p_3 ⟨by decide, by decide⟩ ?_)
    refine r_iconst (pc := 130) (v := 1) dX8_pairs_130 (by decide) ?_
    refine r_icmp_ne (pc := 131) (tgt := 163) dX8_pairs_131 (by decide) (fun q => ?_) (fun q => ?_)
    · have K0 := K0.1 q
      exact r_le (L' := [some (.ref b0), some (.int l1), some (.int l2), some (.int l3), some (.int l4), some (.int l5), some (.int l6), some (.int 0), none]) ⟨rfl, ⟨rfl, ⟨rfl, ⟨rfl, ⟨rfl, ⟨rfl, ⟨rfl, ⟨rfl, trivial⟩⟩⟩⟩⟩⟩⟩⟩ K0
    · have K0 := K0.2 q
      refine r_aload_n (pc := 134) dX8_pairs_134 rfl ?_
      refine r_iload (pc := 135) dX8_pairs_135 rfl ?_
      refine r_iconst (pc := 137) (v := 2) dX8_pairs_137 (by decide) ?_
      refine s_VI (pc := 138) mX8_one (ci := 8) (a := b0) (As := [.int l6, .int 2]) dX8_pairs_138 lk_X8_67 in_X8_one mo_X8_one ⟨by decide, rfl⟩ ⟨by decide, by decide⟩ (Nat.le_of_ble_eq_true rfl) k_b0 (sr_X8_one k_b0 g_b0_3 k_b0_3 p_3 ⟨by decide, by decide⟩ ?_)
      refine r_aload_n (pc := 141) dX8_pairs_141 rfl ?_
      refine r_iload (pc := 142) dX8_pairs_142 rfl ?_
      refine r_iconst (pc := 144) (v := 2) dX8_pairs_144 (by decide) ?_
      refine s_VI (pc := 145) mX8_one (ci := 8) (a := b0) (As := [.int l5, .int 2]) dX8_pairs_145 lk_X8_67 in_X8_one mo_X8_one ⟨by decide, rfl⟩ ⟨by decide, by decide⟩ (Nat.le_of_ble_eq_true rfl) k_b0 (sr_X8_one k_b0 g_b0_3 k_b0_3 p_1 ⟨by decide, by decide⟩ ?_)
      refine r_isub (pc := 148) dX8_pairs_148 ?_
      refine r_i2l (pc := 149) dX8_pairs_149 ?_
      refine r_lconst (pc := 150) (v := 0) dX8_pairs_150 (by decide) ?_
      refine r_iload_n (pc := 151) dX8_pairs_151 rfl ?_
      refine r_i2l (pc := 152) dX8_pairs_152 ?_
      refine s_SI (pc := 153) mX8_in (As := [.long ((((so (gi x b0_3) (l6 : Int32).toNatClampNeg 2) - (so (gi x b0_3) (l5 : Int32).toNatClampNeg 2)) : Int32).toInt64), .long 0, .long ((l3 : Int32).toInt64)]) dX8_pairs_153 lk_X8_45 st_X8_in mo_X8_in ⟨by decide, by decide⟩ (Nat.le_of_ble_eq_true rfl) (sq_X8_in (v := ((so (gi x b0_3) (l6 : Int32).toNatClampNeg 2) - (so (gi x b0_3) (l5 : Int32).toNatClampNeg 2))) (lo := 0) (hi := l3) rfl (by decide) rfl ?_)
      refine r_if_eq (pc := 156) (tgt := 163) dX8_pairs_156 (by decide) (fun q => ?_) (fun q => ?_)
      · have q := (b2i_z _).mp q
        have K0 := K0.1 q
        exact r_le (L' := [some (.ref b0), some (.int l1), some (.int l2), some (.int l3), some (.int l4), some (.int l5), some (.int l6), some (.int 0), none]) ⟨rfl, ⟨rfl, ⟨rfl, ⟨rfl, ⟨rfl, ⟨rfl, ⟨rfl, ⟨rfl, trivial⟩⟩⟩⟩⟩⟩⟩⟩ K0
      · have q := b2i_nz q
        have K0 := K0.2 q
        refine r_iconst (pc := 159) (v := 1) dX8_pairs_159 (by decide) ?_
        refine r_goto (pc := 160) (tgt := 164) dX8_pairs_160 (by decide) ?_
        refine r_istore (pc := 164) dX8_pairs_164 (by decide) ?_
        refine r_iload (pc := 166) (L := [some (.ref b0), some (.int l1), some (.int l2), some (.int l3), some (.int l4), some (.int l5), some (.int l6), some (.int 0), some (.int 1)]) dX8_pairs_166 rfl ?_
        refine r_iload (pc := 168) dX8_pairs_168 rfl ?_
        refine r_if_eq (pc := 170) (tgt := 198) dX8_pairs_170 (by decide) (fun _ => ?_) (fun q => by first | exact absurd q (by decide) | exact absurd (by decide) q)
        refine r_iconst (pc := 198) (v := 0) dX8_pairs_198 (by decide) ?_
        refine r_iadd (pc := 199) dX8_pairs_199 ?_
        refine r_istore (pc := 200) dX8_pairs_200 (by decide) ?_
        refine r_iinc (pc := 202) (L := [some (.ref b0), some (.int l1), some (.int l2), some (.int l3), some (.int (l4 + 0)), some (.int l5), some (.int l6), some (.int 0), some (.int 1)]) (v := l6 + 1) dX8_pairs_202 rfl rfl (by decide) ?_
        refine r_goto (pc := 205) (L := [some (.ref b0), some (.int l1), some (.int l2), some (.int l3), some (.int (l4 + 0)), some (.int l5), some (.int (l6 + 1)), some (.int 0), some (.int 1)]) (tgt := 51) dX8_pairs_205 (by decide) ?_
        exact r_le (L' := [some (.ref b0), some (.int l1), some (.int l2), some (.int l3), some (.int (l4 + 0)), some (.int l5), some (.int (l6 + 1)), none, none]) ⟨rfl, ⟨rfl, ⟨rfl, ⟨rfl, ⟨rfl, ⟨rfl, ⟨rfl, trivial⟩⟩⟩⟩⟩⟩⟩ K0
set_option maxHeartbeats 2000000 in
theorem v_X8_pairs_163 {K : Sh} {x : Cn} {Q : Int32 → Cn → Prop} {b0 : Nat} {l1 : Int32} {l2 : Int32} {l3 : Int32} {l4 : Int32} {l5 : Int32} {l6 : Int32} {l7 : Int32}   (K0 : (l7 = 0 → (GI mX8_pairs 51 [some (.ref b0), some (.int l1), some (.int l2), some (.int l3), some (.int (l4 + 0)), some (.int l5), some (.int (l6 + 1)), none, none] [] K x Q)) ∧ (¬ l7 = 0 → (GI mX8_pairs 51 [some (.ref b0), some (.int l1), some (.int l2), some (.int l3), some (.int (l4 + 0)), some (.int l5), some (.int (l6 + 1)), none, none] [] K x Q))) : GI mX8_pairs 163 [some (.ref b0), some (.int l1), some (.int l2), some (.int l3), some (.int l4), some (.int l5), some (.int l6), some (.int l7), none] [] K x Q := by
  show mGM mX8_pairs 163 [some (.ref b0), some (.int l1), some (.int l2), some (.int l3), some (.int l4), some (.int l5), some (.int l6), some (.int l7), none] [] (hp K x) (PI K Q)
  refine r_iconst (pc := 163) (v := 0) dX8_pairs_163 (by decide) ?_
  refine r_istore (pc := 164) dX8_pairs_164 (by decide) ?_
  refine r_iload (pc := 166) (L := [some (.ref b0), some (.int l1), some (.int l2), some (.int l3), some (.int l4), some (.int l5), some (.int l6), some (.int l7), some (.int 0)]) dX8_pairs_166 rfl ?_
  refine r_iload (pc := 168) dX8_pairs_168 rfl ?_
  refine r_if_eq (pc := 170) (tgt := 198) dX8_pairs_170 (by decide) (fun q => ?_) (fun q => ?_)
  · have K0 := K0.1 q
    refine r_iconst (pc := 198) (v := 0) dX8_pairs_198 (by decide) ?_
    refine r_iadd (pc := 199) dX8_pairs_199 ?_
    refine r_istore (pc := 200) dX8_pairs_200 (by decide) ?_
    refine r_iinc (pc := 202) (L := [some (.ref b0), some (.int l1), some (.int l2), some (.int l3), some (.int (l4 + 0)), some (.int l5), some (.int l6), some (.int l7), some (.int 0)]) (v := l6 + 1) dX8_pairs_202 rfl rfl (by decide) ?_
    refine r_goto (pc := 205) (L := [some (.ref b0), some (.int l1), some (.int l2), some (.int l3), some (.int (l4 + 0)), some (.int l5), some (.int (l6 + 1)), some (.int l7), some (.int 0)]) (tgt := 51) dX8_pairs_205 (by decide) ?_
    exact r_le (L' := [some (.ref b0), some (.int l1), some (.int l2), some (.int l3), some (.int (l4 + 0)), some (.int l5), some (.int (l6 + 1)), none, none]) ⟨rfl, ⟨rfl, ⟨rfl, ⟨rfl, ⟨rfl, ⟨rfl, ⟨rfl, trivial⟩⟩⟩⟩⟩⟩⟩ K0
  · have K0 := K0.2 q
    refine r_iload (pc := 173) dX8_pairs_173 rfl ?_
    refine r_if_eq (pc := 175) (tgt := 198) dX8_pairs_175 (by decide) (fun _ => ?_) (fun q => by first | exact absurd q (by decide) | exact absurd (by decide) q)
    refine r_iconst (pc := 198) (v := 0) dX8_pairs_198 (by decide) ?_
    refine r_iadd (pc := 199) dX8_pairs_199 ?_
    refine r_istore (pc := 200) dX8_pairs_200 (by decide) ?_
    refine r_iinc (pc := 202) (L := [some (.ref b0), some (.int l1), some (.int l2), some (.int l3), some (.int (l4 + 0)), some (.int l5), some (.int l6), some (.int l7), some (.int 0)]) (v := l6 + 1) dX8_pairs_202 rfl rfl (by decide) ?_
    refine r_goto (pc := 205) (L := [some (.ref b0), some (.int l1), some (.int l2), some (.int l3), some (.int (l4 + 0)), some (.int l5), some (.int (l6 + 1)), some (.int l7), some (.int 0)]) (tgt := 51) dX8_pairs_205 (by decide) ?_
    exact r_le (L' := [some (.ref b0), some (.int l1), some (.int l2), some (.int l3), some (.int (l4 + 0)), some (.int l5), some (.int (l6 + 1)), none, none]) ⟨rfl, ⟨rfl, ⟨rfl, ⟨rfl, ⟨rfl, ⟨rfl, ⟨rfl, trivial⟩⟩⟩⟩⟩⟩⟩ K0
theorem eq_pairs (a b c : Int32) : Both mX7_pairs mX8_pairs [.int a, .int b, .int c] := by
  intro x R
  obtain ⟨W, C, S, A, N, E, ⟨hc, -⟩, -⟩ := R.sea
  have hn := E.nums
  have ht := Rel.t2 E
  have hS : S ≤ 24 := hn.2.2.2.2.2.2.1
  have hC : C ≤ 8 := hn.2.2.2.2.2.1
  have iC := inN' (v := a) (n := C) (by omega)
  have rf : mSI mX8_pairs [.ref 717, .int a, .int b, .int c] KW x (fun r' z => (if (0 ≤ a ∧ a < nI C) ∧ (0 < nI W ∧ 0 ≤ b ∧ b < 7) ∧ (0 ≤ c ∧ c ≤ 23) then accT (stP (gi x 718) S a b c) S 0 else -2) = r' ∧ Rel z) := by
    refine v_X8_pairs_0 km R.2.1.1 km1 ⟨v0 (k := 1) (by decide) rfl rfl, ?_⟩
    rw [ht.2.1, iC, ht.1, d7]
    refine ⟨fun z => ⟨if_neg (fun w => z w.1), R⟩, fun z => ⟨v0 (k := 0) (by decide) rfl rfl, fun z2 => ⟨if_neg (fun w => z2 w.2.1), R⟩, fun z2 => ⟨fun z3 => ?_, fun z3 => ⟨if_neg (fun w => z3 w.2.2), R⟩⟩⟩⟩
    rw [if_pos ⟨z, z2, z3⟩]
    refine lp_acc (stP (gi x 718) S a b c) (fun s n => GI mX8_pairs 37 [some (.ref 717), some (.int a), some (.int b), some (.int c), some (.int n), some (.int (nI s)), none, none, none] [] KW x _) S 0 ?_ (fun s n hs n1 => ?_)
    · exact v_X8_pairs_37 km R.2.1.1 km1 ⟨v0 (k := 2) (by decide) rfl rfl, fun _ => ⟨rfl, R⟩, fun z => absurd (by rw [ht.2.2.1]; exact Int32.le_refl _) z⟩
    · refine v_X8_pairs_37 km R.2.1.1 km1 ⟨v0 (k := 2) (by decide) rfl rfl, fun z => absurd (by rw [ht.2.2.1] at z; exact z) (nI_ge hs (by omega)), fun _ => ?_⟩
      refine lp_acc (inc (fun t => ppo (gi x 718) a b s ∧ pcr (gi x 718) c s t)) (fun t n => GI mX8_pairs 51 [some (.ref 717), some (.int a), some (.int b), some (.int c), some (.int n), some (.int (nI s)), some (.int (nI t)), none, none] [] KW x _) S n ?_ (fun t n ht2 m1 => ?_)
      · refine v_X8_pairs_51 km R.2.1.1 km1 R.2.1.2.2.1 km1 ⟨v0 (k := 2) (by decide) rfl rfl, fun _ => ?_, fun z => absurd (by rw [ht.2.2.1]; exact Int32.le_refl _) z⟩
        rw [nI_1]
        refine n1 _ ?_
        unfold stP addS
        by_cases h : ppo (gi x 718) a b s
        · rw [if_pos h, inc_cg (d := pcr (gi x 718) c s) n (fun t => ⟨fun z => z.2, fun z => ⟨h, z⟩⟩)]
          exact (inc_off n S).symm
        · rw [if_neg h]
          exact (inc_no n (fun t z => h z.1) S).symm
      · have l1 : l24 (nI s) 518 := l24_nI (by omega) rfl
        have l2 : l24 (nI t) 518 := l24_nI (by omega) rfl
        have m2 : ¬ (ppo (gi x 718) a b s ∧ pcr (gi x 718) c s t) → GI mX8_pairs 51 [some (.ref 717), some (.int a), some (.int b), some (.int c), some (.int (n + 0)), some (.int (nI s)), some (.int (nI t + 1)), none, none] [] KW x (fun r' z => accT (stP (gi x 718) S a b c) S 0 = r' ∧ Rel z) := fun z => by rw [Int32.add_zero, nI_1]; exact m1 _ (if_neg z)
        have m163 : ∀ v : Int32, ¬ (ppo (gi x 718) a b s ∧ pcr (gi x 718) c s t) → GI mX8_pairs 163 [some (.ref 717), some (.int a), some (.int b), some (.int c), some (.int n), some (.int (nI s)), some (.int (nI t)), some (.int v), none] [] KW x (fun r' z => accT (stP (gi x 718) S a b c) S 0 = r' ∧ Rel z) := fun v z => v_X8_pairs_163 ⟨fun _ => m2 z, fun _ => m2 z⟩
        have m110 : ¬ (ppo (gi x 718) a b s ∧ pcr (gi x 718) c s t) → GI mX8_pairs 110 [some (.ref 717), some (.int a), some (.int b), some (.int c), some (.int n), some (.int (nI s)), some (.int (nI t)), none, none] [] KW x (fun r' z => accT (stP (gi x 718) S a b c) S 0 = r' ∧ Rel z) := fun z => v_X8_pairs_110 km R.2.1.2.2.1 km1 ⟨l1, fun _ => m163 _ z, fun _ => ⟨l2, fun _ => m163 _ z, fun _ => ⟨fun _ => m163 _ z, fun _ => m2 z⟩⟩⟩
        refine v_X8_pairs_51 km R.2.1.1 km1 R.2.1.2.2.1 km1 ⟨v0 (k := 2) (by decide) rfl rfl, fun z => absurd (by rw [ht.2.2.1] at z; exact z) (nI_ge ht2 (by omega)), fun _ => ⟨l1, ?_⟩⟩
        rw [nI_clamp (show s < 2 ^ 31 by omega), nI_clamp (show t < 2 ^ 31 by omega)]
        refine ⟨fun z => m110 (fun w => z w.1.1), fun z1 => ⟨l2, fun z => m110 (fun w => z (w.2.1.trans w.1.1)), fun z2 => ⟨fun z => m110 (fun w => z w.1.2.1), fun z3 => ⟨fun z => m110 (fun w => z (w.2.2.1.trans w.1.2.1)), fun z4 => ⟨fun z => m163 _ (fun w => z w.1.2.2), fun z5 => ⟨fun z => m163 _ (fun w => z w.2.2.2.1), fun z6 => ⟨fun z => m163 _ (fun w => z w.2.2.2.2.1), fun z7 => ⟨fun z => m2 (fun w => w.2.2.2.2.2 (by rw [Int32.and_comm]; exact z)), fun z8 => ?_⟩⟩⟩⟩⟩⟩⟩⟩
        rw [nI_1]
        exact m1 _ (if_pos ⟨⟨z1, z3, z5⟩, z2.trans z1.symm, z4.trans z3.symm, z6, z7, fun z => z8 (by rw [Int32.and_comm]; exact z)⟩)
  refine v_X7_pairs_0 k0 R.1.2.2.1 (by decide) R.1.2.1 (ks0 E.1) ?_
  rw [hc, hn.1]
  refine ⟨fun z => by rwa [if_neg (fun w => z w.1)] at rf, fun z => ⟨fun z2 => by rwa [if_neg (fun w => z2 w.2.1)] at rf, fun z2 => ⟨fun z3 => ?_, fun z3 => by rwa [if_neg (fun w => z3 w.2.2)] at rf⟩⟩⟩
  rw [if_pos ⟨z, z2, z3⟩] at rf
  have hb : ¬ b = -1 := by
    intro e
    rw [e] at z2
    exact absurd z2.2.1 (by decide)
  refine lp_acc (stP (gi x 718) S a b c) (fun s n => GI mX7_pairs 35 [some (.ref 0), some (.int a), some (.int b), some (.int c), some (.int n), some (.int (nI s)), none] [] KW x _) S 0 ?_ (fun s n hs n1 => ?_)
  · exact v_X7_pairs_35 k0 R.1.2.1 (ks0 E.1) E.2.1.2.2.1 (ks3 E.1) ⟨fun _ => rf, fun z => absurd (by rw [hn.2.2.1]; exact Int32.le_refl _) z⟩
  · obtain ⟨p, e1, e2, e3, e4, -, e6⟩ := E.ser hs
    refine v_X7_pairs_35 k0 R.1.2.1 (ks0 E.1) E.2.1.2.2.1 (ks3 E.1) ⟨fun z => absurd (by rw [hn.2.2.1] at z; exact z) (nI_ge hs (by omega)), fun _ => ⟨vp_in_nI (by omega) (by decide), p, by rw [nI_clamp (by omega)]; exact e1, e2, ?_⟩⟩
    rw [e3.1 0 (by decide) (by decide), e3.1 1 (by decide) (by decide), e3.1 3 (by decide) (by decide), nI_1]
    refine ⟨fun z => n1 _ (if_neg (fun w => z ⟨w.1, Or.inr w.2.1⟩)), fun z4 => ⟨fun z => n1 _ (if_neg (fun w => z w.2.2)), fun z5 => ?_⟩⟩
    exact sp_X7_departuresBehind R.1 E hs e2 e3 (n1 _ (if_pos ⟨z4.1, z4.2.resolve_left hb, z5⟩))
end

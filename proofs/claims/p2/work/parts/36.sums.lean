def addS (c : Nat → Prop) [∀ s, Decidable (c s)] (f : Nat → Int32) : Nat → Int32 → Int32 := fun s a => if c s then a + f s else a
/-- basis of a carrier's series on a day (-1: all) -/
def bOf (T : TT) (S : Nat) (c d : Int32) : Int32 := accT (addS (fun s => so T s 0 = c ∧ (d = -1 ∨ so T s 1 = d)) (fun s => nI (cpt (bas T s)))) S 0
def gOf (T : TT) (S : Nat) (c : Int32) : Int32 := accT (addS (fun s => so T s 0 = c) (fun s => nI (cpt (so T s 8 ||| so T s 10)))) S 0
theorem acc_bd {c : Nat → Prop} [∀ s, Decidable (c s)] {f : Nat → Int32} (hf : ∀ s, ∃ k, k ≤ 32 ∧ f s = nI k) : ∀ n, ∃ k, k ≤ 32 * n ∧ accT (addS c f) n 0 = nI k := by
  intro n
  induction n with
  | zero => exact ⟨0, by omega, rfl⟩
  | succ n ih =>
    obtain ⟨k, hk, e⟩ := ih
    obtain ⟨j, hj, ej⟩ := hf n
    show ∃ k, k ≤ 32 * (n + 1) ∧ (if c n then accT (addS c f) n 0 + f n else accT (addS c f) n 0) = nI k
    by_cases z : c n
    · exact ⟨k + j, by omega, by rw [if_pos z, e, ej, nI_add]⟩
    · exact ⟨k, by omega, by rw [if_neg z, e]⟩
theorem bOf_bd (T : TT) (S : Nat) (c d : Int32) : ∃ k, k ≤ 32 * S ∧ bOf T S c d = nI k := acc_bd (fun s => ⟨_, cpt_le _, rfl⟩) S
theorem gOf_bd (T : TT) (S : Nat) (c : Int32) : ∃ k, k ≤ 32 * S ∧ gOf T S c = nI k := acc_bd (fun s => ⟨_, cpt_le _, rfl⟩) S
set_option maxHeartbeats 2000000 in
theorem v_X4_basisOf_0 {K : Sh} {x : Cn} {Q : Int32 → Cn → Prop} {b0 : Nat} {l1 : Int32} {l2 : Int32}   (K0 : GI mX4_basisOf 5 [some (.ref b0), some (.int l1), some (.int l2), some (.int 0), some (.int 0)] [] K x Q) : mSI mX4_basisOf [.ref b0, .int l1, .int l2] K x Q := by
  refine s_I (by decide) (by simp [Value.category]) (Nat.le_of_ble_eq_true rfl) ?_
  show mGM mX4_basisOf 0 [some (.ref b0), some (.int l1), some (.int l2), none, none] [] (hp K x) (PI K Q)
  refine r_iconst (pc := 0) (v := 0) dX4_basisOf_0 (by decide) ?_
  refine r_istore_n (pc := 1) dX4_basisOf_1 (by decide) ?_
  refine r_iconst (pc := 2) (L := [some (.ref b0), some (.int l1), some (.int l2), some (.int 0), none]) (v := 0) dX4_basisOf_2 (by decide) ?_
  refine r_istore (pc := 3) dX4_basisOf_3 (by decide) ?_
  exact r_le (L' := [some (.ref b0), some (.int l1), some (.int l2), some (.int 0), some (.int 0)]) ⟨rfl, ⟨rfl, ⟨rfl, ⟨rfl, ⟨rfl, trivial⟩⟩⟩⟩⟩ K0
set_option maxHeartbeats 2000000 in
theorem v_X4_basisOf_5 {K : Sh} {x : Cn} {Q : Int32 → Cn → Prop} {b0 : Nat} {l1 : Int32} {l2 : Int32} {l3 : Int32} {l4 : Int32} {b0_7 : Nat} {n_b0_7 : Nat} (k_b0 : kk K b0 = some (4, 0)) (g_b0_7 : gr x b0 7 = some b0_7) (k_b0_7 : kk K b0_7 = some (23, n_b0_7)) (K0 : ((gi x b0 3) ≤ l4 → (Q l3 x)) ∧ (¬ (gi x b0 3) ≤ l4 → (vp_in l4 n_b0_7 ∧ (∃ c_3 : Nat, gr x b0_7 ((l4 : Int32).toNatClampNeg) = some c_3 ∧ (kk K c_3 = some (5, 0) ∧ ((¬ (gi x c_3 0 = l1 ∧ (l2 = -1 ∨ gi x c_3 1 = l2)) → (GI mX4_basisOf 5 [some (.ref b0), some (.int l1), some (.int l2), some (.int l3), some (.int (l4 + 1))] [] K x Q)) ∧ ((gi x c_3 0 = l1 ∧ (l2 = -1 ∨ gi x c_3 1 = l2)) → (GI mX4_basisOf 5 [some (.ref b0), some (.int l1), some (.int l2), some (.int (l3 + (nI (cpt (f_held x c_3))))), some (.int (l4 + 1))] [] K x Q)))))))) : GI mX4_basisOf 5 [some (.ref b0), some (.int l1), some (.int l2), some (.int l3), some (.int l4)] [] K x Q := by
  show mGM mX4_basisOf 5 [some (.ref b0), some (.int l1), some (.int l2), some (.int l3), some (.int l4)] [] (hp K x) (PI K Q)
  refine r_iload (pc := 5) dX4_basisOf_5 rfl ?_
  refine r_aload_n (pc := 7) dX4_basisOf_7 rfl ?_
  refine s_getI (pc := 8) dX4_basisOf_8 fl_X4_21 rfl k_b0 ?_
  refine r_icmp_ge (pc := 11) (tgt := 48) dX4_basisOf_11 (by decide) (fun q => ?_) (fun q => ?_)
  · have K0 := K0.1 q
    refine r_iload_n (pc := 48) dX4_basisOf_48 rfl ?_
    exact s_iret rfl dX4_basisOf_49 K0
  · have K0 := K0.2 q
    refine r_aload_n (pc := 14) dX4_basisOf_14 rfl ?_
    refine s_getR (pc := 15) dX4_basisOf_15 fl_X4_36 rfl k_b0 g_b0_7 ?_
    refine r_iload (pc := 18) dX4_basisOf_18 rfl ?_
    obtain ⟨i_2, K0⟩ := K0
    obtain ⟨c_3, g_4, K0⟩ := K0
    refine s_aald (pc := 20) dX4_basisOf_20 (by decide) rfl k_b0_7 i_2 g_4 ?_
    refine r_iload_n (pc := 21) dX4_basisOf_21 rfl ?_
    refine r_iload_n (pc := 22) dX4_basisOf_22 rfl ?_
    obtain ⟨e_5, K0⟩ := K0
    refine s_VI (pc := 23) mX5_isOf (ci := 5) (a := c_3) (As := [.int l1, .int l2]) dX4_basisOf_23 lk_X4_144 in_X5_isOf mo_X5_isOf ⟨by decide, rfl⟩ ⟨by decide, by decide⟩ (Nat.le_of_ble_eq_true rfl) e_5 (sp_X5_isOf e_5 ?_)
    refine r_if_eq (pc := 26) (tgt := 42) dX4_basisOf_26 (by decide) (fun q => ?_) (fun q => ?_)
    · have q := (b2i_z _).mp q
      have K0 := K0.1 q
      refine r_iinc (pc := 42) (v := l4 + 1) dX4_basisOf_42 rfl rfl (by decide) ?_
      refine r_goto (pc := 45) (L := [some (.ref b0), some (.int l1), some (.int l2), some (.int l3), some (.int (l4 + 1))]) (tgt := 5) dX4_basisOf_45 (by decide) ?_
      exact r_le (L' := [some (.ref b0), some (.int l1), some (.int l2), some (.int l3), some (.int (l4 + 1))]) ⟨rfl, ⟨rfl, ⟨rfl, ⟨rfl, ⟨rfl, trivial⟩⟩⟩⟩⟩ K0
    · have q := b2i_nz q
      have K0 := K0.2 q
      refine r_iload_n (pc := 29) dX4_basisOf_29 rfl ?_
      refine r_aload_n (pc := 30) dX4_basisOf_30 rfl ?_
      refine s_getR (pc := 31) dX4_basisOf_31 fl_X4_36 rfl k_b0 g_b0_7 ?_
      refine r_iload (pc := 34) dX4_basisOf_34 rfl ?_
      refine s_aald (pc := 36) dX4_basisOf_36 (by decide) rfl k_b0_7 i_2 g_4 ?_
      refine s_VI (pc := 37) mX5_basis (ci := 5) (a := c_3) (As := []) dX4_basisOf_37 lk_X4_147 in_X5_basis mo_X5_basis ⟨by decide, rfl⟩ ⟨by decide, by decide⟩ (Nat.le_of_ble_eq_true rfl) e_5 (sp_X5_basis e_5 ?_)
      refine r_iadd (pc := 40) dX4_basisOf_40 ?_
      refine r_istore_n (pc := 41) dX4_basisOf_41 (by decide) ?_
      refine r_iinc (pc := 42) (L := [some (.ref b0), some (.int l1), some (.int l2), some (.int (l3 + (nI (cpt (f_held x c_3))))), some (.int l4)]) (v := l4 + 1) dX4_basisOf_42 rfl rfl (by decide) ?_
      refine r_goto (pc := 45) (L := [some (.ref b0), some (.int l1), some (.int l2), some (.int (l3 + (nI (cpt (f_held x c_3))))), some (.int (l4 + 1))]) (tgt := 5) dX4_basisOf_45 (by decide) ?_
      exact r_le (L' := [some (.ref b0), some (.int l1), some (.int l2), some (.int (l3 + (nI (cpt (f_held x c_3))))), some (.int (l4 + 1))]) ⟨rfl, ⟨rfl, ⟨rfl, ⟨rfl, ⟨rfl, trivial⟩⟩⟩⟩⟩ K0
section
variable {x : Cn} {Q : Int32 → Cn → Prop}
theorem sp_X4_basisOf {q : Nat} {T : TT} {W C S A N : Nat} (E : SEA x q T W C S A N) {c d : Int32} (k : Q (bOf T S c d) x) : mSI mX4_basisOf [.ref q, .int c, .int d] KW x Q := by
  have hn := E.nums
  have hS : S ≤ 24 := hn.2.2.2.2.2.2.1
  refine v_X4_basisOf_0 (lp_acc (addS (fun s => so T s 0 = c ∧ (d = -1 ∨ so T s 1 = d)) (fun s => nI (cpt (bas T s)))) (fun s a => GI mX4_basisOf 5 [some (.ref q), some (.int c), some (.int d), some (.int a), some (.int (nI s))] [] KW x Q) S 0 ?_ (fun s a hs n1 => ?_))
  · exact v_X4_basisOf_5 (ks0 E.1) E.2.1.2.2.1 (ks3 E.1) ⟨fun _ => k, fun z => absurd (by rw [hn.2.2.1]; exact Int32.le_refl _) z⟩
  · obtain ⟨p, e1, e2, e3, e4, -, e6⟩ := E.ser hs
    refine v_X4_basisOf_5 (ks0 E.1) E.2.1.2.2.1 (ks3 E.1) ⟨fun z => absurd (by rw [hn.2.2.1] at z; exact z) (nI_ge hs (by omega)), fun _ => ⟨vp_in_nI (by omega) (by decide), p, by rw [nI_clamp (by omega)]; exact e1, e2, ?_⟩⟩
    rw [e3.1 0 (by decide) (by decide), e3.1 1 (by decide) (by decide), e4, nI_1]
    exact ⟨fun z => n1 _ (if_neg z), fun z => n1 _ (if_pos z)⟩
end
set_option maxHeartbeats 2000000 in
theorem v_X4_goodOf_0 {K : Sh} {x : Cn} {Q : Int32 → Cn → Prop} {b0 : Nat} {l1 : Int32}   (K0 : GI mX4_goodOf 4 [some (.ref b0), some (.int l1), some (.int 0), some (.int 0)] [] K x Q) : mSI mX4_goodOf [.ref b0, .int l1] K x Q := by
  refine s_I (by decide) (by simp [Value.category]) (Nat.le_of_ble_eq_true rfl) ?_
  show mGM mX4_goodOf 0 [some (.ref b0), some (.int l1), none, none] [] (hp K x) (PI K Q)
  refine r_iconst (pc := 0) (v := 0) dX4_goodOf_0 (by decide) ?_
  refine r_istore_n (pc := 1) dX4_goodOf_1 (by decide) ?_
  refine r_iconst (pc := 2) (L := [some (.ref b0), some (.int l1), some (.int 0), none]) (v := 0) dX4_goodOf_2 (by decide) ?_
  refine r_istore_n (pc := 3) dX4_goodOf_3 (by decide) ?_
  exact r_le (L' := [some (.ref b0), some (.int l1), some (.int 0), some (.int 0)]) ⟨rfl, ⟨rfl, ⟨rfl, ⟨rfl, trivial⟩⟩⟩⟩ K0
set_option maxHeartbeats 2000000 in
theorem v_X4_goodOf_4 {K : Sh} {x : Cn} {Q : Int32 → Cn → Prop} {b0 : Nat} {l1 : Int32} {l2 : Int32} {l3 : Int32} {b0_7 : Nat} {n_b0_7 : Nat} (k_b0 : kk K b0 = some (4, 0)) (g_b0_7 : gr x b0 7 = some b0_7) (k_b0_7 : kk K b0_7 = some (23, n_b0_7)) (K0 : ((gi x b0 3) ≤ l3 → (Q l2 x)) ∧ (¬ (gi x b0 3) ≤ l3 → (vp_in l3 n_b0_7 ∧ (∃ c_3 : Nat, gr x b0_7 ((l3 : Int32).toNatClampNeg) = some c_3 ∧ (kk K c_3 = some (5, 0) ∧ ((¬ (gi x c_3 0) = l1 → (GI mX4_goodOf 4 [some (.ref b0), some (.int l1), some (.int l2), some (.int (l3 + 1))] [] K x Q)) ∧ ((gi x c_3 0) = l1 → (GI mX4_goodOf 4 [some (.ref b0), some (.int l1), some (.int (l2 + (nI (cpt (gi x c_3 8 ||| gi x c_3 10))))), some (.int (l3 + 1))] [] K x Q)))))))) : GI mX4_goodOf 4 [some (.ref b0), some (.int l1), some (.int l2), some (.int l3)] [] K x Q := by
  show mGM mX4_goodOf 4 [some (.ref b0), some (.int l1), some (.int l2), some (.int l3)] [] (hp K x) (PI K Q)
  refine r_iload_n (pc := 4) dX4_goodOf_4 rfl ?_
  refine r_aload_n (pc := 5) dX4_goodOf_5 rfl ?_
  refine s_getI (pc := 6) dX4_goodOf_6 fl_X4_21 rfl k_b0 ?_
  refine r_icmp_ge (pc := 9) (tgt := 43) dX4_goodOf_9 (by decide) (fun q => ?_) (fun q => ?_)
  · have K0 := K0.1 q
    refine r_iload_n (pc := 43) dX4_goodOf_43 rfl ?_
    exact s_iret rfl dX4_goodOf_44 K0
  · have K0 := K0.2 q
    refine r_aload_n (pc := 12) dX4_goodOf_12 rfl ?_
    refine s_getR (pc := 13) dX4_goodOf_13 fl_X4_36 rfl k_b0 g_b0_7 ?_
    refine r_iload_n (pc := 16) dX4_goodOf_16 rfl ?_
    obtain ⟨i_2, K0⟩ := K0
    obtain ⟨c_3, g_4, K0⟩ := K0
    refine s_aald (pc := 17) dX4_goodOf_17 (by decide) rfl k_b0_7 i_2 g_4 ?_
    obtain ⟨e_5, K0⟩ := K0
    refine s_getI (pc := 18) dX4_goodOf_18 fl_X4_150 rfl e_5 ?_
    refine r_iload_n (pc := 21) dX4_goodOf_21 rfl ?_
    refine r_icmp_ne (pc := 22) (tgt := 37) dX4_goodOf_22 (by decide) (fun q => ?_) (fun q => ?_)
    · have K0 := K0.1 q
      refine r_iinc (pc := 37) (v := l3 + 1) dX4_goodOf_37 rfl rfl (by decide) ?_
      refine r_goto (pc := 40) (L := [some (.ref b0), some (.int l1), some (.int l2), some (.int (l3 + 1))]) (tgt := 4) dX4_goodOf_40 (by decide) ?_
      exact r_le (L' := [some (.ref b0), some (.int l1), some (.int l2), some (.int (l3 + 1))]) ⟨rfl, ⟨rfl, ⟨rfl, ⟨rfl, trivial⟩⟩⟩⟩ K0
    · have K0 := K0.2 q
      refine r_iload_n (pc := 25) dX4_goodOf_25 rfl ?_
      refine r_aload_n (pc := 26) dX4_goodOf_26 rfl ?_
      refine s_getR (pc := 27) dX4_goodOf_27 fl_X4_36 rfl k_b0 g_b0_7 ?_
      refine r_iload_n (pc := 30) dX4_goodOf_30 rfl ?_
      refine s_aald (pc := 31) dX4_goodOf_31 (by decide) rfl k_b0_7 i_2 g_4 ?_
      refine s_VI (pc := 32) mX5_good (ci := 5) (a := c_3) (As := []) dX4_goodOf_32 lk_X4_151 in_X5_good mo_X5_good ⟨by decide, rfl⟩ ⟨by decide, by decide⟩ (Nat.le_of_ble_eq_true rfl) e_5 (sp_X5_good e_5 ?_)
      refine r_iadd (pc := 35) dX4_goodOf_35 ?_
      refine r_istore_n (pc := 36) dX4_goodOf_36 (by decide) ?_
      refine r_iinc (pc := 37) (L := [some (.ref b0), some (.int l1), some (.int (l2 + (nI (cpt (gi x c_3 8 ||| gi x c_3 10))))), some (.int l3)]) (v := l3 + 1) dX4_goodOf_37 rfl rfl (by decide) ?_
      refine r_goto (pc := 40) (L := [some (.ref b0), some (.int l1), some (.int (l2 + (nI (cpt (gi x c_3 8 ||| gi x c_3 10))))), some (.int (l3 + 1))]) (tgt := 4) dX4_goodOf_40 (by decide) ?_
      exact r_le (L' := [some (.ref b0), some (.int l1), some (.int (l2 + (nI (cpt (gi x c_3 8 ||| gi x c_3 10))))), some (.int (l3 + 1))]) ⟨rfl, ⟨rfl, ⟨rfl, ⟨rfl, trivial⟩⟩⟩⟩ K0
section
variable {x : Cn} {Q : Int32 → Cn → Prop}
theorem sp_X4_goodOf {q : Nat} {T : TT} {W C S A N : Nat} (E : SEA x q T W C S A N) {c : Int32} (k : Q (gOf T S c) x) : mSI mX4_goodOf [.ref q, .int c] KW x Q := by
  have hn := E.nums
  have hS : S ≤ 24 := hn.2.2.2.2.2.2.1
  refine v_X4_goodOf_0 (lp_acc (addS (fun s => so T s 0 = c) (fun s => nI (cpt (so T s 8 ||| so T s 10)))) (fun s a => GI mX4_goodOf 4 [some (.ref q), some (.int c), some (.int a), some (.int (nI s))] [] KW x Q) S 0 ?_ (fun s a hs n1 => ?_))
  · exact v_X4_goodOf_4 (ks0 E.1) E.2.1.2.2.1 (ks3 E.1) ⟨fun _ => k, fun z => absurd (by rw [hn.2.2.1]; exact Int32.le_refl _) z⟩
  · obtain ⟨p, e1, e2, e3, e4, -, e6⟩ := E.ser hs
    refine v_X4_goodOf_4 (ks0 E.1) E.2.1.2.2.1 (ks3 E.1) ⟨fun z => absurd (by rw [hn.2.2.1] at z; exact z) (nI_ge hs (by omega)), fun _ => ⟨vp_in_nI (by omega) (by decide), p, by rw [nI_clamp (by omega)]; exact e1, e2, ?_⟩⟩
    rw [e3.1 0 (by decide) (by decide), e3.1 8 (by decide) (by decide), e3.1 10 (by decide) (by decide), nI_1]
    exact ⟨fun z => n1 _ (if_neg z), fun z => n1 _ (if_pos z)⟩
end
set_option maxHeartbeats 2000000 in
theorem v_X8_basisOn_0 {K : Sh} {x : Cn} {Q : Int32 → Cn → Prop} {b0 : Nat} {l1 : Int32} {l2 : Int32}   (K0 : GI mX8_basisOn 5 [some (.ref b0), some (.int l1), some (.int l2), some (.int 0), some (.int 0)] [] K x Q) : mSI mX8_basisOn [.ref b0, .int l1, .int l2] K x Q := by
  refine s_I (by decide) (by simp [Value.category]) (Nat.le_of_ble_eq_true rfl) ?_
  show mGM mX8_basisOn 0 [some (.ref b0), some (.int l1), some (.int l2), none, none] [] (hp K x) (PI K Q)
  refine r_iconst (pc := 0) (v := 0) dX8_basisOn_0 (by decide) ?_
  refine r_istore_n (pc := 1) dX8_basisOn_1 (by decide) ?_
  refine r_iconst (pc := 2) (L := [some (.ref b0), some (.int l1), some (.int l2), some (.int 0), none]) (v := 0) dX8_basisOn_2 (by decide) ?_
  refine r_istore (pc := 3) dX8_basisOn_3 (by decide) ?_
  exact r_le (L' := [some (.ref b0), some (.int l1), some (.int l2), some (.int 0), some (.int 0)]) ⟨rfl, ⟨rfl, ⟨rfl, ⟨rfl, ⟨rfl, trivial⟩⟩⟩⟩⟩ K0
set_option maxHeartbeats 2000000 in
theorem v_X8_basisOn_5 {K : Sh} {x : Cn} {Q : Int32 → Cn → Prop} {b0 : Nat} {l1 : Int32} {l2 : Int32} {l3 : Int32} {l4 : Int32} {b0_1 : Nat} {n_b0_1 : Nat} {b0_3 : Nat} {n_b0_3 : Nat} (k_b0 : kk K b0 = some (8, 0)) (g_b0_1 : gr x b0 1 = some b0_1) (k_b0_1 : kk K b0_1 = some (20, n_b0_1)) (g_b0_3 : gr x b0 3 = some b0_3) (k_b0_3 : kk K b0_3 = some (20, n_b0_3)) (K0 : vp_in 2 n_b0_1 ∧ (((gi x b0_1 2) ≤ l4 → (Q l3 x)) ∧ (¬ (gi x b0_1 2) ≤ l4 → ((l24 l4 n_b0_3) ∧ ((¬ (so (gi x b0_3) (l4 : Int32).toNatClampNeg 0) = l1 → (GI mX8_basisOn 5 [some (.ref b0), some (.int l1), some (.int l2), some (.int (l3 + 0)), some (.int (l4 + 1))] [] K x Q)) ∧ ((so (gi x b0_3) (l4 : Int32).toNatClampNeg 0) = l1 → ((¬ (so (gi x b0_3) (l4 : Int32).toNatClampNeg 1) = l2 → (GI mX8_basisOn 5 [some (.ref b0), some (.int l1), some (.int l2), some (.int (l3 + 0)), some (.int (l4 + 1))] [] K x Q)) ∧ ((so (gi x b0_3) (l4 : Int32).toNatClampNeg 1) = l2 → (GI mX8_basisOn 5 [some (.ref b0), some (.int l1), some (.int l2), some (.int (l3 + (nI (cpt (bas (gi x b0_3) (l4 : Int32).toNatClampNeg))))), some (.int (l4 + 1))] [] K x Q))))))))) : GI mX8_basisOn 5 [some (.ref b0), some (.int l1), some (.int l2), some (.int l3), some (.int l4)] [] K x Q := by
  show mGM mX8_basisOn 5 [some (.ref b0), some (.int l1), some (.int l2), some (.int l3), some (.int l4)] [] (hp K x) (PI K Q)
  refine r_iload (pc := 5) dX8_basisOn_5 rfl ?_
  refine r_aload_n (pc := 7) dX8_basisOn_7 rfl ?_
  refine s_getR (pc := 8) dX8_basisOn_8 fl_X8_9 rfl k_b0 g_b0_1 ?_
  refine r_iconst (pc := 11) (v := 2) dX8_basisOn_11 (by decide) ?_
  obtain ⟨i_1, K0⟩ := K0
  refine s_iald (pc := 12) dX8_basisOn_12 k_b0_1 i_1 ?_
  refine r_icmp_ge (pc := 13) (tgt := 60) dX8_basisOn_13 (by decide) (fun q => ?_) (fun q => ?_)
  · have K0 := K0.1 q
    refine r_iload_n (pc := 60) dX8_basisOn_60 rfl ?_
    exact s_iret rfl dX8_basisOn_61 K0
  · have K0 := K0.2 q
    refine r_iload_n (pc := 16) dX8_basisOn_16 rfl ?_
    refine r_aload_n (pc := 17) dX8_basisOn_17 rfl ?_
    refine r_iload (pc := 18) dX8_basisOn_18 rfl ?_
    refine r_iconst (pc := 20) (v := 0) dX8_basisOn_20 (by decide) ?_
    obtain ⟨p_3, K0⟩ := K0
    refine s_VI (pc := 21) mX8_one (ci := 8) (a := b0) (As := [.int l4, .int 0]) dX8_basisOn_21 lk_X8_67 in_X8_one mo_X8_one ⟨by decide, rfl⟩ ⟨by decide, by decide⟩ (Nat.le_of_ble_eq_true rfl) k_b0 (sr_X8_one k_b0 g_b0_3 k_b0_3 p_3 ⟨by decide, by decide⟩ ?_)
    refine r_iload_n (pc := 24) dX8_basisOn_24 rfl ?_
    refine r_icmp_ne (pc := 25) (tgt := 51) dX8_basisOn_25 (by decide) (fun q => ?_) (fun q => ?_)
    · have K0 := K0.1 q
      refine r_iconst (pc := 51) (v := 0) dX8_basisOn_51 (by decide) ?_
      refine r_iadd (pc := 52) dX8_basisOn_52 ?_
      refine r_istore_n (pc := 53) dX8_basisOn_53 (by decide) ?_
      refine r_iinc (pc := 54) (L := [some (.ref b0), some (.int l1), some (.int l2), some (.int (l3 + 0)), some (.int l4)]) (v := l4 + 1) dX8_basisOn_54 rfl rfl (by decide) ?_
      refine r_goto (pc := 57) (L := [some (.ref b0), some (.int l1), some (.int l2), some (.int (l3 + 0)), some (.int (l4 + 1))]) (tgt := 5) dX8_basisOn_57 (by decide) ?_
      exact r_le (L' := [some (.ref b0), some (.int l1), some (.int l2), some (.int (l3 + 0)), some (.int (l4 + 1))]) ⟨rfl, ⟨rfl, ⟨rfl, ⟨rfl, ⟨rfl, trivial⟩⟩⟩⟩⟩ K0
    · have K0 := K0.2 q
      refine r_aload_n (pc := 28) dX8_basisOn_28 rfl ?_
      refine r_iload (pc := 29) dX8_basisOn_29 rfl ?_
      refine r_iconst (pc := 31) (v := 1) dX8_basisOn_31 (by decide) ?_
      refine s_VI (pc := 32) mX8_one (ci := 8) (a := b0) (As := [.int l4, .int 1]) dX8_basisOn_32 lk_X8_67 in_X8_one mo_X8_one ⟨by decide, rfl⟩ ⟨by decide, by decide⟩ (Nat.le_of_ble_eq_true rfl) k_b0 (sr_X8_one k_b0 g_b0_3 k_b0_3 p_3 ⟨by decide, by decide⟩ ?_)
      refine r_iload_n (pc := 35) dX8_basisOn_35 rfl ?_
      refine r_icmp_ne (pc := 36) (tgt := 51) dX8_basisOn_36 (by decide) (fun q => ?_) (fun q => ?_)
      · have K0 := K0.1 q
        refine r_iconst (pc := 51) (v := 0) dX8_basisOn_51 (by decide) ?_
        refine r_iadd (pc := 52) dX8_basisOn_52 ?_
        refine r_istore_n (pc := 53) dX8_basisOn_53 (by decide) ?_
        refine r_iinc (pc := 54) (L := [some (.ref b0), some (.int l1), some (.int l2), some (.int (l3 + 0)), some (.int l4)]) (v := l4 + 1) dX8_basisOn_54 rfl rfl (by decide) ?_
        refine r_goto (pc := 57) (L := [some (.ref b0), some (.int l1), some (.int l2), some (.int (l3 + 0)), some (.int (l4 + 1))]) (tgt := 5) dX8_basisOn_57 (by decide) ?_
        exact r_le (L' := [some (.ref b0), some (.int l1), some (.int l2), some (.int (l3 + 0)), some (.int (l4 + 1))]) ⟨rfl, ⟨rfl, ⟨rfl, ⟨rfl, ⟨rfl, trivial⟩⟩⟩⟩⟩ K0
      · have K0 := K0.2 q
        refine r_aload_n (pc := 39) dX8_basisOn_39 rfl ?_
        refine r_iload (pc := 40) dX8_basisOn_40 rfl ?_
        refine s_VI (pc := 42) mX8_basisOf (ci := 8) (a := b0) (As := [.int l4]) dX8_basisOn_42 lk_X8_71 in_X8_basisOf mo_X8_basisOf ⟨by decide, rfl⟩ ⟨by decide, by decide⟩ (Nat.le_of_ble_eq_true rfl) k_b0 (sr_X8_basisOf k_b0 g_b0_3 k_b0_3 p_3 ?_)
        refine s_SI (pc := 45) mX8_bits (As := [.int (bas (gi x b0_3) (l4 : Int32).toNatClampNeg)]) dX8_basisOn_45 lk_X8_296 st_X8_bits mo_X8_bits ⟨by decide, by decide⟩ (Nat.le_of_ble_eq_true rfl) (sp_X8_bits  ?_)
        refine r_goto (pc := 48) (tgt := 52) dX8_basisOn_48 (by decide) ?_
        refine r_iadd (pc := 52) dX8_basisOn_52 ?_
        refine r_istore_n (pc := 53) dX8_basisOn_53 (by decide) ?_
        refine r_iinc (pc := 54) (L := [some (.ref b0), some (.int l1), some (.int l2), some (.int (l3 + (nI (cpt (bas (gi x b0_3) (l4 : Int32).toNatClampNeg))))), some (.int l4)]) (v := l4 + 1) dX8_basisOn_54 rfl rfl (by decide) ?_
        refine r_goto (pc := 57) (L := [some (.ref b0), some (.int l1), some (.int l2), some (.int (l3 + (nI (cpt (bas (gi x b0_3) (l4 : Int32).toNatClampNeg))))), some (.int (l4 + 1))]) (tgt := 5) dX8_basisOn_57 (by decide) ?_
        exact r_le (L' := [some (.ref b0), some (.int l1), some (.int l2), some (.int (l3 + (nI (cpt (bas (gi x b0_3) (l4 : Int32).toNatClampNeg))))), some (.int (l4 + 1))]) ⟨rfl, ⟨rfl, ⟨rfl, ⟨rfl, ⟨rfl, trivial⟩⟩⟩⟩⟩ K0
section
variable {x : Cn} {Q : Int32 → Cn → Prop}
theorem sp_X8_basisOn {S : Nat} (M : MRf x 718) (h2 : gi x 718 2 = nI S) (hS : S ≤ 24) {c d : Int32} (hd : ¬ d = -1) (k : Q (bOf (gi x 718) S c d) x) : mSI mX8_basisOn [.ref 717, .int c, .int d] KW x Q := by
  refine v_X8_basisOn_0 (lp_acc (addS (fun s => so (gi x 718) s 0 = c ∧ (d = -1 ∨ so (gi x 718) s 1 = d)) (fun s => nI (cpt (bas (gi x 718) s)))) (fun s a => GI mX8_basisOn 5 [some (.ref 717), some (.int c), some (.int d), some (.int a), some (.int (nI s))] [] KW x Q) S 0 ?_ (fun s a hs n1 => ?_))
  · exact v_X8_basisOn_5 km M.1 km1 M.2.2.1 km1 ⟨v0 (k := 2) (by decide) rfl rfl, fun _ => k, fun z => absurd (by rw [h2]; exact Int32.le_refl _) z⟩
  · refine v_X8_basisOn_5 km M.1 km1 M.2.2.1 km1 ⟨v0 (k := 2) (by decide) rfl rfl, fun z => absurd (by rw [h2] at z; exact z) (nI_ge hs (by omega)), fun _ => ⟨l24_nI (by omega) rfl, ?_⟩⟩
    rw [nI_clamp (show s < 2 ^ 31 by omega), nI_1, Int32.add_zero]
    exact ⟨fun z => n1 _ (if_neg (fun g => z g.1)), fun z1 => ⟨fun z => n1 _ (if_neg (fun g => g.2.elim hd z)), fun z => n1 _ (if_pos ⟨z1, Or.inr z⟩)⟩⟩
end
set_option maxHeartbeats 2000000 in
theorem v_X8_allOf_0 {K : Sh} {x : Cn} {Q : Int32 → Cn → Prop} {b0 : Nat} {l1 : Int32} {l2 : Int32}   (K0 : GI mX8_allOf 5 [some (.ref b0), some (.int l1), some (.int l2), some (.int 0), some (.int 0)] [] K x Q) : mSI mX8_allOf [.ref b0, .int l1, .int l2] K x Q := by
  refine s_I (by decide) (by simp [Value.category]) (Nat.le_of_ble_eq_true rfl) ?_
  show mGM mX8_allOf 0 [some (.ref b0), some (.int l1), some (.int l2), none, none] [] (hp K x) (PI K Q)
  refine r_iconst (pc := 0) (v := 0) dX8_allOf_0 (by decide) ?_
  refine r_istore_n (pc := 1) dX8_allOf_1 (by decide) ?_
  refine r_iconst (pc := 2) (L := [some (.ref b0), some (.int l1), some (.int l2), some (.int 0), none]) (v := 0) dX8_allOf_2 (by decide) ?_
  refine r_istore (pc := 3) dX8_allOf_3 (by decide) ?_
  exact r_le (L' := [some (.ref b0), some (.int l1), some (.int l2), some (.int 0), some (.int 0)]) ⟨rfl, ⟨rfl, ⟨rfl, ⟨rfl, ⟨rfl, trivial⟩⟩⟩⟩⟩ K0
set_option maxHeartbeats 2000000 in
theorem v_X8_allOf_5 {K : Sh} {x : Cn} {Q : Int32 → Cn → Prop} {b0 : Nat} {l1 : Int32} {l2 : Int32} {l3 : Int32} {l4 : Int32} {b0_1 : Nat} {n_b0_1 : Nat} {b0_3 : Nat} {n_b0_3 : Nat} (k_b0 : kk K b0 = some (8, 0)) (g_b0_1 : gr x b0 1 = some b0_1) (k_b0_1 : kk K b0_1 = some (20, n_b0_1)) (g_b0_3 : gr x b0 3 = some b0_3) (k_b0_3 : kk K b0_3 = some (20, n_b0_3)) (K0 : vp_in 2 n_b0_1 ∧ (((gi x b0_1 2) ≤ l4 → (Q l3 x)) ∧ (¬ (gi x b0_1 2) ≤ l4 → ((l24 l4 n_b0_3) ∧ (((so (gi x b0_3) (l4 : Int32).toNatClampNeg 0) = l1 → ((l2 = 0 → (∀ r_6 : Int32, r_6 = (l3 + (nI (cpt (so (gi x b0_3) (l4 : Int32).toNatClampNeg 8 ||| so (gi x b0_3) (l4 : Int32).toNatClampNeg 10)))) → (GI mX8_allOf 5 [some (.ref b0), some (.int l1), some (.int l2), some (.int r_6), some (.int (l4 + 1))] [] K x Q))) ∧ (¬ l2 = 0 → (GI mX8_allOf 5 [some (.ref b0), some (.int l1), some (.int l2), some (.int (l3 + (nI (cpt (bas (gi x b0_3) (l4 : Int32).toNatClampNeg))))), some (.int (l4 + 1))] [] K x Q)))) ∧ (¬ (so (gi x b0_3) (l4 : Int32).toNatClampNeg 0) = l1 → (GI mX8_allOf 5 [some (.ref b0), some (.int l1), some (.int l2), some (.int (l3 + 0)), some (.int (l4 + 1))] [] K x Q))))))) : GI mX8_allOf 5 [some (.ref b0), some (.int l1), some (.int l2), some (.int l3), some (.int l4)] [] K x Q := by
  show mGM mX8_allOf 5 [some (.ref b0), some (.int l1), some (.int l2), some (.int l3), some (.int l4)] [] (hp K x) (PI K Q)
  refine r_iload (pc := 5) dX8_allOf_5 rfl ?_
  refine r_aload_n (pc := 7) dX8_allOf_7 rfl ?_
  refine s_getR (pc := 8) dX8_allOf_8 fl_X8_9 rfl k_b0 g_b0_1 ?_
  refine r_iconst (pc := 11) (v := 2) dX8_allOf_11 (by decide) ?_
  obtain ⟨i_1, K0⟩ := K0
  refine s_iald (pc := 12) dX8_allOf_12 k_b0_1 i_1 ?_
  refine r_icmp_ge (pc := 13) (tgt := 62) dX8_allOf_13 (by decide) (fun q => ?_) (fun q => ?_)
  · have K0 := K0.1 q
    refine r_iload_n (pc := 62) dX8_allOf_62 rfl ?_
    exact s_iret rfl dX8_allOf_63 K0
  · have K0 := K0.2 q
    refine r_iload_n (pc := 16) dX8_allOf_16 rfl ?_
    refine r_aload_n (pc := 17) dX8_allOf_17 rfl ?_
    refine r_iload (pc := 18) dX8_allOf_18 rfl ?_
    refine r_iconst (pc := 20) (v := 0) dX8_allOf_20 (by decide) ?_
    obtain ⟨p_3, K0⟩ := K0
    refine s_VI (pc := 21) mX8_one (ci := 8) (a := b0) (As := [.int l4, .int 0]) dX8_allOf_21 lk_X8_67 in_X8_one mo_X8_one ⟨by decide, rfl⟩ ⟨by decide, by decide⟩ (Nat.le_of_ble_eq_true rfl) k_b0 (sr_X8_one k_b0 g_b0_3 k_b0_3 p_3 ⟨by decide, by decide⟩ ?_)
    refine r_iload_n (pc := 24) dX8_allOf_24 rfl ?_
    refine r_icmp_eq (pc := 25) (tgt := 32) dX8_allOf_25 (by decide) (fun q => ?_) (fun q => ?_)
    · have K0 := K0.1 q
      refine r_iload_n (pc := 32) dX8_allOf_32 rfl ?_
      refine r_if_eq (pc := 33) (tgt := 48) dX8_allOf_33 (by decide) (fun q => ?_) (fun q => ?_)
      · have K0 := K0.1 q
        refine r_aload_n (pc := 48) dX8_allOf_48 rfl ?_
        refine r_iload (pc := 49) dX8_allOf_49 rfl ?_
        refine s_VI (pc := 51) mX8_goodOf (ci := 8) (a := b0) (As := [.int l4]) dX8_allOf_51 lk_X8_299 in_X8_goodOf mo_X8_goodOf ⟨by decide, rfl⟩ ⟨by decide, by decide⟩ (Nat.le_of_ble_eq_true rfl) k_b0 (sr_X8_goodOf k_b0 g_b0_3 k_b0_3 p_3 ?_)
        refine r_iadd (pc := 54) dX8_allOf_54 ?_
        obtain ⟨r_6, w_7⟩ : ∃ z : Int32, z = (l3 + (nI (cpt (so (gi x b0_3) (l4 : Int32).toNatClampNeg 8 ||| so (gi x b0_3) (l4 : Int32).toNatClampNeg 10)))) := ⟨_, rfl⟩
        rw [← w_7]
        have K0 := K0 r_6 w_7
        refine r_istore_n (pc := 55) dX8_allOf_55 (by decide) ?_
        refine r_iinc (pc := 56) (L := [some (.ref b0), some (.int l1), some (.int l2), some (.int r_6), some (.int l4)]) (v := l4 + 1) dX8_allOf_56 rfl rfl (by decide) ?_
        refine r_goto (pc := 59) (L := [some (.ref b0), some (.int l1), some (.int l2), some (.int r_6), some (.int (l4 + 1))]) (tgt := 5) dX8_allOf_59 (by decide) ?_
        exact r_le (L' := [some (.ref b0), some (.int l1), some (.int l2), some (.int r_6), some (.int (l4 + 1))]) ⟨rfl, ⟨rfl, ⟨rfl, ⟨rfl, ⟨rfl, trivial⟩⟩⟩⟩⟩ K0
      · have K0 := K0.2 q
        refine r_aload_n (pc := 36) dX8_allOf_36 rfl ?_
        refine r_iload (pc := 37) dX8_allOf_37 rfl ?_
        refine s_VI (pc := 39) mX8_basisOf (ci := 8) (a := b0) (As := [.int l4]) dX8_allOf_39 lk_X8_71 in_X8_basisOf mo_X8_basisOf ⟨by decide, rfl⟩ ⟨by decide, by decide⟩ (Nat.le_of_ble_eq_true rfl) k_b0 (sr_X8_basisOf k_b0 g_b0_3 k_b0_3 p_3 ?_)
        refine s_SI (pc := 42) mX8_bits (As := [.int (bas (gi x b0_3) (l4 : Int32).toNatClampNeg)]) dX8_allOf_42 lk_X8_296 st_X8_bits mo_X8_bits ⟨by decide, by decide⟩ (Nat.le_of_ble_eq_true rfl) (sp_X8_bits  ?_)
        refine r_goto (pc := 45) (tgt := 54) dX8_allOf_45 (by decide) ?_
        refine r_iadd (pc := 54) dX8_allOf_54 ?_
        refine r_istore_n (pc := 55) dX8_allOf_55 (by decide) ?_
        refine r_iinc (pc := 56) (L := [some (.ref b0), some (.int l1), some (.int l2), some (.int (l3 + (nI (cpt (bas (gi x b0_3) (l4 : Int32).toNatClampNeg))))), some (.int l4)]) (v := l4 + 1) dX8_allOf_56 rfl rfl (by decide) ?_
        refine r_goto (pc := 59) (L := [some (.ref b0), some (.int l1), some (.int l2), some (.int (l3 + (nI (cpt (bas (gi x b0_3) (l4 : Int32).toNatClampNeg))))), some (.int (l4 + 1))]) (tgt := 5) dX8_allOf_59 (by decide) ?_
        exact r_le (L' := [some (.ref b0), some (.int l1), some (.int l2), some (.int (l3 + (nI (cpt (bas (gi x b0_3) (l4 : Int32).toNatClampNeg))))), some (.int (l4 + 1))]) ⟨rfl, ⟨rfl, ⟨rfl, ⟨rfl, ⟨rfl, trivial⟩⟩⟩⟩⟩ K0
    · have K0 := K0.2 q
      refine r_iconst (pc := 28) (v := 0) dX8_allOf_28 (by decide) ?_
      refine r_goto (pc := 29) (tgt := 54) dX8_allOf_29 (by decide) ?_
      refine r_iadd (pc := 54) dX8_allOf_54 ?_
      refine r_istore_n (pc := 55) dX8_allOf_55 (by decide) ?_
      refine r_iinc (pc := 56) (L := [some (.ref b0), some (.int l1), some (.int l2), some (.int (l3 + 0)), some (.int l4)]) (v := l4 + 1) dX8_allOf_56 rfl rfl (by decide) ?_
      refine r_goto (pc := 59) (L := [some (.ref b0), some (.int l1), some (.int l2), some (.int (l3 + 0)), some (.int (l4 + 1))]) (tgt := 5) dX8_allOf_59 (by decide) ?_
      exact r_le (L' := [some (.ref b0), some (.int l1), some (.int l2), some (.int (l3 + 0)), some (.int (l4 + 1))]) ⟨rfl, ⟨rfl, ⟨rfl, ⟨rfl, ⟨rfl, trivial⟩⟩⟩⟩⟩ K0
section
variable {x : Cn} {Q : Int32 → Cn → Prop}
theorem sp_X8_allOf_1 {S : Nat} (M : MRf x 718) (h2 : gi x 718 2 = nI S) (hS : S ≤ 24) {c : Int32} (k : Q (bOf (gi x 718) S c (-1)) x) : mSI mX8_allOf [.ref 717, .int c, .int 1] KW x Q := by
  refine v_X8_allOf_0 (lp_acc (addS (fun s => so (gi x 718) s 0 = c ∧ ((-1 : Int32) = -1 ∨ so (gi x 718) s 1 = -1)) (fun s => nI (cpt (bas (gi x 718) s)))) (fun s a => GI mX8_allOf 5 [some (.ref 717), some (.int c), some (.int 1), some (.int a), some (.int (nI s))] [] KW x Q) S 0 ?_ (fun s a hs n1 => ?_))
  · exact v_X8_allOf_5 km M.1 km1 M.2.2.1 km1 ⟨v0 (k := 2) (by decide) rfl rfl, fun _ => k, fun z => absurd (by rw [h2]; exact Int32.le_refl _) z⟩
  · refine v_X8_allOf_5 km M.1 km1 M.2.2.1 km1 ⟨v0 (k := 2) (by decide) rfl rfl, fun z => absurd (by rw [h2] at z; exact z) (nI_ge hs (by omega)), fun _ => ⟨l24_nI (by omega) rfl, ?_⟩⟩
    rw [nI_clamp (show s < 2 ^ 31 by omega), nI_1, Int32.add_zero]
    exact ⟨fun z => ⟨fun w => absurd w (by decide), fun _ => n1 _ (if_pos ⟨z, Or.inl rfl⟩)⟩, fun z => n1 _ (if_neg (fun g => z g.1))⟩
theorem sp_X8_allOf_0 {S : Nat} (M : MRf x 718) (h2 : gi x 718 2 = nI S) (hS : S ≤ 24) {c : Int32} (k : Q (gOf (gi x 718) S c) x) : mSI mX8_allOf [.ref 717, .int c, .int 0] KW x Q := by
  refine v_X8_allOf_0 (lp_acc (addS (fun s => so (gi x 718) s 0 = c) (fun s => nI (cpt (so (gi x 718) s 8 ||| so (gi x 718) s 10)))) (fun s a => GI mX8_allOf 5 [some (.ref 717), some (.int c), some (.int 0), some (.int a), some (.int (nI s))] [] KW x Q) S 0 ?_ (fun s a hs n1 => ?_))
  · exact v_X8_allOf_5 km M.1 km1 M.2.2.1 km1 ⟨v0 (k := 2) (by decide) rfl rfl, fun _ => k, fun z => absurd (by rw [h2]; exact Int32.le_refl _) z⟩
  · refine v_X8_allOf_5 km M.1 km1 M.2.2.1 km1 ⟨v0 (k := 2) (by decide) rfl rfl, fun z => absurd (by rw [h2] at z; exact z) (nI_ge hs (by omega)), fun _ => ⟨l24_nI (by omega) rfl, ?_⟩⟩
    rw [nI_clamp (show s < 2 ^ 31 by omega), nI_1, Int32.add_zero]
    exact ⟨fun z => ⟨fun _ r er => n1 _ (by rw [er]; exact if_pos z), fun w => absurd (by decide) w⟩, fun z => n1 _ (if_neg z)⟩
/-- of two carriers the first uses more -/
def btr (T : TT) (S : Nat) (a b : Int32) : Prop := if bOf T S a (-1) = 0 ∨ bOf T S b (-1) = 0 then (bOf T S a (-1) ≠ bOf T S b (-1) ∧ 0 < bOf T S a (-1)) ∨ (bOf T S a (-1) = bOf T S b (-1) ∧ a < b) else (gOf T S b * bOf T S a (-1) < gOf T S a * bOf T S b (-1)) ∨ (gOf T S a * bOf T S b (-1) = gOf T S b * bOf T S a (-1) ∧ a < b)
end
set_option maxHeartbeats 2000000 in
theorem v_X7_usesMore_0 {K : Sh} {x : Cn} {Q : Int32 → Cn → Prop} {b0 : Nat} {l1 : Int32} {l2 : Int32} {b0_2 : Nat} (k_b0 : kk K b0 = some (7, 0)) (g_b0_2 : gr x b0 2 = some b0_2) (k_b0_2 : kk K b0_2 = some (4, 0)) (K0 : mSI mX4_basisOf [.ref b0_2, .int l1, .int (-1)] K x (fun r_2 y_1 => gr y_1 b0 2 = some b0_2 ∧ (mSI mX4_basisOf [.ref b0_2, .int l2, .int (-1)] K y_1 (fun r_5 y_4 => (r_2 = 0 → (GI mX7_usesMore 30 [some (.ref b0), some (.int l1), some (.int l2), some (.int r_2), some (.int r_5), none, none] [] K y_4 Q)) ∧ (¬ r_2 = 0 → ((¬ r_5 = 0 → (gr y_4 b0 2 = some b0_2 ∧ (mSI mX4_goodOf [.ref b0_2, .int l1] K y_4 (fun r_10 y_9 => gr y_9 b0 2 = some b0_2 ∧ (mSI mX4_goodOf [.ref b0_2, .int l2] K y_9 (fun r_13 y_12 => (¬ (r_10 * r_5) = (r_13 * r_2) → (((r_10 * r_5) ≤ (r_13 * r_2) → (Q 0 y_12)) ∧ (¬ (r_10 * r_5) ≤ (r_13 * r_2) → (Q 1 y_12)))) ∧ ((r_10 * r_5) = (r_13 * r_2) → ((l2 ≤ l1 → (Q 0 y_12)) ∧ (¬ l2 ≤ l1 → (Q 1 y_12)))))))))) ∧ (r_5 = 0 → (GI mX7_usesMore 30 [some (.ref b0), some (.int l1), some (.int l2), some (.int r_2), some (.int r_5), none, none] [] K y_4 Q)))))))) : mSI mX7_usesMore [.ref b0, .int l1, .int l2] K x Q := by
  refine s_I (by decide) (by simp [Value.category]) (Nat.le_of_ble_eq_true rfl) ?_
  show mGM mX7_usesMore 0 [some (.ref b0), some (.int l1), some (.int l2), none, none, none, none] [] (hp K x) (PI K Q)
  refine r_aload_n (pc := 0) dX7_usesMore_0 rfl ?_
  refine s_getR (pc := 1) dX7_usesMore_1 fl_X7_20 rfl k_b0 g_b0_2 ?_
  refine r_iload_n (pc := 4) dX7_usesMore_4 rfl ?_
  refine r_iconst (pc := 5) (v := (-1)) dX7_usesMore_5 (by decide) ?_
  refine s_VI (pc := 6) mX4_basisOf (ci := 4) (a := b0_2) (As := [.int l1, .int (-1)]) dX7_usesMore_6 lk_X7_263 in_X4_basisOf mo_X4_basisOf ⟨by decide, rfl⟩ ⟨by decide, by decide⟩ (Nat.le_of_ble_eq_true rfl) k_b0_2 (mSI_mono K0 (fun r_2 y_1 K0 => ?_))
  refine r_istore_n (pc := 9) dX7_usesMore_9 (by decide) ?_
  refine r_aload_n (pc := 10) (L := [some (.ref b0), some (.int l1), some (.int l2), some (.int r_2), none, none, none]) dX7_usesMore_10 rfl ?_
  obtain ⟨g_3, K0⟩ := K0
  refine s_getR (pc := 11) dX7_usesMore_11 fl_X7_20 rfl k_b0 g_3 ?_
  refine r_iload_n (pc := 14) dX7_usesMore_14 rfl ?_
  refine r_iconst (pc := 15) (v := (-1)) dX7_usesMore_15 (by decide) ?_
  refine s_VI (pc := 16) mX4_basisOf (ci := 4) (a := b0_2) (As := [.int l2, .int (-1)]) dX7_usesMore_16 lk_X7_263 in_X4_basisOf mo_X4_basisOf ⟨by decide, rfl⟩ ⟨by decide, by decide⟩ (Nat.le_of_ble_eq_true rfl) k_b0_2 (mSI_mono K0 (fun r_5 y_4 K0 => ?_))
  refine r_istore (pc := 19) dX7_usesMore_19 (by decide) ?_
  refine r_iload_n (pc := 21) (L := [some (.ref b0), some (.int l1), some (.int l2), some (.int r_2), some (.int r_5), none, none]) dX7_usesMore_21 rfl ?_
  refine r_if_eq (pc := 22) (tgt := 30) dX7_usesMore_22 (by decide) (fun q => ?_) (fun q => ?_)
  · have K0 := K0.1 q
    exact r_le (L' := [some (.ref b0), some (.int l1), some (.int l2), some (.int r_2), some (.int r_5), none, none]) ⟨rfl, ⟨rfl, ⟨rfl, ⟨rfl, ⟨rfl, trivial⟩⟩⟩⟩⟩ K0
  · have K0 := K0.2 q
    refine r_iload (pc := 25) dX7_usesMore_25 rfl ?_
    refine r_if_ne (pc := 27) (tgt := 59) dX7_usesMore_27 (by decide) (fun q => ?_) (fun q => ?_)
    · have K0 := K0.1 q
      refine r_aload_n (pc := 59) dX7_usesMore_59 rfl ?_
      obtain ⟨g_8, K0⟩ := K0
      refine s_getR (pc := 60) dX7_usesMore_60 fl_X7_20 rfl k_b0 g_8 ?_
      refine r_iload_n (pc := 63) dX7_usesMore_63 rfl ?_
      refine s_VI (pc := 64) mX4_goodOf (ci := 4) (a := b0_2) (As := [.int l1]) dX7_usesMore_64 lk_X7_387 in_X4_goodOf mo_X4_goodOf ⟨by decide, rfl⟩ ⟨by decide, by decide⟩ (Nat.le_of_ble_eq_true rfl) k_b0_2 (mSI_mono K0 (fun r_10 y_9 K0 => ?_))
      refine r_iload (pc := 67) dX7_usesMore_67 rfl ?_
      refine r_imul (pc := 69) dX7_usesMore_69 ?_
      refine r_istore (pc := 70) dX7_usesMore_70 (by decide) ?_
      refine r_aload_n (pc := 72) (L := [some (.ref b0), some (.int l1), some (.int l2), some (.int r_2), some (.int r_5), some (.int (r_10 * r_5)), none]) dX7_usesMore_72 rfl ?_
      obtain ⟨g_11, K0⟩ := K0
      refine s_getR (pc := 73) dX7_usesMore_73 fl_X7_20 rfl k_b0 g_11 ?_
      refine r_iload_n (pc := 76) dX7_usesMore_76 rfl ?_
      refine s_VI (pc := 77) mX4_goodOf (ci := 4) (a := b0_2) (As := [.int l2]) dX7_usesMore_77 lk_X7_387 in_X4_goodOf mo_X4_goodOf ⟨by decide, rfl⟩ ⟨by decide, by decide⟩ (Nat.le_of_ble_eq_true rfl) k_b0_2 (mSI_mono K0 (fun r_13 y_12 K0 => ?_))
      refine r_iload_n (pc := 80) dX7_usesMore_80 rfl ?_
      refine r_imul (pc := 81) dX7_usesMore_81 ?_
      refine r_istore (pc := 82) dX7_usesMore_82 (by decide) ?_
      refine r_iload (pc := 84) (L := [some (.ref b0), some (.int l1), some (.int l2), some (.int r_2), some (.int r_5), some (.int (r_10 * r_5)), some (.int (r_13 * r_2))]) dX7_usesMore_84 rfl ?_
      refine r_iload (pc := 86) dX7_usesMore_86 rfl ?_
      refine r_icmp_ne (pc := 88) (tgt := 104) dX7_usesMore_88 (by decide) (fun q => ?_) (fun q => ?_)
      · have K0 := K0.1 q
        refine r_iload (pc := 104) dX7_usesMore_104 rfl ?_
        refine r_iload (pc := 106) dX7_usesMore_106 rfl ?_
        refine r_icmp_le (pc := 108) (tgt := 115) dX7_usesMore_108 (by decide) (fun q => ?_) (fun q => ?_)
        · have K0 := K0.1 q
          refine r_iconst (pc := 115) (v := 0) dX7_usesMore_115 (by decide) ?_
          exact s_zret rfl (by decide) dX7_usesMore_116 K0
        · have K0 := K0.2 q
          refine r_iconst (pc := 111) (v := 1) dX7_usesMore_111 (by decide) ?_
          refine r_goto (pc := 112) (tgt := 116) dX7_usesMore_112 (by decide) ?_
          exact s_zret rfl (by decide) dX7_usesMore_116 K0
      · have K0 := K0.2 q
        refine r_iload_n (pc := 91) dX7_usesMore_91 rfl ?_
        refine r_iload_n (pc := 92) dX7_usesMore_92 rfl ?_
        refine r_icmp_ge (pc := 93) (tgt := 100) dX7_usesMore_93 (by decide) (fun q => ?_) (fun q => ?_)
        · have K0 := K0.1 q
          refine r_iconst (pc := 100) (v := 0) dX7_usesMore_100 (by decide) ?_
          refine r_goto (pc := 101) (tgt := 116) dX7_usesMore_101 (by decide) ?_
          exact s_zret rfl (by decide) dX7_usesMore_116 K0
        · have K0 := K0.2 q
          refine r_iconst (pc := 96) (v := 1) dX7_usesMore_96 (by decide) ?_
          refine r_goto (pc := 97) (tgt := 116) dX7_usesMore_97 (by decide) ?_
          exact s_zret rfl (by decide) dX7_usesMore_116 K0
    · have K0 := K0.2 q
      exact r_le (L' := [some (.ref b0), some (.int l1), some (.int l2), some (.int r_2), some (.int r_5), none, none]) ⟨rfl, ⟨rfl, ⟨rfl, ⟨rfl, ⟨rfl, trivial⟩⟩⟩⟩⟩ K0
set_option maxHeartbeats 2000000 in
theorem v_X7_usesMore_30 {K : Sh} {x : Cn} {Q : Int32 → Cn → Prop} {b0 : Nat} {l1 : Int32} {l2 : Int32} {l3 : Int32} {l4 : Int32}   (K0 : (¬ l3 = l4 → ((l3 ≤ 0 → (Q 0 x)) ∧ (¬ l3 ≤ 0 → (Q 1 x)))) ∧ (l3 = l4 → ((l2 ≤ l1 → (Q 0 x)) ∧ (¬ l2 ≤ l1 → (Q 1 x))))) : GI mX7_usesMore 30 [some (.ref b0), some (.int l1), some (.int l2), some (.int l3), some (.int l4), none, none] [] K x Q := by
  show mGM mX7_usesMore 30 [some (.ref b0), some (.int l1), some (.int l2), some (.int l3), some (.int l4), none, none] [] (hp K x) (PI K Q)
  refine r_iload_n (pc := 30) dX7_usesMore_30 rfl ?_
  refine r_iload (pc := 31) dX7_usesMore_31 rfl ?_
  refine r_icmp_ne (pc := 33) (tgt := 49) dX7_usesMore_33 (by decide) (fun q => ?_) (fun q => ?_)
  · have K0 := K0.1 q
    refine r_iload_n (pc := 49) dX7_usesMore_49 rfl ?_
    refine r_if_le (pc := 50) (tgt := 57) dX7_usesMore_50 (by decide) (fun q => ?_) (fun q => ?_)
    · have K0 := K0.1 q
      refine r_iconst (pc := 57) (v := 0) dX7_usesMore_57 (by decide) ?_
      exact s_zret rfl (by decide) dX7_usesMore_58 K0
    · have K0 := K0.2 q
      refine r_iconst (pc := 53) (v := 1) dX7_usesMore_53 (by decide) ?_
      refine r_goto (pc := 54) (tgt := 58) dX7_usesMore_54 (by decide) ?_
      exact s_zret rfl (by decide) dX7_usesMore_58 K0
  · have K0 := K0.2 q
    refine r_iload_n (pc := 36) dX7_usesMore_36 rfl ?_
    refine r_iload_n (pc := 37) dX7_usesMore_37 rfl ?_
    refine r_icmp_ge (pc := 38) (tgt := 45) dX7_usesMore_38 (by decide) (fun q => ?_) (fun q => ?_)
    · have K0 := K0.1 q
      refine r_iconst (pc := 45) (v := 0) dX7_usesMore_45 (by decide) ?_
      refine r_goto (pc := 46) (tgt := 58) dX7_usesMore_46 (by decide) ?_
      exact s_zret rfl (by decide) dX7_usesMore_58 K0
    · have K0 := K0.2 q
      refine r_iconst (pc := 41) (v := 1) dX7_usesMore_41 (by decide) ?_
      refine r_goto (pc := 42) (tgt := 58) dX7_usesMore_42 (by decide) ?_
      exact s_zret rfl (by decide) dX7_usesMore_58 K0
section
variable {x : Cn} {Q : Int32 → Cn → Prop}
theorem sp_X7_usesMore {x : Cn} {Q : Int32 → Cn → Prop} {T : TT} {W C S A N : Nat} (c1 : CRf x) (E : SEA x 2 T W C S A N) {a b : Int32} (k : Q (bP (btr T S a b)) x) : mSI mX7_usesMore [.ref 0, .int a, .int b] KW x Q := by
  have k2 := bP_k k
  have mid : (bOf T S a (-1) = 0 ∨ bOf T S b (-1) = 0) → GI mX7_usesMore 30 [some (.ref 0), some (.int a), some (.int b), some (.int (bOf T S a (-1))), some (.int (bOf T S b (-1))), none, none] [] KW x Q := by
    intro z
    unfold btr at k2
    rw [if_pos z] at k2
    refine v_X7_usesMore_30 ⟨fun w => ⟨fun w2 => k2.2 ?_, fun w2 => k2.1 (Or.inl ⟨w, Int32.not_le.mp w2⟩)⟩, fun w => ⟨fun w2 => k2.2 ?_, fun w2 => k2.1 (Or.inr ⟨w, Int32.not_le.mp w2⟩)⟩⟩
    · rintro (u | u)
      · exact Int32.not_le.mpr u.2 w2
      · exact w u.1
    · rintro (u | u)
      · exact u.1 w
      · exact Int32.not_le.mpr u.2 w2
  refine v_X7_usesMore_0 k0 c1.2.1 (ks0 E.1) (sp_X4_basisOf E ⟨c1.2.1, sp_X4_basisOf E ⟨fun z => mid (Or.inl z), fun z => ⟨fun z2 => ⟨c1.2.1, sp_X4_goodOf E ⟨c1.2.1, sp_X4_goodOf E ?_⟩⟩, fun z2 => mid (Or.inr z2)⟩⟩⟩)
  unfold btr at k2
  rw [if_neg (fun u => u.elim z z2)] at k2
  refine ⟨fun w => ⟨fun w2 => k2.2 ?_, fun w2 => k2.1 (Or.inl (Int32.not_le.mp w2))⟩, fun w => ⟨fun w2 => k2.2 ?_, fun w2 => k2.1 (Or.inr ⟨w, Int32.not_le.mp w2⟩)⟩⟩
  · rintro (u | u)
    · exact Int32.not_le.mpr u w2
    · exact w u.1
  · rintro (u | u)
    · rw [w] at u
      exact Int32.lt_irrefl u
    · exact Int32.not_le.mpr u.2 w2
theorem dif_sgn {a b : Nat} (ha : a < 2 ^ 30) (hb : b < 2 ^ 30) : (0 < nI a - nI b ↔ nI b < nI a) ∧ (nI a - nI b = 0 ↔ nI a = nI b) := by
  have e := pk_sub_toInt ha hb
  refine ⟨?_, ?_⟩
  · rw [Int32.lt_iff_toInt_lt, e, nI_ltI (by omega) (by omega)]
    show (0 : Int) < _ ↔ _
    omega
  · rw [← Int32.toInt_inj, e, nI_eq (by omega) (by omega)]
    show _ = (0 : Int) ↔ _
    omega
end
set_option maxHeartbeats 2000000 in
theorem v_X8_isBetter_0 {K : Sh} {x : Cn} {Q : Int32 → Cn → Prop} {b0 : Nat} {l1 : Int32} {l2 : Int32}  (k_b0 : kk K b0 = some (8, 0)) (K0 : mSI mX8_allOf [.ref b0, .int l1, .int 1] K x (fun r_2 y_1 => mSI mX8_allOf [.ref b0, .int l2, .int 1] K y_1 (fun r_4 y_3 => (r_2 = 0 → (GI mX8_isBetter 24 [some (.ref b0), some (.int l1), some (.int l2), some (.int r_2), some (.int r_4), none] [] K y_3 Q)) ∧ (¬ r_2 = 0 → ((¬ r_4 = 0 → (mSI mX8_allOf [.ref b0, .int l1, .int 0] K y_3 (fun r_8 y_7 => mSI mX8_allOf [.ref b0, .int l2, .int 0] K y_7 (fun r_10 y_9 => (0 < ((r_8 * r_4) - (r_10 * r_2)) → (Q 1 y_9)) ∧ (¬ 0 < ((r_8 * r_4) - (r_10 * r_2)) → ((¬ ((r_8 * r_4) - (r_10 * r_2)) = 0 → (Q 0 y_9)) ∧ (((r_8 * r_4) - (r_10 * r_2)) = 0 → ((l2 ≤ l1 → (Q 0 y_9)) ∧ (¬ l2 ≤ l1 → (Q 1 y_9)))))))))) ∧ (r_4 = 0 → (GI mX8_isBetter 24 [some (.ref b0), some (.int l1), some (.int l2), some (.int r_2), some (.int r_4), none] [] K y_3 Q))))))) : mSI mX8_isBetter [.ref b0, .int l1, .int l2] K x Q := by
  refine s_I (by decide) (by simp [Value.category]) (Nat.le_of_ble_eq_true rfl) ?_
  show mGM mX8_isBetter 0 [some (.ref b0), some (.int l1), some (.int l2), none, none, none] [] (hp K x) (PI K Q)
  refine r_aload_n (pc := 0) dX8_isBetter_0 rfl ?_
  refine r_iload_n (pc := 1) dX8_isBetter_1 rfl ?_
  refine r_iconst (pc := 2) (v := 1) dX8_isBetter_2 (by decide) ?_
  refine s_VI (pc := 3) mX8_allOf (ci := 8) (a := b0) (As := [.int l1, .int 1]) dX8_isBetter_3 lk_X8_316 in_X8_allOf mo_X8_allOf ⟨by decide, rfl⟩ ⟨by decide, by decide⟩ (Nat.le_of_ble_eq_true rfl) k_b0 (mSI_mono K0 (fun r_2 y_1 K0 => ?_))
  refine r_istore_n (pc := 6) dX8_isBetter_6 (by decide) ?_
  refine r_aload_n (pc := 7) (L := [some (.ref b0), some (.int l1), some (.int l2), some (.int r_2), none, none]) dX8_isBetter_7 rfl ?_
  refine r_iload_n (pc := 8) dX8_isBetter_8 rfl ?_
  refine r_iconst (pc := 9) (v := 1) dX8_isBetter_9 (by decide) ?_
  refine s_VI (pc := 10) mX8_allOf (ci := 8) (a := b0) (As := [.int l2, .int 1]) dX8_isBetter_10 lk_X8_316 in_X8_allOf mo_X8_allOf ⟨by decide, rfl⟩ ⟨by decide, by decide⟩ (Nat.le_of_ble_eq_true rfl) k_b0 (mSI_mono K0 (fun r_4 y_3 K0 => ?_))
  refine r_istore (pc := 13) dX8_isBetter_13 (by decide) ?_
  refine r_iload_n (pc := 15) (L := [some (.ref b0), some (.int l1), some (.int l2), some (.int r_2), some (.int r_4), none]) dX8_isBetter_15 rfl ?_
  refine r_if_eq (pc := 16) (tgt := 24) dX8_isBetter_16 (by decide) (fun q => ?_) (fun q => ?_)
  · have K0 := K0.1 q
    exact r_le (L' := [some (.ref b0), some (.int l1), some (.int l2), some (.int r_2), some (.int r_4), none]) ⟨rfl, ⟨rfl, ⟨rfl, ⟨rfl, ⟨rfl, trivial⟩⟩⟩⟩⟩ K0
  · have K0 := K0.2 q
    refine r_iload (pc := 19) dX8_isBetter_19 rfl ?_
    refine r_if_ne (pc := 21) (tgt := 44) dX8_isBetter_21 (by decide) (fun q => ?_) (fun q => ?_)
    · have K0 := K0.1 q
      refine r_aload_n (pc := 44) dX8_isBetter_44 rfl ?_
      refine r_iload_n (pc := 45) dX8_isBetter_45 rfl ?_
      refine r_iconst (pc := 46) (v := 0) dX8_isBetter_46 (by decide) ?_
      refine s_VI (pc := 47) mX8_allOf (ci := 8) (a := b0) (As := [.int l1, .int 0]) dX8_isBetter_47 lk_X8_316 in_X8_allOf mo_X8_allOf ⟨by decide, rfl⟩ ⟨by decide, by decide⟩ (Nat.le_of_ble_eq_true rfl) k_b0 (mSI_mono K0 (fun r_8 y_7 K0 => ?_))
      refine r_iload (pc := 50) dX8_isBetter_50 rfl ?_
      refine r_imul (pc := 52) dX8_isBetter_52 ?_
      refine r_aload_n (pc := 53) dX8_isBetter_53 rfl ?_
      refine r_iload_n (pc := 54) dX8_isBetter_54 rfl ?_
      refine r_iconst (pc := 55) (v := 0) dX8_isBetter_55 (by decide) ?_
      refine s_VI (pc := 56) mX8_allOf (ci := 8) (a := b0) (As := [.int l2, .int 0]) dX8_isBetter_56 lk_X8_316 in_X8_allOf mo_X8_allOf ⟨by decide, rfl⟩ ⟨by decide, by decide⟩ (Nat.le_of_ble_eq_true rfl) k_b0 (mSI_mono K0 (fun r_10 y_9 K0 => ?_))
      refine r_iload_n (pc := 59) dX8_isBetter_59 rfl ?_
      refine r_imul (pc := 60) dX8_isBetter_60 ?_
      refine r_isub (pc := 61) dX8_isBetter_61 ?_
      refine r_istore (pc := 62) dX8_isBetter_62 (by decide) ?_
      refine r_iload (pc := 64) (L := [some (.ref b0), some (.int l1), some (.int l2), some (.int r_2), some (.int r_4), some (.int ((r_8 * r_4) - (r_10 * r_2)))]) dX8_isBetter_64 rfl ?_
      refine r_if_gt (pc := 66) (tgt := 79) dX8_isBetter_66 (by decide) (fun q => ?_) (fun q => ?_)
      · have K0 := K0.1 q
        refine r_iconst (pc := 79) (v := 1) dX8_isBetter_79 (by decide) ?_
        refine r_goto (pc := 80) (tgt := 84) dX8_isBetter_80 (by decide) ?_
        exact s_zret rfl (by decide) dX8_isBetter_84 K0
      · have K0 := K0.2 q
        refine r_iload (pc := 69) dX8_isBetter_69 rfl ?_
        refine r_if_ne (pc := 71) (tgt := 83) dX8_isBetter_71 (by decide) (fun q => ?_) (fun q => ?_)
        · have K0 := K0.1 q
          refine r_iconst (pc := 83) (v := 0) dX8_isBetter_83 (by decide) ?_
          exact s_zret rfl (by decide) dX8_isBetter_84 K0
        · have K0 := K0.2 q
          refine r_iload_n (pc := 74) dX8_isBetter_74 rfl ?_
          refine r_iload_n (pc := 75) dX8_isBetter_75 rfl ?_
          refine r_icmp_ge (pc := 76) (tgt := 83) dX8_isBetter_76 (by decide) (fun q => ?_) (fun q => ?_)
          · have K0 := K0.1 q
            refine r_iconst (pc := 83) (v := 0) dX8_isBetter_83 (by decide) ?_
            exact s_zret rfl (by decide) dX8_isBetter_84 K0
          · have K0 := K0.2 q
            refine r_iconst (pc := 79) (v := 1) dX8_isBetter_79 (by decide) ?_
            refine r_goto (pc := 80) (tgt := 84) dX8_isBetter_80 (by decide) ?_
            exact s_zret rfl (by decide) dX8_isBetter_84 K0
    · have K0 := K0.2 q
      exact r_le (L' := [some (.ref b0), some (.int l1), some (.int l2), some (.int r_2), some (.int r_4), none]) ⟨rfl, ⟨rfl, ⟨rfl, ⟨rfl, ⟨rfl, trivial⟩⟩⟩⟩⟩ K0
set_option maxHeartbeats 2000000 in
theorem v_X8_isBetter_24 {K : Sh} {x : Cn} {Q : Int32 → Cn → Prop} {b0 : Nat} {l1 : Int32} {l2 : Int32} {l3 : Int32} {l4 : Int32}   (K0 : (0 < l3 → (Q 1 x)) ∧ (¬ 0 < l3 → ((¬ l4 = 0 → (Q 0 x)) ∧ (l4 = 0 → ((l2 ≤ l1 → (Q 0 x)) ∧ (¬ l2 ≤ l1 → (Q 1 x))))))) : GI mX8_isBetter 24 [some (.ref b0), some (.int l1), some (.int l2), some (.int l3), some (.int l4), none] [] K x Q := by
  show mGM mX8_isBetter 24 [some (.ref b0), some (.int l1), some (.int l2), some (.int l3), some (.int l4), none] [] (hp K x) (PI K Q)
  refine r_iload_n (pc := 24) dX8_isBetter_24 rfl ?_
  refine r_if_gt (pc := 25) (tgt := 38) dX8_isBetter_25 (by decide) (fun q => ?_) (fun q => ?_)
  · have K0 := K0.1 q
    refine r_iconst (pc := 38) (v := 1) dX8_isBetter_38 (by decide) ?_
    refine r_goto (pc := 39) (tgt := 43) dX8_isBetter_39 (by decide) ?_
    exact s_zret rfl (by decide) dX8_isBetter_43 K0
  · have K0 := K0.2 q
    refine r_iload (pc := 28) dX8_isBetter_28 rfl ?_
    refine r_if_ne (pc := 30) (tgt := 42) dX8_isBetter_30 (by decide) (fun q => ?_) (fun q => ?_)
    · have K0 := K0.1 q
      refine r_iconst (pc := 42) (v := 0) dX8_isBetter_42 (by decide) ?_
      exact s_zret rfl (by decide) dX8_isBetter_43 K0
    · have K0 := K0.2 q
      refine r_iload_n (pc := 33) dX8_isBetter_33 rfl ?_
      refine r_iload_n (pc := 34) dX8_isBetter_34 rfl ?_
      refine r_icmp_ge (pc := 35) (tgt := 42) dX8_isBetter_35 (by decide) (fun q => ?_) (fun q => ?_)
      · have K0 := K0.1 q
        refine r_iconst (pc := 42) (v := 0) dX8_isBetter_42 (by decide) ?_
        exact s_zret rfl (by decide) dX8_isBetter_43 K0
      · have K0 := K0.2 q
        refine r_iconst (pc := 38) (v := 1) dX8_isBetter_38 (by decide) ?_
        refine r_goto (pc := 39) (tgt := 43) dX8_isBetter_39 (by decide) ?_
        exact s_zret rfl (by decide) dX8_isBetter_43 K0
section
variable {x : Cn} {Q : Int32 → Cn → Prop}
theorem sp_X8_isBetter {x : Cn} {Q : Int32 → Cn → Prop} {S : Nat} (M : MRf x 718) (h2 : gi x 718 2 = nI S) (hS : S ≤ 24) {a b : Int32} (k : Q (bP (btr (gi x 718) S a b)) x) : mSI mX8_isBetter [.ref 717, .int a, .int b] KW x Q := by
  have k2 := bP_k k
  obtain ⟨n1, hn1, e1⟩ := bOf_bd (gi x 718) S a (-1)
  obtain ⟨n2, hn2, e2⟩ := bOf_bd (gi x 718) S b (-1)
  obtain ⟨n3, hn3, e3⟩ := gOf_bd (gi x 718) S a
  obtain ⟨n4, hn4, e4⟩ := gOf_bd (gi x 718) S b
  have mid : (bOf (gi x 718) S a (-1) = 0 ∨ bOf (gi x 718) S b (-1) = 0) → GI mX8_isBetter 24 [some (.ref 717), some (.int a), some (.int b), some (.int (bOf (gi x 718) S a (-1))), some (.int (bOf (gi x 718) S b (-1))), none] [] KW x Q := by
    intro z
    unfold btr at k2
    rw [if_pos z] at k2
    have hp : ∀ {n : Nat}, n ≤ 32 * S → ¬ 0 < nI n → nI n = 0 := fun h g => Int32.le_antisymm (Int32.not_lt.mp g) (nI_pos' (by omega))
    refine v_X8_isBetter_24 ⟨fun w => k2.1 ?_, fun w => ⟨fun w2 => k2.2 ?_, fun w2 => ⟨fun w3 => k2.2 ?_, fun w3 => k2.1 ?_⟩⟩⟩
    · refine Or.inl ⟨fun u => ?_, w⟩
      rcases z with z | z
      · rw [z] at w
        exact Int32.lt_irrefl w
      · rw [u, z] at w
        exact Int32.lt_irrefl w
    · have hz : bOf (gi x 718) S a (-1) = 0 := by rw [e1] at w ⊢; exact hp hn1 w
      rintro (u | u)
      · exact w u.2
      · exact w2 (by rw [← u.1]; exact hz)
    · have hz : bOf (gi x 718) S a (-1) = 0 := by rw [e1] at w ⊢; exact hp hn1 w
      rintro (u | u)
      · exact w u.2
      · exact Int32.not_le.mpr u.2 w3
    · have hz : bOf (gi x 718) S a (-1) = 0 := by rw [e1] at w ⊢; exact hp hn1 w
      exact Or.inr ⟨by rw [hz, w2], Int32.not_le.mp w3⟩
  refine v_X8_isBetter_0 km (sp_X8_allOf_1 M h2 hS (sp_X8_allOf_1 M h2 hS ⟨fun z => mid (Or.inl z), fun z => ⟨fun z2 => sp_X8_allOf_0 M h2 hS (sp_X8_allOf_0 M h2 hS ?_), fun z2 => mid (Or.inr z2)⟩⟩))
  unfold btr at k2
  rw [if_neg (fun u => u.elim z z2)] at k2
  rw [e1, e2, e3, e4] at k2 ⊢
  rw [pk_mul, pk_mul] at k2 ⊢
  have hS2 : 32 * S ≤ 768 := by omega
  have b1 : n3 * n2 < 2 ^ 30 := Nat.lt_of_le_of_lt (Nat.mul_le_mul (Nat.le_trans hn3 hS2) (Nat.le_trans hn2 hS2)) (by decide)
  have b2 : n4 * n1 < 2 ^ 30 := Nat.lt_of_le_of_lt (Nat.mul_le_mul (Nat.le_trans hn4 hS2) (Nat.le_trans hn1 hS2)) (by decide)
  have hd := dif_sgn b1 b2
  rw [hd.1, hd.2]
  refine ⟨fun w => k2.1 (Or.inl w), fun w => ⟨fun w2 => k2.2 ?_, fun w2 => ⟨fun w3 => k2.2 ?_, fun w3 => k2.1 (Or.inr ⟨w2, Int32.not_le.mp w3⟩)⟩⟩⟩
  · rintro (u | u)
    · exact w u
    · exact w2 u.1
  · rintro (u | u)
    · exact w u
    · exact Int32.not_le.mpr u.2 w3

end

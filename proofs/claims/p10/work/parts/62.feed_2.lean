section
theorem sp_X1_isNamed {x : Cn} {Q : Int32 → Cn → Prop} {nb cr w bt nB fr to : Nat} (k1 : kk KW nb = some (1, 0)) (g1 : gr x nb 1 = some (nb + 1)) (k2 : kk KW (nb + 1) = some (20, 48)) (kb : kk KW bt = some (21, nB)) (hc : cr < 8) (hw : w < 387420489) (hv : ∀ i, i < 6 → gi x (nb + 1) (6 * cr + i) = nI (dg w i)) (h : ltr (gi x bt) fr to) (hto : to ≤ nB) (hft : fr ≤ to) (hnB : nB ≤ 1200) (k : Q (b2i (w = pkv (gi x bt) fr to)) x) : mSI mX1_isNamed [.ref nb, .int (nI cr), .ref bt, .int (nI fr), .int (nI to)] KW x Q := by
  have no : ∀ i, i < 6 → ¬ dg w i = bd (gi x bt) fr to i → Q 0 x := fun i hi hne => by
    rw [b2i_f (fun e => hne (by rw [e]; exact pkv_dg h i hi))] at k
    exact k
  have key : ∀ r i, i + r = 6 → (∀ j, j < i → dg w j = bd (gi x bt) fr to j) → GI mX1_isNamed 3 [some (.ref nb), some (.int (nI cr)), some (.ref bt), some (.int (nI fr)), some (.int (nI to)), some (.int (nI i)), none] [] KW x Q := by
    intro r
    induction r with
    | zero =>
      intro i hi hj
      have : i = 6 := by omega
      subst this
      refine v_X1_isNamed_3 k1 g1 k2 kb ⟨fun _ => ?_, fun z => absurd (Int32.le_refl _) z⟩
      rw [b2i_t (dg_inj hw (pkv_lt h) (fun j hj6 => by rw [hj j hj6, pkv_dg h j hj6]))] at k
      exact k
    | succ r ih =>
      intro i hi hj
      have hd := dg_lt w i
      have ix : (nI cr * 6) + nI i = nI (6 * cr + i) := by rw [show (6 : Int32) = nI 6 by decide, pk_mul, nI_add, Nat.mul_comm]
      have i2 : nI fr + nI i = nI (fr + i) := nI_add fr i
      by_cases big : fr < 2 ^ 30
      · have hb := bd_lt h i
        refine v_X1_isNamed_3 k1 g1 k2 kb ⟨fun z => absurd z (nI_ge (b := 6) (by omega) (by decide)), fun _ => ?_⟩
        rw [ix, i2, nI_clamp (show 6 * cr + i < 2 ^ 31 by omega), nI_clamp (show fr + i < 2 ^ 31 by omega), hv i (by omega), nI_1, nI_leI (by omega) (by omega)]
        have go : dg w i = bd (gi x bt) fr to i → GI mX1_isNamed 3 [some (.ref nb), some (.int (nI cr)), some (.ref bt), some (.int (nI fr)), some (.int (nI to)), some (.int (nI (i + 1))), none] [] KW x Q := fun e => ih (i + 1) (by omega) (fun j hj' => by
          by_cases c : j = i
          · rw [c]; exact e
          · exact hj j (by omega))
        refine ⟨fun z => ⟨vp_in_nI (by omega) (by decide), fun z2 => go ?_, fun z2 => no i (by omega) ?_⟩, fun z => ⟨vp_in_nI (by omega) (by omega), vp_in_nI (by omega) (by decide), ?_⟩⟩
        · unfold bd; rw [if_neg (by omega)]; exact (nI_z (by omega)).mp z2
        · unfold bd; rw [if_neg (by omega)]; exact fun e => z2 (by rw [e]; rfl)
        · obtain ⟨m, m1, m2, m3⟩ := h (fr + i) (by omega) (by omega)
          have eb : bd (gi x bt) fr to i = m - 96 := by
            unfold bd
            rw [if_pos (by omega), m3, nI_clamp (by omega)]
          rw [m3, let_v m1 m2, nI_eq (by omega) (by omega)]
          exact ⟨fun z2 => go (by rw [eb]; exact z2), fun z2 => no i (by omega) (by rw [eb]; exact z2)⟩
      · omega
  exact v_X1_isNamed_0 (key 6 0 (by omega) (fun j hj => by omega))
end
set_option maxHeartbeats 2000000 in
theorem v_X1_carrierNamed_0 {K : Sh} {x : Cn} {Q : Int32 → Cn → Prop} {b0 : Nat} {b1 : Nat} {l2 : Int32} {l3 : Int32}   (K0 : GI mX1_carrierNamed 3 [some (.ref b0), some (.ref b1), some (.int l2), some (.int l3), some (.int 0)] [] K x Q) : mSI mX1_carrierNamed [.ref b0, .ref b1, .int l2, .int l3] K x Q := by
  refine s_I (by decide) (by simp [Value.category]) (Nat.le_of_ble_eq_true rfl) ?_
  show mGM mX1_carrierNamed 0 [some (.ref b0), some (.ref b1), some (.int l2), some (.int l3), none] [] (hp K x) (PI K Q)
  refine r_iconst (pc := 0) (v := 0) dX1_carrierNamed_0 (by decide) ?_
  refine r_istore (pc := 1) dX1_carrierNamed_1 (by decide) ?_
  exact r_le (L' := [some (.ref b0), some (.ref b1), some (.int l2), some (.int l3), some (.int 0)]) ⟨rfl, ⟨rfl, ⟨rfl, ⟨rfl, ⟨rfl, trivial⟩⟩⟩⟩⟩ K0
set_option maxHeartbeats 2000000 in
theorem v_X1_carrierNamed_3 {K : Sh} {x : Cn} {Q : Int32 → Cn → Prop} {b0 : Nat} {b1 : Nat} {l2 : Int32} {l3 : Int32} {l4 : Int32}  (k_b0 : kk K b0 = some (1, 0)) (K0 : ((gi x b0 0) ≤ l4 → (Q (-1) x)) ∧ (¬ (gi x b0 0) ≤ l4 → (mSI mX1_isNamed [.ref b0, .int l4, .ref b1, .int l2, .int l3] K x (fun r_3 y_2 => (r_3 = 0 → (GI mX1_carrierNamed 3 [some (.ref b0), some (.ref b1), some (.int l2), some (.int l3), some (.int (l4 + 1))] [] K y_2 Q)) ∧ (¬ r_3 = 0 → (Q l4 y_2)))))) : GI mX1_carrierNamed 3 [some (.ref b0), some (.ref b1), some (.int l2), some (.int l3), some (.int l4)] [] K x Q := by
  show mGM mX1_carrierNamed 3 [some (.ref b0), some (.ref b1), some (.int l2), some (.int l3), some (.int l4)] [] (hp K x) (PI K Q)
  refine r_iload (pc := 3) dX1_carrierNamed_3 rfl ?_
  refine r_aload_n (pc := 5) dX1_carrierNamed_5 rfl ?_
  refine s_getI (pc := 6) dX1_carrierNamed_6 fl_X1_9 rfl k_b0 ?_
  refine r_icmp_ge (pc := 9) (tgt := 33) dX1_carrierNamed_9 (by decide) (fun q => ?_) (fun q => ?_)
  · have K0 := K0.1 q
    refine r_iconst (pc := 33) (v := (-1)) dX1_carrierNamed_33 (by decide) ?_
    exact s_iret rfl dX1_carrierNamed_34 K0
  · have K0 := K0.2 q
    refine r_aload_n (pc := 12) dX1_carrierNamed_12 rfl ?_
    refine r_iload (pc := 13) dX1_carrierNamed_13 rfl ?_
    refine r_aload_n (pc := 15) dX1_carrierNamed_15 rfl ?_
    refine r_iload_n (pc := 16) dX1_carrierNamed_16 rfl ?_
    refine r_iload_n (pc := 17) dX1_carrierNamed_17 rfl ?_
    refine s_VI (pc := 18) mX1_isNamed (ci := 1) (a := b0) (As := [.int l4, .ref b1, .int l2, .int l3]) dX1_carrierNamed_18 lk_X1_19 in_X1_isNamed mo_X1_isNamed ⟨by decide, rfl⟩ ⟨by decide, by decide⟩ (Nat.le_of_ble_eq_true rfl) k_b0 (mSI_mono K0 (fun r_3 y_2 K0 => ?_))
    refine r_if_eq (pc := 21) (tgt := 27) dX1_carrierNamed_21 (by decide) (fun q => ?_) (fun q => ?_)
    · have K0 := K0.1 q
      refine r_iinc (pc := 27) (v := l4 + 1) dX1_carrierNamed_27 rfl rfl (by decide) ?_
      refine r_goto (pc := 30) (L := [some (.ref b0), some (.ref b1), some (.int l2), some (.int l3), some (.int (l4 + 1))]) (tgt := 3) dX1_carrierNamed_30 (by decide) ?_
      exact r_le (L' := [some (.ref b0), some (.ref b1), some (.int l2), some (.int l3), some (.int (l4 + 1))]) ⟨rfl, ⟨rfl, ⟨rfl, ⟨rfl, ⟨rfl, trivial⟩⟩⟩⟩⟩ K0
    · have K0 := K0.2 q
      refine r_iload (pc := 24) dX1_carrierNamed_24 rfl ?_
      exact s_iret rfl dX1_carrierNamed_26 K0
section
theorem sp_X1_carrierNamed {x : Cn} {Q : Int32 → Cn → Prop} {T : TT} {C nb bt nB fr to : Nat} (k1 : kk KW nb = some (1, 0)) (g1 : gr x nb 1 = some (nb + 1)) (k2 : kk KW (nb + 1) = some (20, 48)) (kb : kk KW bt = some (21, nB)) (hC : C ≤ 8) (nm : NMr x nb T C) (h : ltr (gi x bt) fr to) (hto : to ≤ nB) (hft : fr ≤ to) (hnB : nB ≤ 1200) (k : Q (fnd T C (pkv (gi x bt) fr to)) x) : mSI mX1_carrierNamed [.ref nb, .ref bt, .int (nI fr), .int (nI to)] KW x Q := by
  refine v_X1_carrierNamed_0 (lp_gen (stN T (pkv (gi x bt) fr to)) (fun _ => -1) (fun c _ => GI mX1_carrierNamed 3 [some (.ref nb), some (.ref bt), some (.int (nI fr)), some (.int (nI to)), some (.int (nI c))] [] KW x Q) (fun r => Q r x) C (fun _ q => ?_) (fun c _ hc n1 n2 => ?_) C 0 () (by omega) k)
  · exact v_X1_carrierNamed_3 k1 ⟨fun _ => q, fun z => absurd (by rw [nm.1]; exact Int32.le_refl _) z⟩
  · obtain ⟨w, ⟨hw0, hw1⟩, hw2, hw3⟩ := nm.2 c hc
    have pl := pkv_lt h
    refine v_X1_carrierNamed_3 k1 ⟨fun z => absurd (by rw [nm.1] at z; exact z) (nI_ge hc (by omega)), fun _ => sp_X1_isNamed k1 g1 k2 kb (by omega) hw1 hw3 h hto hft hnB ⟨fun z => ?_, fun z => ?_⟩⟩
    · rw [nI_1]
      refine n1 () ?_
      unfold stN
      rw [if_neg (fun e => (b2i_z _).mp z ((nI_eq (by omega) (by omega)).mp (hw2.symm.trans e)))]
    · refine n2 _ ?_
      unfold stN
      rw [if_pos (by rw [hw2, b2i_nz z])]
end
set_option maxHeartbeats 2000000 in
theorem v_X8_findName_0 {K : Sh} {x : Cn} {Q : Int32 → Cn → Prop} {b0 : Nat} {l1 : Int32}   (K0 : GI mX8_findName 2 [some (.ref b0), some (.int l1), some (.int 0)] [] K x Q) : mSI mX8_findName [.ref b0, .int l1] K x Q := by
  refine s_I (by decide) (by simp [Value.category]) (Nat.le_of_ble_eq_true rfl) ?_
  show mGM mX8_findName 0 [some (.ref b0), some (.int l1), none] [] (hp K x) (PI K Q)
  refine r_iconst (pc := 0) (v := 0) dX8_findName_0 (by decide) ?_
  refine r_istore_n (pc := 1) dX8_findName_1 (by decide) ?_
  exact r_le (L' := [some (.ref b0), some (.int l1), some (.int 0)]) ⟨rfl, ⟨rfl, ⟨rfl, trivial⟩⟩⟩ K0
set_option maxHeartbeats 2000000 in
theorem v_X8_findName_2 {K : Sh} {x : Cn} {Q : Int32 → Cn → Prop} {b0 : Nat} {l1 : Int32} {l2 : Int32} {b0_3 : Nat} {n_b0_3 : Nat} (k_b0 : kk K b0 = some (8, 0)) (g_b0_3 : gr x b0 3 = some b0_3) (k_b0_3 : kk K b0_3 = some (20, n_b0_3)) (K0 : vp_in 1 n_b0_3 ∧ (((gi x b0_3 1) ≤ l2 → (Q (-1) x)) ∧ (¬ (gi x b0_3 1) ≤ l2 → (vp_in (54 + l2) n_b0_3 ∧ ((¬ (gi x b0_3 ((54 + l2) : Int32).toNatClampNeg) = l1 → (GI mX8_findName 2 [some (.ref b0), some (.int l1), some (.int (l2 + 1))] [] K x Q)) ∧ ((gi x b0_3 ((54 + l2) : Int32).toNatClampNeg) = l1 → (Q l2 x))))))) : GI mX8_findName 2 [some (.ref b0), some (.int l1), some (.int l2)] [] K x Q := by
  show mGM mX8_findName 2 [some (.ref b0), some (.int l1), some (.int l2)] [] (hp K x) (PI K Q)
  refine r_iload_n (pc := 2) dX8_findName_2 rfl ?_
  refine r_aload_n (pc := 3) dX8_findName_3 rfl ?_
  refine s_getR (pc := 4) dX8_findName_4 fl_X8_16 rfl k_b0 g_b0_3 ?_
  refine r_iconst (pc := 7) (v := 1) dX8_findName_7 (by decide) ?_
  obtain ⟨i_1, K0⟩ := K0
  refine s_iald (pc := 8) dX8_findName_8 k_b0_3 i_1 ?_
  refine r_icmp_ge (pc := 9) (tgt := 33) dX8_findName_9 (by decide) (fun q => ?_) (fun q => ?_)
  · have K0 := K0.1 q
    refine r_iconst (pc := 33) (v := (-1)) dX8_findName_33 (by decide) ?_
    exact s_iret rfl dX8_findName_34 K0
  · have K0 := K0.2 q
    refine r_aload_n (pc := 12) dX8_findName_12 rfl ?_
    refine s_getR (pc := 13) dX8_findName_13 fl_X8_16 rfl k_b0 g_b0_3 ?_
    refine r_bipush (pc := 16) (v := 54) dX8_findName_16 (by decide) ?_
    refine r_iload_n (pc := 18) dX8_findName_18 rfl ?_
    refine r_iadd (pc := 19) dX8_findName_19 ?_
    obtain ⟨i_3, K0⟩ := K0
    refine s_iald (pc := 20) dX8_findName_20 k_b0_3 i_3 ?_
    refine r_iload_n (pc := 21) dX8_findName_21 rfl ?_
    refine r_icmp_ne (pc := 22) (tgt := 27) dX8_findName_22 (by decide) (fun q => ?_) (fun q => ?_)
    · have K0 := K0.1 q
      refine r_iinc (pc := 27) (v := l2 + 1) dX8_findName_27 rfl rfl (by decide) ?_
      refine r_goto (pc := 30) (L := [some (.ref b0), some (.int l1), some (.int (l2 + 1))]) (tgt := 2) dX8_findName_30 (by decide) ?_
      exact r_le (L' := [some (.ref b0), some (.int l1), some (.int (l2 + 1))]) ⟨rfl, ⟨rfl, ⟨rfl, trivial⟩⟩⟩ K0
    · have K0 := K0.2 q
      refine r_iload_n (pc := 25) dX8_findName_25 rfl ?_
      exact s_iret rfl dX8_findName_26 K0
section
theorem sp_X8_findName {x : Cn} {Q : Int32 → Cn → Prop} {t C v : Nat} (M : MRf x t) (ht : kk KW t = some (20, 518)) (h1 : gi x t 1 = nI C) (hC : C ≤ 8) (k : Q (fnd (gi x t) C v) x) : mSI mX8_findName [.ref 717, .int (nI v)] KW x Q := by
  refine v_X8_findName_0 (lp_gen (stN (gi x t) v) (fun _ => -1) (fun c _ => GI mX8_findName 2 [some (.ref 717), some (.int (nI v)), some (.int (nI c))] [] KW x Q) (fun r => Q r x) C (fun _ q => ?_) (fun c _ hc n1 n2 => ?_) C 0 () (by omega) k)
  · exact v_X8_findName_2 km M.2.2.1 ht ⟨v0 (k := 1) (by decide) rfl rfl, fun _ => q, fun z => absurd (by rw [h1]; exact Int32.le_refl _) z⟩
  · refine v_X8_findName_2 km M.2.2.1 ht ⟨v0 (k := 1) (by decide) rfl rfl, fun z => absurd (by rw [h1] at z; exact z) (nI_ge hc (by omega)), fun _ => ?_⟩
    rw [show (54 : Int32) + nI c = nI (54 + c) from nI_add 54 c, nI_clamp (by omega), nI_1]
    refine ⟨vp_in_nI (by omega) (by decide), fun z => n1 () ?_, fun z => n2 _ ?_⟩
    · unfold stN; rw [if_neg z]
    · unfold stN; rw [if_pos z]
end
set_option maxHeartbeats 2000000 in
theorem v_X8_packed_0 {K : Sh} {x : Cn} {Q : Int32 → Cn → Prop} {b0 : Nat} {l1 : Int32} {l2 : Int32}   (K0 : GI mX8_packed 5 [some (.ref b0), some (.int l1), some (.int l2), some (.int 0), some (.int 0)] [] K x Q) : mSI mX8_packed [.ref b0, .int l1, .int l2] K x Q := by
  refine s_I (by decide) (by simp [Value.category]) (Nat.le_of_ble_eq_true rfl) ?_
  show mGM mX8_packed 0 [some (.ref b0), some (.int l1), some (.int l2), none, none] [] (hp K x) (PI K Q)
  refine r_iconst (pc := 0) (v := 0) dX8_packed_0 (by decide) ?_
  refine r_istore_n (pc := 1) dX8_packed_1 (by decide) ?_
  refine r_iconst (pc := 2) (L := [some (.ref b0), some (.int l1), some (.int l2), some (.int 0), none]) (v := 0) dX8_packed_2 (by decide) ?_
  refine r_istore (pc := 3) dX8_packed_3 (by decide) ?_
  exact r_le (L' := [some (.ref b0), some (.int l1), some (.int l2), some (.int 0), some (.int 0)]) ⟨rfl, ⟨rfl, ⟨rfl, ⟨rfl, ⟨rfl, trivial⟩⟩⟩⟩⟩ K0
set_option maxHeartbeats 2000000 in
theorem v_X8_packed_5 {K : Sh} {x : Cn} {Q : Int32 → Cn → Prop} {b0 : Nat} {l1 : Int32} {l2 : Int32} {l3 : Int32} {l4 : Int32} {b0_4 : Nat} {n_b0_4 : Nat} (k_b0 : kk K b0 = some (8, 0)) (g_b0_4 : gr x b0 4 = some b0_4) (k_b0_4 : kk K b0_4 = some (21, n_b0_4)) (K0 : (6 ≤ l4 → (Q l3 x)) ∧ (¬ 6 ≤ l4 → ((l2 ≤ (l1 + l4) → (GI mX8_packed 5 [some (.ref b0), some (.int l1), some (.int l2), some (.int ((27 * l3) + 0)), some (.int (l4 + 1))] [] K x Q)) ∧ (¬ l2 ≤ (l1 + l4) → (vp_in (l1 + l4) n_b0_4 ∧ (∀ r_4 : Int32, r_4 = ((27 * l3) + (((gi x b0_4 ((l1 + l4) : Int32).toNatClampNeg) - 97) + 1)) → (GI mX8_packed 5 [some (.ref b0), some (.int l1), some (.int l2), some (.int r_4), some (.int (l4 + 1))] [] K x Q))))))) : GI mX8_packed 5 [some (.ref b0), some (.int l1), some (.int l2), some (.int l3), some (.int l4)] [] K x Q := by
  show mGM mX8_packed 5 [some (.ref b0), some (.int l1), some (.int l2), some (.int l3), some (.int l4)] [] (hp K x) (PI K Q)
  refine r_iload (pc := 5) dX8_packed_5 rfl ?_
  refine r_bipush (pc := 7) (v := 6) dX8_packed_7 (by decide) ?_
  refine r_icmp_ge (pc := 9) (tgt := 50) dX8_packed_9 (by decide) (fun q => ?_) (fun q => ?_)
  · have K0 := K0.1 q
    refine r_iload_n (pc := 50) dX8_packed_50 rfl ?_
    exact s_iret rfl dX8_packed_51 K0
  · have K0 := K0.2 q
    refine r_bipush (pc := 12) (v := 27) dX8_packed_12 (by decide) ?_
    refine r_iload_n (pc := 14) dX8_packed_14 rfl ?_
    refine r_imul (pc := 15) dX8_packed_15 ?_
    refine r_iload_n (pc := 16) dX8_packed_16 rfl ?_
    refine r_iload (pc := 17) dX8_packed_17 rfl ?_
    refine r_iadd (pc := 19) dX8_packed_19 ?_
    refine r_iload_n (pc := 20) dX8_packed_20 rfl ?_
    refine r_icmp_ge (pc := 21) (tgt := 41) dX8_packed_21 (by decide) (fun q => ?_) (fun q => ?_)
    · have K0 := K0.1 q
      refine r_iconst (pc := 41) (v := 0) dX8_packed_41 (by decide) ?_
      refine r_iadd (pc := 42) dX8_packed_42 ?_
      refine r_istore_n (pc := 43) dX8_packed_43 (by decide) ?_
      refine r_iinc (pc := 44) (L := [some (.ref b0), some (.int l1), some (.int l2), some (.int ((27 * l3) + 0)), some (.int l4)]) (v := l4 + 1) dX8_packed_44 rfl rfl (by decide) ?_
      refine r_goto (pc := 47) (L := [some (.ref b0), some (.int l1), some (.int l2), some (.int ((27 * l3) + 0)), some (.int (l4 + 1))]) (tgt := 5) dX8_packed_47 (by decide) ?_
      exact r_le (L' := [some (.ref b0), some (.int l1), some (.int l2), some (.int ((27 * l3) + 0)), some (.int (l4 + 1))]) ⟨rfl, ⟨rfl, ⟨rfl, ⟨rfl, ⟨rfl, trivial⟩⟩⟩⟩⟩ K0
    · have K0 := K0.2 q
      refine r_aload_n (pc := 24) dX8_packed_24 rfl ?_
      refine s_getR (pc := 25) dX8_packed_25 fl_X8_19 rfl k_b0 g_b0_4 ?_
      refine r_iload_n (pc := 28) dX8_packed_28 rfl ?_
      refine r_iload (pc := 29) dX8_packed_29 rfl ?_
      refine r_iadd (pc := 31) dX8_packed_31 ?_
      obtain ⟨i_3, K0⟩ := K0
      refine s_bald (pc := 32) dX8_packed_32 k_b0_4 i_3 ?_
      refine r_bipush (pc := 33) (v := 97) dX8_packed_33 (by decide) ?_
      refine r_isub (pc := 35) dX8_packed_35 ?_
      refine r_iconst (pc := 36) (v := 1) dX8_packed_36 (by decide) ?_
      refine r_iadd (pc := 37) dX8_packed_37 ?_
      refine r_goto (pc := 38) (tgt := 42) dX8_packed_38 (by decide) ?_
      refine r_iadd (pc := 42) dX8_packed_42 ?_
      obtain ⟨r_4, w_5⟩ : ∃ z : Int32, z = ((27 * l3) + (((gi x b0_4 ((l1 + l4) : Int32).toNatClampNeg) - 97) + 1)) := ⟨_, rfl⟩
      rw [← w_5]
      have K0 := K0 r_4 w_5
      refine r_istore_n (pc := 43) dX8_packed_43 (by decide) ?_
      refine r_iinc (pc := 44) (L := [some (.ref b0), some (.int l1), some (.int l2), some (.int r_4), some (.int l4)]) (v := l4 + 1) dX8_packed_44 rfl rfl (by decide) ?_
      refine r_goto (pc := 47) (L := [some (.ref b0), some (.int l1), some (.int l2), some (.int r_4), some (.int (l4 + 1))]) (tgt := 5) dX8_packed_47 (by decide) ?_
      exact r_le (L' := [some (.ref b0), some (.int l1), some (.int l2), some (.int r_4), some (.int (l4 + 1))]) ⟨rfl, ⟨rfl, ⟨rfl, ⟨rfl, ⟨rfl, trivial⟩⟩⟩⟩⟩ K0
section
end

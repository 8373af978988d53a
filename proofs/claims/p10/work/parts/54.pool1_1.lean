section
theorem sp_X2_longestOf {x : Cn} {Q : Int32 → Cn → Prop} {T : TT} {W C S A N : Nat} {u : Nat → Bool} {left e : Int32} (P : PLf x) (E : SEB x 118 T W C S A N) (hl : HLD x T S) (hu : ∀ a, a < A → tb left a = !(u a)) (k : Q (chR T S A u e) x) : mSI mX2_longestOf [.ref 117, .int left, .int e] KW x Q := by
  have hn := E.nums
  have hA : A ≤ 24 := hn.2.2.2.2.2.2.2.1
  have hC : C ≤ 8 := hn.2.2.2.2.2.1
  have hW : W ≤ 30 := hn.2.2.2.2.1
  have e0 : mst T (-1) = 0 := if_pos rfl
  have em : ∀ j, j < 24 → mst T (nI j) = (ao T j 5 - ao T j 4) + 1 := fun j hj => by
    unfold mst
    rw [if_neg (nI_ne1 (by omega)), nI_clamp (by omega)]
  have key := lp_acc (chS T S u e) (fun a b => (b = -1 ∨ ∃ j, j < A ∧ b = nI j) → GI mX2_longestOf 8 [some (.ref 117), some (.int left), some (.int e), some (.int b), some (.int (mst T b)), some (.int (nI a)), none, none] [] KW x Q) A (-1) ?_ (fun a b ha n1 => ?_) (Or.inl rfl)
  · rw [e0] at key
    exact v_X2_longestOf_0 key
  · intro _
    exact v_X2_longestOf_8 k117 P.1 (ks0 E.1) E.2.1.2.2.2.1 (ks4 E.1) ⟨fun _ => k, fun z => absurd (by rw [hn.2.2.2.1]; exact Int32.le_refl _) z⟩
  · intro hb
    obtain ⟨p, e1, e2, e3, w⟩ := E.ask ha
    obtain ⟨f, l, f1, f2, f3, f4⟩ := id w.2.2.2.2.1
    have len : ao T a 5 - ao T a 4 = nI (l - f) := by rw [f3, f4]; exact pk_sub (by omega)
    have lm : (ao T a 5 - ao T a 4) + 1 ≤ mst T b ↔ ¬ (b = -1 ∨ ao T b.toNatClampNeg 5 - ao T b.toNatClampNeg 4 < ao T a 5 - ao T a 4) := by
      rw [len, nI_1]
      rcases hb with rfl | ⟨j, hj, rfl⟩
      · rw [e0]
        exact ⟨fun g => absurd ((nI_leI (b := 0) (by omega) (by decide)).mp g) (by omega), fun g => absurd (Or.inl rfl) g⟩
      · obtain ⟨-, -, -, -, ⟨f', l', g1, g2, g3, g4⟩, -⟩ := E.2.2.2.2.2.2.2.2.2.2.2.2.2.2.2.2 j hj
        rw [em j (by omega), nI_clamp (by omega), g3, g4, pk_sub (by omega), nI_1, nI_leI (by omega) (by omega), nI_ltI (by omega) (by omega)]
        constructor
        · rintro h (h2 | h2)
          · exact nI_ne1 (by omega) h2
          · omega
        · intro h
          by_cases c : l - f ≤ l' - f'
          · omega
          · exact absurd (Or.inr (by omega)) h
    refine v_X2_longestOf_8 k117 P.1 (ks0 E.1) E.2.1.2.2.2.1 (ks4 E.1) ⟨fun z => absurd (by rw [hn.2.2.2.1] at z; exact z) (nI_ge ha (by omega)), fun _ => ⟨vp_in_nI (by omega) (by decide), p, by rw [nI_clamp (by omega)]; exact e1, e2, ?_⟩⟩
    rw [f_bit_tb _ (by omega), hu a ha, nI_1, e3 4 (by decide), e3 5 (by decide)]
    refine ⟨fun z => n1 b ?_ hb, fun z1 => ⟨fun z2 => n1 b ?_ hb, fun z2 => sp_X2_isEntrants P hl hC e2 e3 w ⟨fun z3 => n1 b ?_ hb, fun z3 => ?_⟩⟩⟩
    · unfold chS; rw [if_neg (fun g => z (by rw [g.1]; rfl))]
    · unfold chS; rw [if_neg (fun g => lm.mp z2 g.2.2)]
    · unfold chS; rw [if_neg (fun g => z3 g.2.1)]
    · have := n1 (nI a) (by unfold chS; rw [if_pos ⟨by simpa using z1, z3, Classical.byContradiction (fun g => z2 (lm.mpr g))⟩]) (Or.inr ⟨a, ha, rfl⟩)
      rw [em a (by omega)] at this
      exact this
end
set_option maxHeartbeats 2000000 in
theorem v_X2_chosen_0 {K : Sh} {x : Cn} {Q : Int32 → Cn → Prop} {b0 : Nat} {l1 : Int32} {l2 : Int32}  (k_b0 : kk K b0 = some (2, 0)) (K0 : mSI mX2_longestOf [.ref b0, .int l1, .int l2] K x (fun r_2 y_1 => (r_2 = (-1) → ((¬ l2 = 0 → (mSI mX2_longestOf [.ref b0, .int l1, .int 0] K y_1 (fun r_6 y_5 => Q r_6 y_5))) ∧ (l2 = 0 → (mSI mX2_longestOf [.ref b0, .int l1, .int 1] K y_1 (fun r_8 y_7 => Q r_8 y_7))))) ∧ (¬ r_2 = (-1) → (Q r_2 y_1)))) : mSI mX2_chosen [.ref b0, .int l1, .int l2] K x Q := by
  refine s_I (by decide) (by simp [Value.category]) (Nat.le_of_ble_eq_true rfl) ?_
  show mGM mX2_chosen 0 [some (.ref b0), some (.int l1), some (.int l2), none] [] (hp K x) (PI K Q)
  refine r_aload_n (pc := 0) dX2_chosen_0 rfl ?_
  refine r_iload_n (pc := 1) dX2_chosen_1 rfl ?_
  refine r_iload_n (pc := 2) dX2_chosen_2 rfl ?_
  refine s_VI (pc := 3) mX2_longestOf (ci := 2) (a := b0) (As := [.int l1, .int l2]) dX2_chosen_3 lk_X2_82 in_X2_longestOf mo_X2_longestOf ⟨by decide, rfl⟩ ⟨by decide, by decide⟩ (Nat.le_of_ble_eq_true rfl) k_b0 (mSI_mono K0 (fun r_2 y_1 K0 => ?_))
  refine r_istore_n (pc := 6) dX2_chosen_6 (by decide) ?_
  refine r_iload_n (pc := 7) (L := [some (.ref b0), some (.int l1), some (.int l2), some (.int r_2)]) dX2_chosen_7 rfl ?_
  refine r_iconst (pc := 8) (v := (-1)) dX2_chosen_8 (by decide) ?_
  refine r_icmp_eq (pc := 9) (tgt := 16) dX2_chosen_9 (by decide) (fun q => ?_) (fun q => ?_)
  · have K0 := K0.1 q
    refine r_aload_n (pc := 16) dX2_chosen_16 rfl ?_
    refine r_iload_n (pc := 17) dX2_chosen_17 rfl ?_
    refine r_iload_n (pc := 18) dX2_chosen_18 rfl ?_
    refine r_if_ne (pc := 19) (tgt := 26) dX2_chosen_19 (by decide) (fun q => ?_) (fun q => ?_)
    · have K0 := K0.1 q
      refine r_iconst (pc := 26) (v := 0) dX2_chosen_26 (by decide) ?_
      refine s_VI (pc := 27) mX2_longestOf (ci := 2) (a := b0) (As := [.int l1, .int 0]) dX2_chosen_27 lk_X2_82 in_X2_longestOf mo_X2_longestOf ⟨by decide, rfl⟩ ⟨by decide, by decide⟩ (Nat.le_of_ble_eq_true rfl) k_b0 (mSI_mono K0 (fun r_6 y_5 K0 => ?_))
      exact s_iret rfl dX2_chosen_30 K0
    · have K0 := K0.2 q
      refine r_iconst (pc := 22) (v := 1) dX2_chosen_22 (by decide) ?_
      refine r_goto (pc := 23) (tgt := 27) dX2_chosen_23 (by decide) ?_
      refine s_VI (pc := 27) mX2_longestOf (ci := 2) (a := b0) (As := [.int l1, .int 1]) dX2_chosen_27 lk_X2_82 in_X2_longestOf mo_X2_longestOf ⟨by decide, rfl⟩ ⟨by decide, by decide⟩ (Nat.le_of_ble_eq_true rfl) k_b0 (mSI_mono K0 (fun r_8 y_7 K0 => ?_))
      exact s_iret rfl dX2_chosen_30 K0
  · have K0 := K0.2 q
    refine r_iload_n (pc := 12) dX2_chosen_12 rfl ?_
    refine r_goto (pc := 13) (tgt := 30) dX2_chosen_13 (by decide) ?_
    exact s_iret rfl dX2_chosen_30 K0
section
theorem sp_X2_chosen {x : Cn} {Q : Int32 → Cn → Prop} {T : TT} {W C S A N : Nat} {u : Nat → Bool} {left e : Int32} (P : PLf x) (E : SEB x 118 T W C S A N) (hl : HLD x T S) (hu : ∀ a, a < A → tb left a = !(u a)) (k : Q (chC T S A u e) x) : mSI mX2_chosen [.ref 117, .int left, .int e] KW x Q := by
  unfold chC at k
  refine v_X2_chosen_0 k117 (sp_X2_longestOf P E hl hu ⟨fun z => ⟨fun z2 => sp_X2_longestOf P E hl hu ?_, fun z2 => sp_X2_longestOf P E hl hu ?_⟩, fun z => ?_⟩)
  · rw [if_pos z, if_neg z2] at k; exact k
  · rw [if_pos z, if_pos z2] at k; exact k
  · rw [if_neg z] at k; exact k
end
set_option maxHeartbeats 2000000 in
theorem v_X2_countSlots_0 {K : Sh} {x : Cn} {Q : Cn → Prop} {b0 : Nat}   (K0 : GV mX2_countSlots 2 [some (.ref b0), some (.int 0)] [] K x Q) : mSV mX2_countSlots [.ref b0] K x Q := by
  refine s_V (by decide) (by simp [Value.category]) (Nat.le_of_ble_eq_true rfl) ?_
  show mGM mX2_countSlots 0 [some (.ref b0), none] [] (hp K x) (PV K Q)
  refine r_iconst (pc := 0) (v := 0) dX2_countSlots_0 (by decide) ?_
  refine r_istore_n (pc := 1) dX2_countSlots_1 (by decide) ?_
  exact r_le (L' := [some (.ref b0), some (.int 0)]) ⟨rfl, ⟨rfl, trivial⟩⟩ K0
set_option maxHeartbeats 2000000 in
theorem v_X2_countSlots_2 {K : Sh} {x : Cn} {Q : Cn → Prop} {b0 : Nat} {l1 : Int32} {b0_1 : Nat} {n_b0_1 : Nat} (k_b0 : kk K b0 = some (2, 0)) (g_b0_1 : gr x b0 1 = some b0_1) (k_b0_1 : kk K b0_1 = some (20, n_b0_1)) (K0 : ((Int32.ofNat n_b0_1) ≤ l1 → (GV mX2_countSlots 26 [some (.ref b0), some (.int 0)] [] K x Q)) ∧ (¬ (Int32.ofNat n_b0_1) ≤ l1 → (vp_in l1 n_b0_1 ∧ (GV mX2_countSlots 2 [some (.ref b0), some (.int (l1 + 1))] [] K (ui x b0_1 (l1 : Int32).toNatClampNeg 0) Q)))) : GV mX2_countSlots 2 [some (.ref b0), some (.int l1)] [] K x Q := by
  show mGM mX2_countSlots 2 [some (.ref b0), some (.int l1)] [] (hp K x) (PV K Q)
  refine r_iload_n (pc := 2) dX2_countSlots_2 rfl ?_
  refine r_aload_n (pc := 3) dX2_countSlots_3 rfl ?_
  refine s_getR (pc := 4) dX2_countSlots_4 fl_X2_18 rfl k_b0 g_b0_1 ?_
  refine s_alen (pc := 7) dX2_countSlots_7 k_b0_1 (by decide) ?_
  refine r_icmp_ge (pc := 8) (tgt := 24) dX2_countSlots_8 (by decide) (fun q => ?_) (fun q => ?_)
  · have K0 := K0.1 q
    refine r_iconst (pc := 24) (v := 0) dX2_countSlots_24 (by decide) ?_
    refine r_istore_n (pc := 25) dX2_countSlots_25 (by decide) ?_
    exact r_le (L' := [some (.ref b0), some (.int 0)]) ⟨rfl, ⟨rfl, trivial⟩⟩ K0
  · have K0 := K0.2 q
    refine r_aload_n (pc := 11) dX2_countSlots_11 rfl ?_
    refine s_getR (pc := 12) dX2_countSlots_12 fl_X2_18 rfl k_b0 g_b0_1 ?_
    refine r_iload_n (pc := 15) dX2_countSlots_15 rfl ?_
    refine r_iconst (pc := 16) (v := 0) dX2_countSlots_16 (by decide) ?_
    obtain ⟨i_2, K0⟩ := K0
    refine s_iast (pc := 17) dX2_countSlots_17 k_b0_1 i_2 ?_
    refine r_iinc (pc := 18) (v := l1 + 1) dX2_countSlots_18 rfl rfl (by decide) ?_
    refine r_goto (pc := 21) (L := [some (.ref b0), some (.int (l1 + 1))]) (tgt := 2) dX2_countSlots_21 (by decide) ?_
    exact r_le (L' := [some (.ref b0), some (.int (l1 + 1))]) ⟨rfl, ⟨rfl, trivial⟩⟩ K0
set_option maxHeartbeats 2000000 in
theorem v_X2_countSlots_26 {K : Sh} {x : Cn} {Q : Cn → Prop} {b0 : Nat} {l1 : Int32} {b0_0 : Nat} {b0_1 : Nat} {b0_0_7 : Nat} {n_b0_0_7 : Nat} {n_b0_1 : Nat} (k_b0 : kk K b0 = some (2, 0)) (g_b0_0 : gr x b0 0 = some b0_0) (k_b0_0 : kk K b0_0 = some (4, 0)) (g_b0_1 : gr x b0 1 = some b0_1) (g_b0_0_7 : gr x b0_0 7 = some b0_0_7) (k_b0_0_7 : kk K b0_0_7 = some (23, n_b0_0_7)) (k_b0_1 : kk K b0_1 = some (20, n_b0_1)) (K0 : ((gi x b0_0 3) ≤ l1 → (Q x)) ∧ (¬ (gi x b0_0 3) ≤ l1 → (vp_in l1 n_b0_0_7 ∧ (∃ c_3 : Nat, gr x b0_0_7 ((l1 : Int32).toNatClampNeg) = some c_3 ∧ (kk K c_3 = some (5, 0) ∧ (vp_in (((gi x c_3 0) * 7) + (gi x c_3 1)) n_b0_1 ∧ (GV mX2_countSlots 26 [some (.ref b0), some (.int (l1 + 1))] [] K (ui x b0_1 ((((gi x c_3 0) * 7) + (gi x c_3 1)) : Int32).toNatClampNeg ((gi x b0_1 ((((gi x c_3 0) * 7) + (gi x c_3 1)) : Int32).toNatClampNeg) + 1)) Q))))))) : GV mX2_countSlots 26 [some (.ref b0), some (.int l1)] [] K x Q := by
  show mGM mX2_countSlots 26 [some (.ref b0), some (.int l1)] [] (hp K x) (PV K Q)
  refine r_iload_n (pc := 26) dX2_countSlots_26 rfl ?_
  refine r_aload_n (pc := 27) dX2_countSlots_27 rfl ?_
  refine s_getR (pc := 28) dX2_countSlots_28 fl_X2_12 rfl k_b0 g_b0_0 ?_
  refine s_getI (pc := 31) dX2_countSlots_31 fl_X2_63 rfl k_b0_0 ?_
  refine r_icmp_ge (pc := 34) (tgt := 80) dX2_countSlots_34 (by decide) (fun q => ?_) (fun q => ?_)
  · have K0 := K0.1 q
    exact s_ret rfl dX2_countSlots_80 K0
  · have K0 := K0.2 q
    refine r_aload_n (pc := 37) dX2_countSlots_37 rfl ?_
    refine s_getR (pc := 38) dX2_countSlots_38 fl_X2_18 rfl k_b0 g_b0_1 ?_
    refine r_aload_n (pc := 41) dX2_countSlots_41 rfl ?_
    refine s_getR (pc := 42) dX2_countSlots_42 fl_X2_12 rfl k_b0 g_b0_0 ?_
    refine s_getR (pc := 45) dX2_countSlots_45 fl_X2_66 rfl k_b0_0 g_b0_0_7 ?_
    refine r_iload_n (pc := 48) dX2_countSlots_48 rfl ?_
    obtain ⟨i_2, K0⟩ := K0
    obtain ⟨c_3, g_4, K0⟩ := K0
    refine s_aald (pc := 49) dX2_countSlots_49 (by decide) rfl k_b0_0_7 i_2 g_4 ?_
    obtain ⟨e_5, K0⟩ := K0
    refine s_getI (pc := 50) dX2_countSlots_50 fl_X2_70 rfl e_5 ?_
    refine r_bipush (pc := 53) (v := 7) dX2_countSlots_53 (by decide) ?_
    refine r_imul (pc := 55) dX2_countSlots_55 ?_
    refine r_aload_n (pc := 56) dX2_countSlots_56 rfl ?_
    refine s_getR (pc := 57) dX2_countSlots_57 fl_X2_12 rfl k_b0 g_b0_0 ?_
    refine s_getR (pc := 60) dX2_countSlots_60 fl_X2_66 rfl k_b0_0 g_b0_0_7 ?_
    refine r_iload_n (pc := 63) dX2_countSlots_63 rfl ?_
    refine s_aald (pc := 64) dX2_countSlots_64 (by decide) rfl k_b0_0_7 i_2 g_4 ?_
    refine s_getI (pc := 65) dX2_countSlots_65 fl_X2_75 rfl e_5 ?_
    refine r_iadd (pc := 68) dX2_countSlots_68 ?_
    refine r_dup2 (pc := 69) dX2_countSlots_69 rfl rfl ?_
    obtain ⟨i_6, K0⟩ := K0
    refine s_iald (pc := 70) dX2_countSlots_70 k_b0_1 i_6 ?_
    refine r_iconst (pc := 71) (v := 1) dX2_countSlots_71 (by decide) ?_
    refine r_iadd (pc := 72) dX2_countSlots_72 ?_
    refine s_iast (pc := 73) dX2_countSlots_73 k_b0_1 i_6 ?_
    refine r_iinc (pc := 74) (v := l1 + 1) dX2_countSlots_74 rfl rfl (by decide) ?_
    refine r_goto (pc := 77) (L := [some (.ref b0), some (.int (l1 + 1))]) (tgt := 26) dX2_countSlots_77 (by decide) ?_
    exact r_le (L' := [some (.ref b0), some (.int (l1 + 1))]) ⟨rfl, ⟨rfl, trivial⟩⟩ K0
section
end

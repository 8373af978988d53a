theorem km722 : kk KW 722 = some (20, 24) := by decide
theorem km723 : kk KW 723 = some (20, 24) := by decide
theorem km721 : kk KW 721 = some (20, 7) := by decide
theorem gi_at (x : Cn) (t k : Nat) (v : Int32) : gi (ui x t k v) t = uT (gi x t) k v := by
  funext i
  rw [gi_ui]
  unfold uT
  by_cases c : i = k
  · rw [if_pos ⟨rfl, c⟩, if_pos c]
  · rw [if_neg (fun u => c u.2), if_neg c]
set_option maxHeartbeats 2000000 in
theorem v_X8_chosen_0 {K : Sh} {x : Cn} {Q : Int32 → Cn → Prop} {b0 : Nat} {l1 : Int32}   (K0 : GI mX8_chosen 4 [some (.ref b0), some (.int l1), some (.int (-1)), some (.int 0), none] [] K x Q) : mSI mX8_chosen [.ref b0, .int l1] K x Q := by
  refine s_I (by decide) (by simp [Value.category]) (Nat.le_of_ble_eq_true rfl) ?_
  show mGM mX8_chosen 0 [some (.ref b0), some (.int l1), none, none, none] [] (hp K x) (PI K Q)
  refine r_iconst (pc := 0) (v := (-1)) dX8_chosen_0 (by decide) ?_
  refine r_istore_n (pc := 1) dX8_chosen_1 (by decide) ?_
  refine r_iconst (pc := 2) (L := [some (.ref b0), some (.int l1), some (.int (-1)), none, none]) (v := 0) dX8_chosen_2 (by decide) ?_
  refine r_istore_n (pc := 3) dX8_chosen_3 (by decide) ?_
  exact r_le (L' := [some (.ref b0), some (.int l1), some (.int (-1)), some (.int 0), none]) ⟨rfl, ⟨rfl, ⟨rfl, ⟨rfl, trivial⟩⟩⟩⟩ K0
set_option maxHeartbeats 2000000 in
theorem v_X8_chosen_4 {K : Sh} {x : Cn} {Q : Int32 → Cn → Prop} {b0 : Nat} {l1 : Int32} {l2 : Int32} {l3 : Int32} {b0_3 : Nat} {n_b0_3 : Nat} {b0_16 : Nat} {n_b0_16 : Nat} (k_b0 : kk K b0 = some (8, 0)) (g_b0_3 : gr x b0 3 = some b0_3) (k_b0_3 : kk K b0_3 = some (20, n_b0_3)) (g_b0_16 : gr x b0 16 = some b0_16) (k_b0_16 : kk K b0_16 = some (20, n_b0_16)) (K0 : vp_in 3 n_b0_3 ∧ (((gi x b0_3 3) ≤ l3 → (Q l2 x)) ∧ (¬ (gi x b0_3 3) ≤ l3 → (vp_in l3 n_b0_16 ∧ ((¬ (gi x b0_16 (l3 : Int32).toNatClampNeg) = (-1) → (GI mX8_chosen 4 [some (.ref b0), some (.int l1), some (.int l2), some (.int (l3 + 1)), none] [] K x Q)) ∧ ((gi x b0_16 (l3 : Int32).toNatClampNeg) = (-1) → ((l24 l3 n_b0_3) ∧ (mSI mX8_isEntrant [.ref b0, .int (ao (gi x b0_3) (l3 : Int32).toNatClampNeg 0), .int (ao (gi x b0_3) (l3 : Int32).toNatClampNeg 1)] K x (fun r_7 y_6 => (r_7 = l1 → ((l2 = (-1) → (GI mX8_chosen 4 [some (.ref b0), some (.int l1), some (.int l3), some (.int (l3 + 1)), none] [] K y_6 Q)) ∧ (¬ l2 = (-1) → (gr y_6 b0 3 = some b0_3 ∧ ((l24 l2 n_b0_3) ∧ ((((ao (gi y_6 b0_3) (l3 : Int32).toNatClampNeg 5) - (ao (gi y_6 b0_3) (l3 : Int32).toNatClampNeg 4)) ≤ ((ao (gi y_6 b0_3) (l2 : Int32).toNatClampNeg 5) - (ao (gi y_6 b0_3) (l2 : Int32).toNatClampNeg 4)) → (GI mX8_chosen 4 [some (.ref b0), some (.int l1), some (.int l2), some (.int (l3 + 1)), none] [] K y_6 Q)) ∧ (¬ ((ao (gi y_6 b0_3) (l3 : Int32).toNatClampNeg 5) - (ao (gi y_6 b0_3) (l3 : Int32).toNatClampNeg 4)) ≤ ((ao (gi y_6 b0_3) (l2 : Int32).toNatClampNeg 5) - (ao (gi y_6 b0_3) (l2 : Int32).toNatClampNeg 4)) → (GI mX8_chosen 4 [some (.ref b0), some (.int l1), some (.int l3), some (.int (l3 + 1)), none] [] K y_6 Q)))))))) ∧ (¬ r_7 = l1 → (GI mX8_chosen 4 [some (.ref b0), some (.int l1), some (.int l2), some (.int (l3 + 1)), none] [] K y_6 Q))))))))))) : GI mX8_chosen 4 [some (.ref b0), some (.int l1), some (.int l2), some (.int l3), none] [] K x Q := by
  show mGM mX8_chosen 4 [some (.ref b0), some (.int l1), some (.int l2), some (.int l3), none] [] (hp K x) (PI K Q)
  refine r_iload_n (pc := 4) dX8_chosen_4 rfl ?_
  refine r_aload_n (pc := 5) dX8_chosen_5 rfl ?_
  refine s_getR (pc := 6) dX8_chosen_6 fl_X8_16 rfl k_b0 g_b0_3 ?_
  refine r_iconst (pc := 9) (v := 3) dX8_chosen_9 (by decide) ?_
  obtain ⟨i_1, K0⟩ := K0
  refine s_iald (pc := 10) dX8_chosen_10 k_b0_3 i_1 ?_
  refine r_icmp_ge (pc := 11) (tgt := 105) dX8_chosen_11 (by decide) (fun q => ?_) (fun q => ?_)
  · have K0 := K0.1 q
    refine r_iload_n (pc := 105) dX8_chosen_105 rfl ?_
    exact s_iret rfl dX8_chosen_106 K0
  · have K0 := K0.2 q
    refine r_aload_n (pc := 14) dX8_chosen_14 rfl ?_
    refine s_getR (pc := 15) dX8_chosen_15 fl_X8_30 rfl k_b0 g_b0_16 ?_
    refine r_iload_n (pc := 18) dX8_chosen_18 rfl ?_
    obtain ⟨i_3, K0⟩ := K0
    refine s_iald (pc := 19) dX8_chosen_19 k_b0_16 i_3 ?_
    refine r_iconst (pc := 20) (v := (-1)) dX8_chosen_20 (by decide) ?_
    refine r_icmp_ne (pc := 21) (tgt := 99) dX8_chosen_21 (by decide) (fun q => ?_) (fun q => ?_)
    · have K0 := K0.1 q
      refine r_iinc (pc := 99) (v := l3 + 1) dX8_chosen_99 rfl rfl (by decide) ?_
      refine r_goto (pc := 102) (L := [some (.ref b0), some (.int l1), some (.int l2), some (.int (l3 + 1)), none]) (tgt := 4) dX8_chosen_102 (by decide) ?_
      exact r_le (L' := [some (.ref b0), some (.int l1), some (.int l2), some (.int (l3 + 1)), none]) ⟨rfl, ⟨rfl, ⟨rfl, ⟨rfl, trivial⟩⟩⟩⟩ K0
    · have K0 := K0.2 q
      refine r_aload_n (pc := 24) dX8_chosen_24 rfl ?_
      refine r_aload_n (pc := 25) dX8_chosen_25 rfl ?_
      refine r_iload_n (pc := 26) dX8_chosen_26 rfl ?_
      refine r_iconst (pc := 27) (v := 0) dX8_chosen_27 (by decide) ?_
      obtain ⟨p_5, K0⟩ := K0
      refine s_VI (pc := 28) mX8_ask0 (ci := 8) (a := b0) (As := [.int l3, .int 0]) dX8_chosen_28 lk_X8_284 in_X8_ask0 mo_X8_ask0 ⟨by decide, rfl⟩ ⟨by decide, by decide⟩ (Nat.le_of_ble_eq_true rfl) k_b0 (sr_X8_ask0 k_b0 g_b0_3 k_b0_3 p_5 ⟨by decide, by decide⟩ ?_)
      refine r_aload_n (pc := 31) dX8_chosen_31 rfl ?_
      refine r_iload_n (pc := 32) dX8_chosen_32 rfl ?_
      refine r_iconst (pc := 33) (v := 1) dX8_chosen_33 (by decide) ?_
      refine s_VI (pc := 34) mX8_ask0 (ci := 8) (a := b0) (As := [.int l3, .int 1]) dX8_chosen_34 lk_X8_284 in_X8_ask0 mo_X8_ask0 ⟨by decide, rfl⟩ ⟨by decide, by decide⟩ (Nat.le_of_ble_eq_true rfl) k_b0 (sr_X8_ask0 k_b0 g_b0_3 k_b0_3 p_5 ⟨by decide, by decide⟩ ?_)
      refine s_VI (pc := 37) mX8_isEntrant (ci := 8) (a := b0) (As := [.int (ao (gi x b0_3) (l3 : Int32).toNatClampNeg 0), .int (ao (gi x b0_3) (l3 : Int32).toNatClampNeg 1)]) dX8_chosen_37 lk_X8_313 in_X8_isEntrant mo_X8_isEntrant ⟨by decide, rfl⟩ ⟨by decide, by decide⟩ (Nat.le_of_ble_eq_true rfl) k_b0 (mSI_mono K0 (fun r_7 y_6 K0 => ?_))
      refine r_iload_n (pc := 40) dX8_chosen_40 rfl ?_
      refine r_icmp_eq (pc := 41) (tgt := 47) dX8_chosen_41 (by decide) (fun q => ?_) (fun q => ?_)
      · have K0 := K0.1 q
        refine r_iload_n (pc := 47) dX8_chosen_47 rfl ?_
        refine r_iconst (pc := 48) (v := (-1)) dX8_chosen_48 (by decide) ?_
        refine r_icmp_eq (pc := 49) (tgt := 81) dX8_chosen_49 (by decide) (fun q => ?_) (fun q => ?_)
        · have K0 := K0.1 q
          refine r_iconst (pc := 81) (v := 1) dX8_chosen_81 (by decide) ?_
          refine r_goto (pc := 82) (tgt := 86) dX8_chosen_82 (by decide) ?_
          refine r_istore (pc := 86) dX8_chosen_86 (by decide) ?_
          refine r_iload (pc := 88) (L := [some (.ref b0), some (.int l1), some (.int l2), some (.int l3), some (.int 1)]) dX8_chosen_88 rfl ?_
          refine r_if_eq (pc := 90) (tgt := 97) dX8_chosen_90 (by decide) (fun q => by first | exact absurd q (by decide) | exact absurd (by decide) q) (fun _ => ?_)
          refine r_iload_n (pc := 93) dX8_chosen_93 rfl ?_
          refine r_goto (pc := 94) (tgt := 98) dX8_chosen_94 (by decide) ?_
          refine r_istore_n (pc := 98) dX8_chosen_98 (by decide) ?_
          refine r_iinc (pc := 99) (L := [some (.ref b0), some (.int l1), some (.int l3), some (.int l3), some (.int 1)]) (v := l3 + 1) dX8_chosen_99 rfl rfl (by decide) ?_
          refine r_goto (pc := 102) (L := [some (.ref b0), some (.int l1), some (.int l3), some (.int (l3 + 1)), some (.int 1)]) (tgt := 4) dX8_chosen_102 (by decide) ?_
          exact r_le (L' := [some (.ref b0), some (.int l1), some (.int l3), some (.int (l3 + 1)), none]) ⟨rfl, ⟨rfl, ⟨rfl, ⟨rfl, trivial⟩⟩⟩⟩ K0
        · have K0 := K0.2 q
          refine r_aload_n (pc := 52) dX8_chosen_52 rfl ?_
          refine r_iload_n (pc := 53) dX8_chosen_53 rfl ?_
          refine r_iconst (pc := 54) (v := 5) dX8_chosen_54 (by decide) ?_
          obtain ⟨g_10, K0⟩ := K0
          refine s_VI (pc := 55) mX8_ask0 (ci := 8) (a := b0) (As := [.int l3, .int 5]) dX8_chosen_55 lk_X8_284 in_X8_ask0 mo_X8_ask0 ⟨by decide, rfl⟩ ⟨by decide, by decide⟩ (Nat.le_of_ble_eq_true rfl) k_b0 (sr_X8_ask0 k_b0 g_10 k_b0_3 p_5 ⟨by decide, by decide⟩ ?_)
          refine r_aload_n (pc := 58) dX8_chosen_58 rfl ?_
          refine r_iload_n (pc := 59) dX8_chosen_59 rfl ?_
          refine r_iconst (pc := 60) (v := 4) dX8_chosen_60 (by decide) ?_
          refine s_VI (pc := 61) mX8_ask0 (ci := 8) (a := b0) (As := [.int l3, .int 4]) dX8_chosen_61 lk_X8_284 in_X8_ask0 mo_X8_ask0 ⟨by decide, rfl⟩ ⟨by decide, by decide⟩ (Nat.le_of_ble_eq_true rfl) k_b0 (sr_X8_ask0 k_b0 g_10 k_b0_3 p_5 ⟨by decide, by decide⟩ ?_)
          refine r_isub (pc := 64) dX8_chosen_64 ?_
          refine r_aload_n (pc := 65) dX8_chosen_65 rfl ?_
          refine r_iload_n (pc := 66) dX8_chosen_66 rfl ?_
          refine r_iconst (pc := 67) (v := 5) dX8_chosen_67 (by decide) ?_
          obtain ⟨p_11, K0⟩ := K0
          refine s_VI (pc := 68) mX8_ask0 (ci := 8) (a := b0) (As := [.int l2, .int 5]) dX8_chosen_68 lk_X8_284 in_X8_ask0 mo_X8_ask0 ⟨by decide, rfl⟩ ⟨by decide, by decide⟩ (Nat.le_of_ble_eq_true rfl) k_b0 (sr_X8_ask0 k_b0 g_10 k_b0_3 p_11 ⟨by decide, by decide⟩ ?_)
          refine r_aload_n (pc := 71) dX8_chosen_71 rfl ?_
          refine r_iload_n (pc := 72) dX8_chosen_72 rfl ?_
          refine r_iconst (pc := 73) (v := 4) dX8_chosen_73 (by decide) ?_
          refine s_VI (pc := 74) mX8_ask0 (ci := 8) (a := b0) (As := [.int l2, .int 4]) dX8_chosen_74 lk_X8_284 in_X8_ask0 mo_X8_ask0 ⟨by decide, rfl⟩ ⟨by decide, by decide⟩ (Nat.le_of_ble_eq_true rfl) k_b0 (sr_X8_ask0 k_b0 g_10 k_b0_3 p_11 ⟨by decide, by decide⟩ ?_)
          refine r_isub (pc := 77) dX8_chosen_77 ?_
          refine r_icmp_le (pc := 78) (tgt := 85) dX8_chosen_78 (by decide) (fun q => ?_) (fun q => ?_)
          · have K0 := K0.1 q
            refine r_iconst (pc := 85) (v := 0) dX8_chosen_85 (by decide) ?_
            refine r_istore (pc := 86) dX8_chosen_86 (by decide) ?_
            refine r_iload (pc := 88) (L := [some (.ref b0), some (.int l1), some (.int l2), some (.int l3), some (.int 0)]) dX8_chosen_88 rfl ?_
            refine r_if_eq (pc := 90) (tgt := 97) dX8_chosen_90 (by decide) (fun _ => ?_) (fun q => by first | exact absurd q (by decide) | exact absurd (by decide) q)
            refine r_iload_n (pc := 97) dX8_chosen_97 rfl ?_
            refine r_istore_n (pc := 98) dX8_chosen_98 (by decide) ?_
            refine r_iinc (pc := 99) (L := [some (.ref b0), some (.int l1), some (.int l2), some (.int l3), some (.int 0)]) (v := l3 + 1) dX8_chosen_99 rfl rfl (by decide) ?_
            refine r_goto (pc := 102) (L := [some (.ref b0), some (.int l1), some (.int l2), some (.int (l3 + 1)), some (.int 0)]) (tgt := 4) dX8_chosen_102 (by decide) ?_
            exact r_le (L' := [some (.ref b0), some (.int l1), some (.int l2), some (.int (l3 + 1)), none]) ⟨rfl, ⟨rfl, ⟨rfl, ⟨rfl, trivial⟩⟩⟩⟩ K0
          · have K0 := K0.2 q
            refine r_iconst (pc := 81) (v := 1) dX8_chosen_81 (by decide) ?_
            refine r_goto (pc := 82) (tgt := 86) dX8_chosen_82 (by decide) ?_
            refine r_istore (pc := 86) dX8_chosen_86 (by decide) ?_
            refine r_iload (pc := 88) (L := [some (.ref b0), some (.int l1), some (.int l2), some (.int l3), some (.int 1)]) dX8_chosen_88 rfl ?_
            refine r_if_eq (pc := 90) (tgt := 97) dX8_chosen_90 (by decide) (fun q => by first | exact absurd q (by decide) | exact absurd (by decide) q) (fun _ => ?_)
            refine r_iload_n (pc := 93) dX8_chosen_93 rfl ?_
            refine r_goto (pc := 94) (tgt := 98) dX8_chosen_94 (by decide) ?_
            refine r_istore_n (pc := 98) dX8_chosen_98 (by decide) ?_
            refine r_iinc (pc := 99) (L := [some (.ref b0), some (.int l1), some (.int l3), some (.int l3), some (.int 1)]) (v := l3 + 1) dX8_chosen_99 rfl rfl (by decide) ?_
            refine r_goto (pc := 102) (L := [some (.ref b0), some (.int l1), some (.int l3), some (.int (l3 + 1)), some (.int 1)]) (tgt := 4) dX8_chosen_102 (by decide) ?_
            exact r_le (L' := [some (.ref b0), some (.int l1), some (.int l3), some (.int (l3 + 1)), none]) ⟨rfl, ⟨rfl, ⟨rfl, ⟨rfl, trivial⟩⟩⟩⟩ K0
      · have K0 := K0.2 q
        refine r_goto (pc := 44) (tgt := 99) dX8_chosen_44 (by decide) ?_
        refine r_iinc (pc := 99) (v := l3 + 1) dX8_chosen_99 rfl rfl (by decide) ?_
        refine r_goto (pc := 102) (L := [some (.ref b0), some (.int l1), some (.int l2), some (.int (l3 + 1)), none]) (tgt := 4) dX8_chosen_102 (by decide) ?_
        exact r_le (L' := [some (.ref b0), some (.int l1), some (.int l2), some (.int (l3 + 1)), none]) ⟨rfl, ⟨rfl, ⟨rfl, ⟨rfl, trivial⟩⟩⟩⟩ K0
section
theorem sp_X8_chosen {x : Cn} {Q : Int32 → Cn → Prop} {t : Nat} {W C S A N : Nat} {e : Int32} {tn : TT} (M : MRf x t) (ht : kk KW t = some (20, 518)) (F : WFB (gi x t) W C S A N) (hu : ∀ a, a < 24 → gi x 722 a = tn a) (k : Q (chR (gi x t) S A (usd tn) e) x) : mSI mX8_chosen [.ref 717, .int e] KW x Q := by
  have hA : A ≤ 24 := F.2.2.2.2.2.2.2.2.1
  have hS : S ≤ 24 := F.2.2.2.2.2.2.1
  have hW : W ≤ 30 := F.2.2.1
  have t3 : gi x t 3 = nI A := F.2.2.2.2.2.2.2.1
  refine v_X8_chosen_0 (lp_acc (chS (gi x t) S (usd tn) e) (fun a b => (b = -1 ∨ ∃ j, j < A ∧ b = nI j) → GI mX8_chosen 4 [some (.ref 717), some (.int e), some (.int b), some (.int (nI a)), none] [] KW x Q) A (-1) ?_ (fun a b ha n1 => ?_) (Or.inl rfl))
  · intro _
    exact v_X8_chosen_4 km M.2.2.1 ht M.2.2.2.2.2.1 km722 ⟨v0 (k := 3) (by decide) rfl rfl, fun _ => k, fun z => absurd (by rw [t3]; exact Int32.le_refl _) z⟩
  · intro hb
    obtain ⟨-, ⟨d, hd, ed⟩, -⟩ := F.2.2.2.2.2.2.2.2.2.2.2.2.2 a ha
    refine v_X8_chosen_4 km M.2.2.1 ht M.2.2.2.2.2.1 km722 ⟨v0 (k := 3) (by decide) rfl rfl, fun z => absurd (by rw [t3] at z; exact z) (nI_ge ha (by omega)), fun _ => ⟨vp_in_nI (by omega) (by decide), ?_⟩⟩
    rw [nI_clamp (by omega), hu a (by omega), nI_1]
    refine ⟨fun z => n1 b ?_ hb, fun z1 => ⟨l24_nI (by omega) rfl, ?_⟩⟩
    · unfold chS; rw [if_neg (fun g => z (usd_f.mp g.1))]
    · refine sp_X8_isEntrant M ht F.2.2.2.2.2.1 hS (by rw [ed]; exact nI_ne1 (by omega)) ?_
      have ee : b2i (accT (inc (fun s => so (gi x t) s 0 = ao (gi x t) a 0 ∧ (ao (gi x t) a 1 = -1 ∨ so (gi x t) s 1 = ao (gi x t) a 1))) S 0 < 2) = b2i (ent (gi x t) S a) := rfl
      rw [ee]
      refine ⟨fun z2 => ⟨fun z3 => n1 (nI a) ?_ (Or.inr ⟨a, ha, rfl⟩), fun z3 => ?_⟩, fun z2 => n1 b ?_ hb⟩
      · unfold chS; rw [if_pos ⟨usd_f.mpr z1, z2, Or.inl z3⟩]
      · rcases hb with g | ⟨j, hj, rfl⟩
        · exact absurd g z3
        · refine ⟨M.2.2.1, l24_nI (by omega) rfl, fun z4 => n1 (nI j) ?_ (Or.inr ⟨j, hj, rfl⟩), fun z4 => n1 (nI a) ?_ (Or.inr ⟨a, ha, rfl⟩)⟩
          · unfold chS; rw [if_neg (fun g => g.2.2.elim z3 (fun g2 => Int32.not_le.mpr g2 z4))]
          · unfold chS; rw [if_pos ⟨usd_f.mpr z1, z2, Or.inr (Int32.not_le.mp z4)⟩]
      · unfold chS; rw [if_neg (fun g => z2 g.2.1)]
end
set_option maxHeartbeats 2000000 in
theorem v_X8_begins_0 {K : Sh} {x : Cn} {Q : Cn → Prop} {b0 : Nat}  (k_b0 : kk K b0 = some (8, 0)) (K0 : GV mX8_begins 7 [some (.ref b0), some (.int 0)] [] K (ui x b0 18 0) Q) : mSV mX8_begins [.ref b0] K x Q := by
  refine s_V (by decide) (by simp [Value.category]) (Nat.le_of_ble_eq_true rfl) ?_
  show mGM mX8_begins 0 [some (.ref b0), none] [] (hp K x) (PV K Q)
  refine r_aload_n (pc := 0) dX8_begins_0 rfl ?_
  refine r_iconst (pc := 1) (v := 0) dX8_begins_1 (by decide) ?_
  refine s_putI (pc := 2) dX8_begins_2 fl_X8_335 rfl rfl k_b0 ?_
  refine r_iconst (pc := 5) (v := 0) dX8_begins_5 (by decide) ?_
  refine r_istore_n (pc := 6) dX8_begins_6 (by decide) ?_
  exact r_le (L' := [some (.ref b0), some (.int 0)]) ⟨rfl, ⟨rfl, trivial⟩⟩ K0
set_option maxHeartbeats 2000000 in
theorem v_X8_begins_7 {K : Sh} {x : Cn} {Q : Cn → Prop} {b0 : Nat} {l1 : Int32} {b0_16 : Nat} {n_b0_16 : Nat} {b0_17 : Nat} {n_b0_17 : Nat} (k_b0 : kk K b0 = some (8, 0)) (g_b0_16 : gr x b0 16 = some b0_16) (k_b0_16 : kk K b0_16 = some (20, n_b0_16)) (g_b0_17 : gr x b0 17 = some b0_17) (k_b0_17 : kk K b0_17 = some (20, n_b0_17)) (K0 : (24 ≤ l1 → (Q x)) ∧ (¬ 24 ≤ l1 → (vp_in l1 n_b0_16 ∧ (vp_in l1 n_b0_17 ∧ (GV mX8_begins 7 [some (.ref b0), some (.int (l1 + 1))] [] K (ui (ui x b0_16 (l1 : Int32).toNatClampNeg (-1)) b0_17 (l1 : Int32).toNatClampNeg (-1)) Q))))) : GV mX8_begins 7 [some (.ref b0), some (.int l1)] [] K x Q := by
  show mGM mX8_begins 7 [some (.ref b0), some (.int l1)] [] (hp K x) (PV K Q)
  refine r_iload_n (pc := 7) dX8_begins_7 rfl ?_
  refine r_bipush (pc := 8) (v := 24) dX8_begins_8 (by decide) ?_
  refine r_icmp_ge (pc := 10) (tgt := 33) dX8_begins_10 (by decide) (fun q => ?_) (fun q => ?_)
  · have K0 := K0.1 q
    exact s_ret rfl dX8_begins_33 K0
  · have K0 := K0.2 q
    refine r_aload_n (pc := 13) dX8_begins_13 rfl ?_
    refine s_getR (pc := 14) dX8_begins_14 fl_X8_30 rfl k_b0 g_b0_16 ?_
    refine r_iload_n (pc := 17) dX8_begins_17 rfl ?_
    refine r_iconst (pc := 18) (v := (-1)) dX8_begins_18 (by decide) ?_
    obtain ⟨i_2, K0⟩ := K0
    refine s_iast (pc := 19) dX8_begins_19 k_b0_16 i_2 ?_
    refine r_aload_n (pc := 20) dX8_begins_20 rfl ?_
    refine s_getR (pc := 21) dX8_begins_21 fl_X8_33 rfl k_b0 g_b0_17 ?_
    refine r_iload_n (pc := 24) dX8_begins_24 rfl ?_
    refine r_iconst (pc := 25) (v := (-1)) dX8_begins_25 (by decide) ?_
    obtain ⟨i_3, K0⟩ := K0
    refine s_iast (pc := 26) dX8_begins_26 k_b0_17 i_3 ?_
    refine r_iinc (pc := 27) (v := l1 + 1) dX8_begins_27 rfl rfl (by decide) ?_
    refine r_goto (pc := 30) (L := [some (.ref b0), some (.int (l1 + 1))]) (tgt := 7) dX8_begins_30 (by decide) ?_
    exact r_le (L' := [some (.ref b0), some (.int (l1 + 1))]) ⟨rfl, ⟨rfl, trivial⟩⟩ K0
section
theorem sp_X8_begins {x : Cn} {Q : Cn → Prop} {t : Nat} (M : MRf x t) (k : ∀ y : Cn, y.2 = x.2 → (∀ a j, a ≠ 722 → a ≠ 723 → ¬ (a = 717 ∧ j = 18) → gi y a j = gi x a j) → gi y 717 18 = nI 0 → (∀ a, a < 24 → gi y 722 a = -1 ∧ gi y 723 a = -1) → Q y) : mSV mX8_begins [.ref 717] KW x Q := by
  have key : ∀ c m y, m + c = 24 → y.2 = x.2 → (∀ a j, a ≠ 722 → a ≠ 723 → ¬ (a = 717 ∧ j = 18) → gi y a j = gi x a j) → gi y 717 18 = nI 0 → (∀ a, a < m → gi y 722 a = -1 ∧ gi y 723 a = -1) → GV mX8_begins 7 [some (.ref 717), some (.int (nI m))] [] KW y Q := by
    intro c
    induction c with
    | zero =>
      intro m y hm y1 y2 y3 y4
      have : m = 24 := by omega
      subst this
      have M2 := M.keep y1
      exact v_X8_begins_7 km M2.2.2.2.2.2.1 km722 M2.2.2.2.2.2.2.1 km723 ⟨fun _ => k y y1 y2 y3 y4, fun z => absurd (Int32.le_refl _) z⟩
    | succ c ih =>
      intro m y hm y1 y2 y3 y4
      have M2 := M.keep y1
      refine v_X8_begins_7 km M2.2.2.2.2.2.1 km722 M2.2.2.2.2.2.2.1 km723 ⟨fun z => absurd z (nI_ge (b := 24) (by omega) (by decide)), fun _ => ⟨vp_in_nI (by omega) (by decide), vp_in_nI (by omega) (by decide), ?_⟩⟩
      rw [nI_1, nI_clamp (by omega)]
      refine ih (m + 1) _ (by omega) y1 (fun a j a1 a2 a3 => by rw [gi_ui, if_neg (fun u => a2 u.1), gi_ui, if_neg (fun u => a1 u.1)]; exact y2 a j a1 a2 a3) (by rw [gi_ui, if_neg (by omega), gi_ui, if_neg (by omega)]; exact y3) (fun a ha => ?_)
      rw [gi_ui, if_neg (by omega), gi_ui, gi_ui]
      by_cases c1 : a = m
      · rw [if_pos ⟨rfl, c1⟩, if_pos ⟨rfl, c1⟩]; exact ⟨rfl, rfl⟩
      · rw [if_neg (fun u => c1 u.2), if_neg (fun u => c1 u.2), gi_ui, if_neg (by omega)]; exact y4 a (by omega)
  exact v_X8_begins_0 km (key 24 0 _ (by omega) rfl (fun a j a1 a2 a3 => by rw [gi_ui, if_neg a3]) (by rw [gi_ui, if_pos ⟨rfl, rfl⟩]; rfl) (fun a ha => by omega))
/-- what addsSeries lays -/
def adf (x : Cn) (hr wk fi nw : Int32) (k : Nat) : Int32 := if k = 0 then gi x 721 0 else if k = 1 then gi x 721 1 else if k = 2 then hr else if k = 3 then gi x 721 3 else if k = 4 then (if nw = 0 then 0 else 1) else if k = 5 then fi else if k = 6 then gi x 721 5 else if k = 7 then wk else 0
end
set_option maxHeartbeats 2000000 in
theorem v_X8_addsSeries_0 {K : Sh} {x : Cn} {Q : Cn → Prop} {b0 : Nat} {l1 : Int32} {l2 : Int32} {l3 : Int32} {l4 : Int32} {b0_3 : Nat} {n_b0_3 : Nat} (k_b0 : kk K b0 = some (8, 0)) (g_b0_3 : gr x b0 3 = some b0_3) (k_b0_3 : kk K b0_3 = some (20, n_b0_3)) (K0 : vp_in 2 n_b0_3 ∧ (GV mX8_addsSeries 11 [some (.ref b0), some (.int l1), some (.int l2), some (.int l3), some (.int l4), some (.int (gi x b0_3 2)), some (.int 0)] [] K x Q)) : mSV mX8_addsSeries [.ref b0, .int l1, .int l2, .int l3, .int l4] K x Q := by
  refine s_V (by decide) (by simp [Value.category]) (Nat.le_of_ble_eq_true rfl) ?_
  show mGM mX8_addsSeries 0 [some (.ref b0), some (.int l1), some (.int l2), some (.int l3), some (.int l4), none, none] [] (hp K x) (PV K Q)
  refine r_aload_n (pc := 0) dX8_addsSeries_0 rfl ?_
  refine s_getR (pc := 1) dX8_addsSeries_1 fl_X8_16 rfl k_b0 g_b0_3 ?_
  refine r_iconst (pc := 4) (v := 2) dX8_addsSeries_4 (by decide) ?_
  obtain ⟨i_1, K0⟩ := K0
  refine s_iald (pc := 5) dX8_addsSeries_5 k_b0_3 i_1 ?_
  refine r_istore (pc := 6) dX8_addsSeries_6 (by decide) ?_
  refine r_iconst (pc := 8) (L := [some (.ref b0), some (.int l1), some (.int l2), some (.int l3), some (.int l4), some (.int (gi x b0_3 2)), none]) (v := 0) dX8_addsSeries_8 (by decide) ?_
  refine r_istore (pc := 9) dX8_addsSeries_9 (by decide) ?_
  exact r_le (L' := [some (.ref b0), some (.int l1), some (.int l2), some (.int l3), some (.int l4), some (.int (gi x b0_3 2)), some (.int 0)]) ⟨rfl, ⟨rfl, ⟨rfl, ⟨rfl, ⟨rfl, ⟨rfl, ⟨rfl, trivial⟩⟩⟩⟩⟩⟩⟩ K0
set_option maxHeartbeats 2000000 in
theorem v_X8_addsSeries_11 {K : Sh} {x : Cn} {Q : Cn → Prop} {b0 : Nat} {l1 : Int32} {l2 : Int32} {l3 : Int32} {l4 : Int32} {l5 : Int32} {l6 : Int32} {b0_15 : Nat} {n_b0_15 : Nat} (k_b0 : kk K b0 = some (8, 0)) (g_b0_15 : gr x b0 15 = some b0_15) (k_b0_15 : kk K b0_15 = some (20, n_b0_15)) (K0 : (12 ≤ l6 → (vp_in 0 n_b0_15 ∧ (mSV mX8_lays [.ref b0, .int l5, .int 0, .int (gi x b0_15 0)] K x (fun y_3 => gr y_3 b0 15 = some b0_15 ∧ (vp_in 1 n_b0_15 ∧ (mSV mX8_lays [.ref b0, .int l5, .int 1, .int (gi y_3 b0_15 1)] K y_3 (fun y_6 => mSV mX8_lays [.ref b0, .int l5, .int 2, .int l1] K y_6 (fun y_7 => gr y_7 b0 15 = some b0_15 ∧ (vp_in 3 n_b0_15 ∧ (mSV mX8_lays [.ref b0, .int l5, .int 3, .int (gi y_7 b0_15 3)] K y_7 (fun y_10 => (l4 = 0 → (mSV mX8_lays [.ref b0, .int l5, .int 4, .int 0] K y_10 (fun y_12 => mSV mX8_lays [.ref b0, .int l5, .int 5, .int l3] K y_12 (fun y_13 => gr y_13 b0 15 = some b0_15 ∧ (vp_in 5 n_b0_15 ∧ (mSV mX8_lays [.ref b0, .int l5, .int 6, .int (gi y_13 b0_15 5)] K y_13 (fun y_16 => mSV mX8_lays [.ref b0, .int l5, .int 7, .int l2] K y_16 (fun y_17 => ∃ c_18 : Nat, gr y_17 b0 3 = some c_18 ∧ (∃ n_21 : Nat, kk K c_18 = some (20, n_21) ∧ (vp_in 2 n_21 ∧ (Q (ui y_17 c_18 2 ((gi y_17 c_18 2) + 1))))))))))))) ∧ (¬ l4 = 0 → (mSV mX8_lays [.ref b0, .int l5, .int 4, .int 1] K y_10 (fun y_23 => mSV mX8_lays [.ref b0, .int l5, .int 5, .int l3] K y_23 (fun y_24 => gr y_24 b0 15 = some b0_15 ∧ (vp_in 5 n_b0_15 ∧ (mSV mX8_lays [.ref b0, .int l5, .int 6, .int (gi y_24 b0_15 5)] K y_24 (fun y_27 => mSV mX8_lays [.ref b0, .int l5, .int 7, .int l2] K y_27 (fun y_28 => ∃ c_29 : Nat, gr y_28 b0 3 = some c_29 ∧ (∃ n_32 : Nat, kk K c_29 = some (20, n_32) ∧ (vp_in 2 n_32 ∧ (Q (ui y_28 c_29 2 ((gi y_28 c_29 2) + 1)))))))))))))))))))))))) ∧ (¬ 12 ≤ l6 → (mSV mX8_lays [.ref b0, .int l5, .int l6, .int 0] K x (fun y_34 => GV mX8_addsSeries 11 [some (.ref b0), some (.int l1), some (.int l2), some (.int l3), some (.int l4), some (.int l5), some (.int (l6 + 1))] [] K y_34 Q)))) : GV mX8_addsSeries 11 [some (.ref b0), some (.int l1), some (.int l2), some (.int l3), some (.int l4), some (.int l5), some (.int l6)] [] K x Q := by
  show mGM mX8_addsSeries 11 [some (.ref b0), some (.int l1), some (.int l2), some (.int l3), some (.int l4), some (.int l5), some (.int l6)] [] (hp K x) (PV K Q)
  refine r_iload (pc := 11) dX8_addsSeries_11 rfl ?_
  refine r_bipush (pc := 13) (v := 12) dX8_addsSeries_13 (by decide) ?_
  refine r_icmp_ge (pc := 15) (tgt := 33) dX8_addsSeries_15 (by decide) (fun q => ?_) (fun q => ?_)
  · have K0 := K0.1 q
    refine r_aload_n (pc := 33) dX8_addsSeries_33 rfl ?_
    refine r_iload (pc := 34) dX8_addsSeries_34 rfl ?_
    refine r_iconst (pc := 36) (v := 0) dX8_addsSeries_36 (by decide) ?_
    refine r_aload_n (pc := 37) dX8_addsSeries_37 rfl ?_
    refine s_getR (pc := 38) dX8_addsSeries_38 fl_X8_27 rfl k_b0 g_b0_15 ?_
    refine r_iconst (pc := 41) (v := 0) dX8_addsSeries_41 (by decide) ?_
    obtain ⟨i_2, K0⟩ := K0
    refine s_iald (pc := 42) dX8_addsSeries_42 k_b0_15 i_2 ?_
    refine s_VV (pc := 43) mX8_lays (ci := 8) (a := b0) (As := [.int l5, .int 0, .int (gi x b0_15 0)]) dX8_addsSeries_43 lk_X8_230 in_X8_lays mo_X8_lays ⟨by decide, rfl⟩ ⟨by decide, by decide⟩ (Nat.le_of_ble_eq_true rfl) k_b0 (mSV_mono K0 (fun y_3 K0 => ?_))
    refine r_aload_n (pc := 46) dX8_addsSeries_46 rfl ?_
    refine r_iload (pc := 47) dX8_addsSeries_47 rfl ?_
    refine r_iconst (pc := 49) (v := 1) dX8_addsSeries_49 (by decide) ?_
    refine r_aload_n (pc := 50) dX8_addsSeries_50 rfl ?_
    obtain ⟨g_4, K0⟩ := K0
    refine s_getR (pc := 51) dX8_addsSeries_51 fl_X8_27 rfl k_b0 g_4 ?_
    refine r_iconst (pc := 54) (v := 1) dX8_addsSeries_54 (by decide) ?_
    obtain ⟨i_5, K0⟩ := K0
    refine s_iald (pc := 55) dX8_addsSeries_55 k_b0_15 i_5 ?_
    refine s_VV (pc := 56) mX8_lays (ci := 8) (a := b0) (As := [.int l5, .int 1, .int (gi y_3 b0_15 1)]) dX8_addsSeries_56 lk_X8_230 in_X8_lays mo_X8_lays ⟨by decide, rfl⟩ ⟨by decide, by decide⟩ (Nat.le_of_ble_eq_true rfl) k_b0 (mSV_mono K0 (fun y_6 K0 => ?_))
    refine r_aload_n (pc := 59) dX8_addsSeries_59 rfl ?_
    refine r_iload (pc := 60) dX8_addsSeries_60 rfl ?_
    refine r_iconst (pc := 62) (v := 2) dX8_addsSeries_62 (by decide) ?_
    refine r_iload_n (pc := 63) dX8_addsSeries_63 rfl ?_
    refine s_VV (pc := 64) mX8_lays (ci := 8) (a := b0) (As := [.int l5, .int 2, .int l1]) dX8_addsSeries_64 lk_X8_230 in_X8_lays mo_X8_lays ⟨by decide, rfl⟩ ⟨by decide, by decide⟩ (Nat.le_of_ble_eq_true rfl) k_b0 (mSV_mono K0 (fun y_7 K0 => ?_))
    refine r_aload_n (pc := 67) dX8_addsSeries_67 rfl ?_
    refine r_iload (pc := 68) dX8_addsSeries_68 rfl ?_
    refine r_iconst (pc := 70) (v := 3) dX8_addsSeries_70 (by decide) ?_
    refine r_aload_n (pc := 71) dX8_addsSeries_71 rfl ?_
    obtain ⟨g_8, K0⟩ := K0
    refine s_getR (pc := 72) dX8_addsSeries_72 fl_X8_27 rfl k_b0 g_8 ?_
    refine r_iconst (pc := 75) (v := 3) dX8_addsSeries_75 (by decide) ?_
    obtain ⟨i_9, K0⟩ := K0
    refine s_iald (pc := 76) dX8_addsSeries_76 k_b0_15 i_9 ?_
    refine s_VV (pc := 77) mX8_lays (ci := 8) (a := b0) (As := [.int l5, .int 3, .int (gi y_7 b0_15 3)]) dX8_addsSeries_77 lk_X8_230 in_X8_lays mo_X8_lays ⟨by decide, rfl⟩ ⟨by decide, by decide⟩ (Nat.le_of_ble_eq_true rfl) k_b0 (mSV_mono K0 (fun y_10 K0 => ?_))
    refine r_aload_n (pc := 80) dX8_addsSeries_80 rfl ?_
    refine r_iload (pc := 81) dX8_addsSeries_81 rfl ?_
    refine r_iconst (pc := 83) (v := 4) dX8_addsSeries_83 (by decide) ?_
    refine r_iload (pc := 84) dX8_addsSeries_84 rfl ?_
    refine r_if_eq (pc := 86) (tgt := 93) dX8_addsSeries_86 (by decide) (fun q => ?_) (fun q => ?_)
    · have K0 := K0.1 q
      refine r_iconst (pc := 93) (v := 0) dX8_addsSeries_93 (by decide) ?_
      refine s_VV (pc := 94) mX8_lays (ci := 8) (a := b0) (As := [.int l5, .int 4, .int 0]) dX8_addsSeries_94 lk_X8_230 in_X8_lays mo_X8_lays ⟨by decide, rfl⟩ ⟨by decide, by decide⟩ (Nat.le_of_ble_eq_true rfl) k_b0 (mSV_mono K0 (fun y_12 K0 => ?_))
      refine r_aload_n (pc := 97) dX8_addsSeries_97 rfl ?_
      refine r_iload (pc := 98) dX8_addsSeries_98 rfl ?_
      refine r_iconst (pc := 100) (v := 5) dX8_addsSeries_100 (by decide) ?_
      refine r_iload_n (pc := 101) dX8_addsSeries_101 rfl ?_
      refine s_VV (pc := 102) mX8_lays (ci := 8) (a := b0) (As := [.int l5, .int 5, .int l3]) dX8_addsSeries_102 lk_X8_230 in_X8_lays mo_X8_lays ⟨by decide, rfl⟩ ⟨by decide, by decide⟩ (Nat.le_of_ble_eq_true rfl) k_b0 (mSV_mono K0 (fun y_13 K0 => ?_))
      refine r_aload_n (pc := 105) dX8_addsSeries_105 rfl ?_
      refine r_iload (pc := 106) dX8_addsSeries_106 rfl ?_
      refine r_bipush (pc := 108) (v := 6) dX8_addsSeries_108 (by decide) ?_
      refine r_aload_n (pc := 110) dX8_addsSeries_110 rfl ?_
      obtain ⟨g_14, K0⟩ := K0
      refine s_getR (pc := 111) dX8_addsSeries_111 fl_X8_27 rfl k_b0 g_14 ?_
      refine r_iconst (pc := 114) (v := 5) dX8_addsSeries_114 (by decide) ?_
      obtain ⟨i_15, K0⟩ := K0
      refine s_iald (pc := 115) dX8_addsSeries_115 k_b0_15 i_15 ?_
      refine s_VV (pc := 116) mX8_lays (ci := 8) (a := b0) (As := [.int l5, .int 6, .int (gi y_13 b0_15 5)]) dX8_addsSeries_116 lk_X8_230 in_X8_lays mo_X8_lays ⟨by decide, rfl⟩ ⟨by decide, by decide⟩ (Nat.le_of_ble_eq_true rfl) k_b0 (mSV_mono K0 (fun y_16 K0 => ?_))
      refine r_aload_n (pc := 119) dX8_addsSeries_119 rfl ?_
      refine r_iload (pc := 120) dX8_addsSeries_120 rfl ?_
      refine r_bipush (pc := 122) (v := 7) dX8_addsSeries_122 (by decide) ?_
      refine r_iload_n (pc := 124) dX8_addsSeries_124 rfl ?_
      refine s_VV (pc := 125) mX8_lays (ci := 8) (a := b0) (As := [.int l5, .int 7, .int l2]) dX8_addsSeries_125 lk_X8_230 in_X8_lays mo_X8_lays ⟨by decide, rfl⟩ ⟨by decide, by decide⟩ (Nat.le_of_ble_eq_true rfl) k_b0 (mSV_mono K0 (fun y_17 K0 => ?_))
      refine r_aload_n (pc := 128) dX8_addsSeries_128 rfl ?_
      obtain ⟨c_18, g_19, K0⟩ := K0
      refine s_getR (pc := 129) dX8_addsSeries_129 fl_X8_16 rfl k_b0 g_19 ?_
      refine r_iconst (pc := 132) (v := 2) dX8_addsSeries_132 (by decide) ?_
      refine r_dup2 (pc := 133) dX8_addsSeries_133 rfl rfl ?_
      obtain ⟨n_21, e_20, K0⟩ := K0
      obtain ⟨i_22, K0⟩ := K0
      refine s_iald (pc := 134) dX8_addsSeries_134 e_20 i_22 ?_
      refine r_iconst (pc := 135) (v := 1) dX8_addsSeries_135 (by decide) ?_
      refine r_iadd (pc := 136) dX8_addsSeries_136 ?_
      refine s_iast (pc := 137) dX8_addsSeries_137 e_20 i_22 ?_
      exact s_ret rfl dX8_addsSeries_138 K0
    · have K0 := K0.2 q
      refine r_iconst (pc := 89) (v := 1) dX8_addsSeries_89 (by decide) ?_
      refine r_goto (pc := 90) (tgt := 94) dX8_addsSeries_90 (by decide) ?_
      refine s_VV (pc := 94) mX8_lays (ci := 8) (a := b0) (As := [.int l5, .int 4, .int 1]) dX8_addsSeries_94 lk_X8_230 in_X8_lays mo_X8_lays ⟨by decide, rfl⟩ ⟨by decide, by decide⟩ (Nat.le_of_ble_eq_true rfl) k_b0 (mSV_mono K0 (fun y_23 K0 => ?_))
      refine r_aload_n (pc := 97) dX8_addsSeries_97 rfl ?_
      refine r_iload (pc := 98) dX8_addsSeries_98 rfl ?_
      refine r_iconst (pc := 100) (v := 5) dX8_addsSeries_100 (by decide) ?_
      refine r_iload_n (pc := 101) dX8_addsSeries_101 rfl ?_
      refine s_VV (pc := 102) mX8_lays (ci := 8) (a := b0) (As := [.int l5, .int 5, .int l3]) dX8_addsSeries_102 lk_X8_230 in_X8_lays mo_X8_lays ⟨by decide, rfl⟩ ⟨by decide, by decide⟩ (Nat.le_of_ble_eq_true rfl) k_b0 (mSV_mono K0 (fun y_24 K0 => ?_))
      refine r_aload_n (pc := 105) dX8_addsSeries_105 rfl ?_
      refine r_iload (pc := 106) dX8_addsSeries_106 rfl ?_
      refine r_bipush (pc := 108) (v := 6) dX8_addsSeries_108 (by decide) ?_
      refine r_aload_n (pc := 110) dX8_addsSeries_110 rfl ?_
      obtain ⟨g_25, K0⟩ := K0
      refine s_getR (pc := 111) dX8_addsSeries_111 fl_X8_27 rfl k_b0 g_25 ?_
      refine r_iconst (pc := 114) (v := 5) dX8_addsSeries_114 (by decide) ?_
      obtain ⟨i_26, K0⟩ := K0
      refine s_iald (pc := 115) dX8_addsSeries_115 k_b0_15 i_26 ?_
      refine s_VV (pc := 116) mX8_lays (ci := 8) (a := b0) (As := [.int l5, .int 6, .int (gi y_24 b0_15 5)]) dX8_addsSeries_116 lk_X8_230 in_X8_lays mo_X8_lays ⟨by decide, rfl⟩ ⟨by decide, by decide⟩ (Nat.le_of_ble_eq_true rfl) k_b0 (mSV_mono K0 (fun y_27 K0 => ?_))
      refine r_aload_n (pc := 119) dX8_addsSeries_119 rfl ?_
      refine r_iload (pc := 120) dX8_addsSeries_120 rfl ?_
      refine r_bipush (pc := 122) (v := 7) dX8_addsSeries_122 (by decide) ?_
      refine r_iload_n (pc := 124) dX8_addsSeries_124 rfl ?_
      refine s_VV (pc := 125) mX8_lays (ci := 8) (a := b0) (As := [.int l5, .int 7, .int l2]) dX8_addsSeries_125 lk_X8_230 in_X8_lays mo_X8_lays ⟨by decide, rfl⟩ ⟨by decide, by decide⟩ (Nat.le_of_ble_eq_true rfl) k_b0 (mSV_mono K0 (fun y_28 K0 => ?_))
      refine r_aload_n (pc := 128) dX8_addsSeries_128 rfl ?_
      obtain ⟨c_29, g_30, K0⟩ := K0
      refine s_getR (pc := 129) dX8_addsSeries_129 fl_X8_16 rfl k_b0 g_30 ?_
      refine r_iconst (pc := 132) (v := 2) dX8_addsSeries_132 (by decide) ?_
      refine r_dup2 (pc := 133) dX8_addsSeries_133 rfl rfl ?_
      obtain ⟨n_32, e_31, K0⟩ := K0
      obtain ⟨i_33, K0⟩ := K0
      refine s_iald (pc := 134) dX8_addsSeries_134 e_31 i_33 ?_
      refine r_iconst (pc := 135) (v := 1) dX8_addsSeries_135 (by decide) ?_
      refine r_iadd (pc := 136) dX8_addsSeries_136 ?_
      refine s_iast (pc := 137) dX8_addsSeries_137 e_31 i_33 ?_
      exact s_ret rfl dX8_addsSeries_138 K0
  · have K0 := K0.2 q
    refine r_aload_n (pc := 18) dX8_addsSeries_18 rfl ?_
    refine r_iload (pc := 19) dX8_addsSeries_19 rfl ?_
    refine r_iload (pc := 21) dX8_addsSeries_21 rfl ?_
    refine r_iconst (pc := 23) (v := 0) dX8_addsSeries_23 (by decide) ?_
    refine s_VV (pc := 24) mX8_lays (ci := 8) (a := b0) (As := [.int l5, .int l6, .int 0]) dX8_addsSeries_24 lk_X8_230 in_X8_lays mo_X8_lays ⟨by decide, rfl⟩ ⟨by decide, by decide⟩ (Nat.le_of_ble_eq_true rfl) k_b0 (mSV_mono K0 (fun y_34 K0 => ?_))
    refine r_iinc (pc := 27) (v := l6 + 1) dX8_addsSeries_27 rfl rfl (by decide) ?_
    refine r_goto (pc := 30) (L := [some (.ref b0), some (.int l1), some (.int l2), some (.int l3), some (.int l4), some (.int l5), some (.int (l6 + 1))]) (tgt := 11) dX8_addsSeries_30 (by decide) ?_
    exact r_le (L' := [some (.ref b0), some (.int l1), some (.int l2), some (.int l3), some (.int l4), some (.int l5), some (.int (l6 + 1))]) ⟨rfl, ⟨rfl, ⟨rfl, ⟨rfl, ⟨rfl, ⟨rfl, ⟨rfl, trivial⟩⟩⟩⟩⟩⟩⟩ K0
section
theorem sp_X8_addsSeries {x : Cn} {Q : Cn → Prop} {t S : Nat} {hr wk fi nw : Int32} (M : MRf x t) (ht : kk KW t = some (20, 518)) (ht2 : t ≠ 721) (h2 : gi x t 2 = nI S) (hS : S < 24) (k : ∀ y : Cn, y.2 = x.2 → (∀ a j, a ≠ t → gi y a j = gi x a j) → gi y t = adT (gi x t) S (adf x hr wk fi nw) → Q y) : mSV mX8_addsSeries [.ref 717, .int hr, .int wk, .int fi, .int nw] KW x Q := by
  have key : ∀ c m y, m + c = 12 → y.2 = x.2 → (∀ a j, a ≠ t → gi y a j = gi x a j) → gi y t = (fun i => if 62 + 12 * S ≤ i ∧ i < 62 + 12 * S + m then 0 else gi x t i) → GV mX8_addsSeries 11 [some (.ref 717), some (.int hr), some (.int wk), some (.int fi), some (.int nw), some (.int (nI S)), some (.int (nI m))] [] KW y Q := by
    intro c
    induction c with
    | zero =>
      intro m y hm y1 y2 y3
      have : m = 12 := by omega
      subst this
      have M2 := M.keep y1
      have r : ∀ (z : Cn), z.2 = x.2 → gr z 717 15 = some 721 := fun z hz => (M.keep hz).2.2.2.2.1
      have o : ∀ (z : Cn) i v, (∀ a j, a ≠ t → gi z a j = gi x a j) → (∀ a j, a ≠ t → gi (ui z t i v) a j = gi x a j) := fun z i v hz a j ha => by rw [gi_ui, if_neg (fun u => ha u.1)]; exact hz a j ha
      refine v_X8_addsSeries_11 km M2.2.2.2.2.1 km721 ⟨fun _ => ⟨v0 (k := 0) (by decide) rfl rfl, ?_⟩, fun z => absurd (Int32.le_refl _) z⟩
      rw [y2 721 0 (Ne.symm ht2)]
      refine sp_X8_lays (k := 0) (M.keep y1) ht hS (by decide) ⟨r _ y1, v0 (k := 1) (by decide) rfl rfl, ?_⟩
      rw [o _ _ _ y2 721 1 (Ne.symm ht2)]
      refine sp_X8_lays (k := 1) (M.keep y1) ht hS (by decide) (sp_X8_lays (k := 2) (M.keep y1) ht hS (by decide) ⟨r _ y1, v0 (k := 3) (by decide) rfl rfl, ?_⟩)
      rw [o _ _ _ (o _ _ _ (o _ _ _ y2)) 721 3 (Ne.symm ht2)]
      have fin : ∀ w, w = (if nw = 0 then (0 : Int32) else 1) → mSV mX8_lays [.ref 717, .int (nI S), .int 4, .int w] KW (ui (ui (ui (ui y t (62 + 12 * S + 0) (gi x 721 0)) t (62 + 12 * S + 1) (gi x 721 1)) t (62 + 12 * S + 2) hr) t (62 + 12 * S + 3) (gi x 721 3)) (fun y_12 => mSV mX8_lays [.ref 717, .int (nI S), .int 5, .int fi] KW y_12 (fun y_13 => gr y_13 717 15 = some 721 ∧ (vp_in 5 7 ∧ mSV mX8_lays [.ref 717, .int (nI S), .int 6, .int (gi y_13 721 5)] KW y_13 (fun y_16 => mSV mX8_lays [.ref 717, .int (nI S), .int 7, .int wk] KW y_16 (fun y_17 => ∃ c_18, gr y_17 717 3 = some c_18 ∧ ∃ n_21, kk KW c_18 = some (20, n_21) ∧ (vp_in 2 n_21 ∧ Q (ui y_17 c_18 2 (gi y_17 c_18 2 + 1)))))))) := by
        intro w hw
        refine sp_X8_lays (k := 4) (M.keep y1) ht hS (by decide) (sp_X8_lays (k := 5) (M.keep y1) ht hS (by decide) ⟨r _ y1, v0 (k := 5) (by decide) rfl rfl, ?_⟩)
        rw [o _ _ _ (o _ _ _ (o _ _ _ (o _ _ _ (o _ _ _ (o _ _ _ y2))))) 721 5 (Ne.symm ht2)]
        refine sp_X8_lays (k := 6) (M.keep y1) ht hS (by decide) (sp_X8_lays (k := 7) (M.keep y1) ht hS (by decide) ⟨t, (M.keep (show _ = x.2 from y1)).2.2.1, 518, ht, v0 (k := 2) (by decide) rfl rfl, ?_⟩)
        refine k _ y1 (o _ _ _ (o _ _ _ (o _ _ _ (o _ _ _ (o _ _ _ (o _ _ _ (o _ _ _ (o _ _ _ (o _ _ _ y2))))))))) ?_
        simp only [gi_at]
        rw [y3]
        funext i
        unfold adT adf
        by_cases c2 : i = 2
        · subst c2
          rw [uT_at, if_pos rfl]
          simp only [uT]
          rw [if_neg (by omega), if_neg (by omega), if_neg (by omega), if_neg (by omega), if_neg (by omega), if_neg (by omega), if_neg (by omega), if_neg (by omega), if_neg (by omega), h2, nI_1]
        · rw [uT_ne _ _ c2, if_neg c2]
          by_cases c3 : 62 + 12 * S ≤ i ∧ i < 74 + 12 * S
          · rw [if_pos c3]
            obtain ⟨j, rfl⟩ : ∃ j, i = 62 + 12 * S + j := ⟨i - (62 + 12 * S), by omega⟩
            have hj : j < 12 := by omega
            rw [show 62 + 12 * S + j - (62 + 12 * S) = j by omega, hw]
            rcases lt12 hj with rfl | rfl | rfl | rfl | rfl | rfl | rfl | rfl | rfl | rfl | rfl | rfl <;> simp [uT]
          · rw [if_neg c3, uT_ne _ _ (by omega), uT_ne _ _ (by omega), uT_ne _ _ (by omega), uT_ne _ _ (by omega), uT_ne _ _ (by omega), uT_ne _ _ (by omega), uT_ne _ _ (by omega), uT_ne _ _ (by omega), if_neg (by omega)]
      refine sp_X8_lays (k := 3) (M.keep y1) ht hS (by decide) ⟨fun z => fin 0 (by rw [if_pos z]), fun z => fin 1 (by rw [if_neg z])⟩
    | succ c ih =>
      intro m y hm y1 y2 y3
      have M2 := M.keep y1
      refine v_X8_addsSeries_11 km M2.2.2.2.2.1 km721 ⟨fun z => absurd z (nI_ge (b := 12) (by omega) (by decide)), fun _ => sp_X8_lays (k := m) M2 ht hS (by omega) ?_⟩
      rw [nI_1]
      refine ih (m + 1) _ (by omega) y1 (fun a j ha => by rw [gi_ui, if_neg (fun u => ha u.1)]; exact y2 a j ha) ?_
      rw [gi_at, y3]
      funext i
      show (if i = 62 + 12 * S + m then 0 else if 62 + 12 * S ≤ i ∧ i < 62 + 12 * S + m then 0 else gi x t i) = (if 62 + 12 * S ≤ i ∧ i < 62 + 12 * S + (m + 1) then 0 else gi x t i)
      by_cases c1 : i = 62 + 12 * S + m
      · rw [if_pos c1, if_pos (by omega)]
      · rw [if_neg c1]
        by_cases c2 : 62 + 12 * S ≤ i ∧ i < 62 + 12 * S + m
        · rw [if_pos c2, if_pos (show 62 + 12 * S ≤ i ∧ i < 62 + 12 * S + (m + 1) by omega)]
        · rw [if_neg c2, if_neg (show ¬ (62 + 12 * S ≤ i ∧ i < 62 + 12 * S + (m + 1)) by omega)]
  refine v_X8_addsSeries_0 km M.2.2.1 ht ⟨v0 (k := 2) (by decide) rfl rfl, ?_⟩
  rw [h2]
  exact key 12 0 x (by omega) rfl (fun _ _ _ => rfl) (by funext i; rw [if_neg (by omega)])
end
set_option maxHeartbeats 2000000 in
theorem v_X8_grants_0 {K : Sh} {x : Cn} {Q : Cn → Prop} {b0 : Nat} {l1 : Int32} {l2 : Int32}   (K0 : GV mX8_grants 2 [some (.ref b0), some (.int l1), some (.int l2), some (.int 0)] [] K x Q) : mSV mX8_grants [.ref b0, .int l1, .int l2] K x Q := by
  refine s_V (by decide) (by simp [Value.category]) (Nat.le_of_ble_eq_true rfl) ?_
  show mGM mX8_grants 0 [some (.ref b0), some (.int l1), some (.int l2), none] [] (hp K x) (PV K Q)
  refine r_iconst (pc := 0) (v := 0) dX8_grants_0 (by decide) ?_
  refine r_istore_n (pc := 1) dX8_grants_1 (by decide) ?_
  exact r_le (L' := [some (.ref b0), some (.int l1), some (.int l2), some (.int 0)]) ⟨rfl, ⟨rfl, ⟨rfl, ⟨rfl, trivial⟩⟩⟩⟩ K0
set_option maxHeartbeats 2000000 in
theorem v_X8_grants_2 {K : Sh} {x : Cn} {Q : Cn → Prop} {b0 : Nat} {l1 : Int32} {l2 : Int32} {l3 : Int32} {b0_3 : Nat} {n_b0_3 : Nat} {b0_15 : Nat} {n_b0_15 : Nat} (k_b0 : kk K b0 = some (8, 0)) (g_b0_3 : gr x b0 3 = some b0_3) (k_b0_3 : kk K b0_3 = some (20, n_b0_3)) (g_b0_15 : gr x b0 15 = some b0_15) (k_b0_15 : kk K b0_15 = some (20, n_b0_15)) (K0 : (7 ≤ l3 → ((l24 l1 n_b0_3) ∧ (vp_in 4 n_b0_3 ∧ (mSV mX8_addsSeries [.ref b0, .int l2, .int (f_span (ao (gi x b0_3) (l1 : Int32).toNatClampNeg 4) (ao (gi x b0_3) (l1 : Int32).toNatClampNeg 5) &&& f_span (gi x b0_3 4) (gi x b0_3 0 - 1)), .int (if (ao (gi x b0_3) (l1 : Int32).toNatClampNeg 4) < (gi x b0_3 4) then (gi x b0_3 4) else (ao (gi x b0_3) (l1 : Int32).toNatClampNeg 4)), .int 1] K x (fun y_4 => ∃ c_5 : Nat, gr y_4 b0 17 = some c_5 ∧ (∃ n_8 : Nat, kk K c_5 = some (20, n_8) ∧ (vp_in l1 n_8 ∧ (Q (ui y_4 c_5 (l1 : Int32).toNatClampNeg l2))))))))) ∧ (¬ 7 ≤ l3 → ((l24 l1 n_b0_3) ∧ ((l7 l3) ∧ (vp_in l3 n_b0_15 ∧ (GV mX8_grants 2 [some (.ref b0), some (.int l1), some (.int l2), some (.int (l3 + 1))] [] K (ui x b0_15 (l3 : Int32).toNatClampNeg (ao (gi x b0_3) (l1 : Int32).toNatClampNeg (l3 : Int32).toNatClampNeg)) Q)))))) : GV mX8_grants 2 [some (.ref b0), some (.int l1), some (.int l2), some (.int l3)] [] K x Q := by
  show mGM mX8_grants 2 [some (.ref b0), some (.int l1), some (.int l2), some (.int l3)] [] (hp K x) (PV K Q)
  refine r_iload_n (pc := 2) dX8_grants_2 rfl ?_
  refine r_bipush (pc := 3) (v := 7) dX8_grants_3 (by decide) ?_
  refine r_icmp_ge (pc := 5) (tgt := 26) dX8_grants_5 (by decide) (fun q => ?_) (fun q => ?_)
  · have K0 := K0.1 q
    refine r_aload_n (pc := 26) dX8_grants_26 rfl ?_
    refine r_iload_n (pc := 27) dX8_grants_27 rfl ?_
    refine r_aload_n (pc := 28) dX8_grants_28 rfl ?_
    refine r_iload_n (pc := 29) dX8_grants_29 rfl ?_
    obtain ⟨p_2, K0⟩ := K0
    refine s_VI (pc := 30) mX8_weeksOf (ci := 8) (a := b0) (As := [.int l1]) dX8_grants_30 lk_X8_326 in_X8_weeksOf mo_X8_weeksOf ⟨by decide, rfl⟩ ⟨by decide, by decide⟩ (Nat.le_of_ble_eq_true rfl) k_b0 (sr_X8_weeksOf k_b0 g_b0_3 k_b0_3 p_2 ?_)
    refine r_aload_n (pc := 33) dX8_grants_33 rfl ?_
    refine r_iload_n (pc := 34) dX8_grants_34 rfl ?_
    refine r_iconst (pc := 35) (v := 4) dX8_grants_35 (by decide) ?_
    refine s_VI (pc := 36) mX8_ask0 (ci := 8) (a := b0) (As := [.int l1, .int 4]) dX8_grants_36 lk_X8_284 in_X8_ask0 mo_X8_ask0 ⟨by decide, rfl⟩ ⟨by decide, by decide⟩ (Nat.le_of_ble_eq_true rfl) k_b0 (sr_X8_ask0 k_b0 g_b0_3 k_b0_3 p_2 ⟨by decide, by decide⟩ ?_)
    refine r_aload_n (pc := 39) dX8_grants_39 rfl ?_
    refine s_getR (pc := 40) dX8_grants_40 fl_X8_16 rfl k_b0 g_b0_3 ?_
    refine r_iconst (pc := 43) (v := 4) dX8_grants_43 (by decide) ?_
    obtain ⟨i_3, K0⟩ := K0
    refine s_iald (pc := 44) dX8_grants_44 k_b0_3 i_3 ?_
    refine r_mmax (pc := 45) dX8_grants_45 lk_X8_293 mw_max ⟨by decide, by decide⟩ (Nat.le_of_ble_eq_true rfl) ?_
    refine r_iconst (pc := 48) (v := 1) dX8_grants_48 (by decide) ?_
    refine s_VV (pc := 49) mX8_addsSeries (ci := 8) (a := b0) (As := [.int l2, .int (f_span (ao (gi x b0_3) (l1 : Int32).toNatClampNeg 4) (ao (gi x b0_3) (l1 : Int32).toNatClampNeg 5) &&& f_span (gi x b0_3 4) (gi x b0_3 0 - 1)), .int (if (ao (gi x b0_3) (l1 : Int32).toNatClampNeg 4) < (gi x b0_3 4) then (gi x b0_3 4) else (ao (gi x b0_3) (l1 : Int32).toNatClampNeg 4)), .int 1]) dX8_grants_49 lk_X8_237 in_X8_addsSeries mo_X8_addsSeries ⟨by decide, rfl⟩ ⟨by decide, by decide⟩ (Nat.le_of_ble_eq_true rfl) k_b0 (mSV_mono K0 (fun y_4 K0 => ?_))
    refine r_aload_n (pc := 52) dX8_grants_52 rfl ?_
    obtain ⟨c_5, g_6, K0⟩ := K0
    refine s_getR (pc := 53) dX8_grants_53 fl_X8_33 rfl k_b0 g_6 ?_
    refine r_iload_n (pc := 56) dX8_grants_56 rfl ?_
    refine r_iload_n (pc := 57) dX8_grants_57 rfl ?_
    obtain ⟨n_8, e_7, K0⟩ := K0
    obtain ⟨i_9, K0⟩ := K0
    refine s_iast (pc := 58) dX8_grants_58 e_7 i_9 ?_
    exact s_ret rfl dX8_grants_59 K0
  · have K0 := K0.2 q
    refine r_aload_n (pc := 8) dX8_grants_8 rfl ?_
    refine s_getR (pc := 9) dX8_grants_9 fl_X8_27 rfl k_b0 g_b0_15 ?_
    refine r_iload_n (pc := 12) dX8_grants_12 rfl ?_
    refine r_aload_n (pc := 13) dX8_grants_13 rfl ?_
    refine r_iload_n (pc := 14) dX8_grants_14 rfl ?_
    refine r_iload_n (pc := 15) dX8_grants_15 rfl ?_
    obtain ⟨p_10, K0⟩ := K0
    obtain ⟨p_11, K0⟩ := K0
    refine s_VI (pc := 16) mX8_ask0 (ci := 8) (a := b0) (As := [.int l1, .int l3]) dX8_grants_16 lk_X8_284 in_X8_ask0 mo_X8_ask0 ⟨by decide, rfl⟩ ⟨by decide, by decide⟩ (Nat.le_of_ble_eq_true rfl) k_b0 (sr_X8_ask0 k_b0 g_b0_3 k_b0_3 p_10 p_11 ?_)
    obtain ⟨i_12, K0⟩ := K0
    refine s_iast (pc := 19) dX8_grants_19 k_b0_15 i_12 ?_
    refine r_iinc (pc := 20) (v := l3 + 1) dX8_grants_20 rfl rfl (by decide) ?_
    refine r_goto (pc := 23) (L := [some (.ref b0), some (.int l1), some (.int l2), some (.int (l3 + 1))]) (tgt := 2) dX8_grants_23 (by decide) ?_
    exact r_le (L' := [some (.ref b0), some (.int l1), some (.int l2), some (.int (l3 + 1))]) ⟨rfl, ⟨rfl, ⟨rfl, ⟨rfl, trivial⟩⟩⟩⟩ K0
section
theorem sp_X8_grants {x : Cn} {Q : Cn → Prop} {t S a : Nat} {hr : Int32} (M : MRf x t) (ht : kk KW t = some (20, 518)) (ht2 : t ≠ 721) (ht3 : t ≠ 723) (h2 : gi x t 2 = nI S) (hS : S < 24) (ha : a < 24) (k : ∀ y : Cn, y.2 = x.2 → (∀ b j, b ≠ t → b ≠ 721 → b ≠ 723 → gi y b j = gi x b j) → gi y t = grT (gi x t) S a hr → (∀ b, gi y 723 b = if b = a then hr else gi x 723 b) → Q y) : mSV mX8_grants [.ref 717, .int (nI a), .int hr] KW x Q := by
  have key : ∀ c m y, m + c = 7 → EQx x y 721 → (∀ j, j < m → gi y 721 j = ao (gi x t) a j) → GV mX8_grants 2 [some (.ref 717), some (.int (nI a)), some (.int hr), some (.int (nI m))] [] KW y Q := by
    intro c
    induction c with
    | zero =>
      intro m y hm f1 f2
      have : m = 7 := by omega
      subst this
      have M2 := M.keep f1.1
      have et : gi y t = gi x t := funext (fun i => f1.2 t i ht2)
      refine v_X8_grants_2 km M2.2.2.1 ht M2.2.2.2.2.1 km721 ⟨fun _ => ⟨l24_nI ha rfl, v0 (k := 4) (by decide) rfl rfl, ?_⟩, fun z => absurd (Int32.le_refl _) z⟩
      rw [et, nI_clamp (by omega)]
      refine sp_X8_addsSeries M2 ht ht2 (by rw [et]; exact h2) hS (fun v v1 v2 v3 => ⟨723, (M2.keep v1).2.2.2.2.2.2.1, 24, km723, vp_in_nI ha (by decide), ?_⟩)
      refine k _ (v1.trans f1.1) (fun b j b1 b2 b3 => ?_) ?_ (fun b => ?_)
      · rw [gi_ui, if_neg (fun u => b3 u.1), v2 b j b1]; exact f1.2 b j b2
      · have : gi (ui v 723 a hr) t = gi v t := funext (fun i => by rw [gi_ui, if_neg (fun u => ht3 u.1)])
        rw [this, v3, et]
        unfold grT
        congr 1
        funext j
        unfold adf grf
        rw [f2 0 (by decide), f2 1 (by decide), f2 3 (by decide), f2 5 (by decide)]
        rfl
      · rw [gi_ui]
        by_cases c1 : b = a
        · rw [if_pos ⟨rfl, c1⟩, if_pos c1]
        · rw [if_neg (fun u => c1 u.2), if_neg c1, v2 723 b (Ne.symm ht3)]; exact f1.2 723 b (by decide)
    | succ c ih =>
      intro m y hm f1 f2
      have M2 := M.keep f1.1
      refine v_X8_grants_2 km M2.2.2.1 ht M2.2.2.2.2.1 km721 ⟨fun z => absurd z (nI_ge (b := 7) (by omega) (by decide)), fun _ => ⟨l24_nI ha rfl, ⟨nI_pos' (by omega), nI_lt (b := 7) (by omega) (by decide)⟩, vp_in_nI (by omega) (by decide), ?_⟩⟩
      rw [nI_1, nI_clamp (show m < 2 ^ 31 by omega), nI_clamp (show a < 2 ^ 31 by omega), show gi y t = gi x t from funext (fun i => f1.2 t i ht2)]
      refine ih (m + 1) _ (by omega) f1.ui (fun j hj => ?_)
      rw [gi_ui]
      by_cases c1 : j = m
      · rw [if_pos ⟨rfl, c1⟩, c1]
      · rw [if_neg (fun u => c1 u.2)]; exact f2 j (by omega)
  exact v_X8_grants_0 (key 7 0 x (by omega) (EQx.rf x _) (fun j hj => by omega))
/-- what is written while a pool is played, in the reference -/
def PFr (x z : Cn) : Prop := z.2 = x.2 ∧ ∀ a k, a ≠ 719 → a ≠ 721 → a ≠ 722 → a ≠ 723 → ¬ (a = 717 ∧ k = 18) → gi z a k = gi x a k
theorem PFr.rf (x : Cn) : PFr x x := ⟨rfl, fun _ _ _ _ _ _ _ => rfl⟩
theorem PFr.tr {x y z : Cn} (h : PFr x y) (g : PFr y z) : PFr x z := ⟨g.1.trans h.1, fun a k a1 a2 a3 a4 a5 => (g.2 a k a1 a2 a3 a4 a5).trans (h.2 a k a1 a2 a3 a4 a5)⟩
def PRS (z : Cn) (p : PS) (k : Nat) : Prop := MRf z 719 ∧ gi z 719 = p.1 ∧ (∀ a, a < 24 → gi z 722 a = p.2.2.1 a) ∧ (∀ a, a < 24 → gi z 723 a = p.2.2.2.1 a) ∧ gi z 717 18 = nI k
theorem fl_s (k : Nat) : fl (k + 1) = if fl k = 0 then 1 else 0 := by
  unfold fl
  by_cases c : k % 2 = 0
  · rw [if_pos c, if_neg (by omega), if_neg (by decide)]
  · rw [if_neg c, if_pos (by omega), if_pos rfl]
end
set_option maxHeartbeats 2000000 in
theorem v_X8_plays_0 {K : Sh} {x : Cn} {Q : Int32 → Cn → Prop} {b0 : Nat}  (k_b0 : kk K b0 = some (8, 0)) (K0 : mSV mX8_begins [.ref b0] K x (fun y_1 => GI mX8_plays 8 [some (.ref b0), some (.int 0), some (.int 1), none, none] [] K y_1 Q)) : mSI mX8_plays [.ref b0] K x Q := by
  refine s_I (by decide) (by simp [Value.category]) (Nat.le_of_ble_eq_true rfl) ?_
  show mGM mX8_plays 0 [some (.ref b0), none, none, none, none] [] (hp K x) (PI K Q)
  refine r_aload_n (pc := 0) dX8_plays_0 rfl ?_
  refine s_VV (pc := 1) mX8_begins (ci := 8) (a := b0) (As := []) dX8_plays_1 lk_X8_338 in_X8_begins mo_X8_begins ⟨by decide, rfl⟩ ⟨by decide, by decide⟩ (Nat.le_of_ble_eq_true rfl) k_b0 (mSV_mono K0 (fun y_1 K0 => ?_))
  refine r_iconst (pc := 4) (v := 0) dX8_plays_4 (by decide) ?_
  refine r_istore_n (pc := 5) dX8_plays_5 (by decide) ?_
  refine r_iconst (pc := 6) (L := [some (.ref b0), some (.int 0), none, none, none]) (v := 1) dX8_plays_6 (by decide) ?_
  refine r_istore_n (pc := 7) dX8_plays_7 (by decide) ?_
  exact r_le (L' := [some (.ref b0), some (.int 0), some (.int 1), none, none]) ⟨rfl, ⟨rfl, ⟨rfl, trivial⟩⟩⟩ K0
set_option maxHeartbeats 2000000 in
theorem v_X8_plays_8 {K : Sh} {x : Cn} {Q : Int32 → Cn → Prop} {b0 : Nat} {l1 : Int32} {l2 : Int32} {b0_3 : Nat} {n_b0_3 : Nat} (k_b0 : kk K b0 = some (8, 0)) (g_b0_3 : gr x b0 3 = some b0_3) (k_b0_3 : kk K b0_3 = some (20, n_b0_3)) (K0 : vp_in 3 n_b0_3 ∧ (((gi x b0_3 3) ≤ (gi x b0 18) → (Q l1 x)) ∧ (¬ (gi x b0_3 3) ≤ (gi x b0 18) → (mSI mX8_chosen [.ref b0, .int l2] K x (fun r_4 y_3 => (¬ r_4 = (-1) → (GI mX8_plays 46 [some (.ref b0), some (.int l1), some (.int l2), some (.int r_4), none] [] K y_3 Q)) ∧ (r_4 = (-1) → ((¬ l2 = 0 → (mSI mX8_chosen [.ref b0, .int 0] K y_3 (fun r_8 y_7 => GI mX8_plays 46 [some (.ref b0), some (.int l1), some (.int l2), some (.int r_8), none] [] K y_7 Q))) ∧ (l2 = 0 → (mSI mX8_chosen [.ref b0, .int 1] K y_3 (fun r_10 y_9 => GI mX8_plays 46 [some (.ref b0), some (.int l1), some (.int l2), some (.int r_10), none] [] K y_9 Q)))))))))) : GI mX8_plays 8 [some (.ref b0), some (.int l1), some (.int l2), none, none] [] K x Q := by
  show mGM mX8_plays 8 [some (.ref b0), some (.int l1), some (.int l2), none, none] [] (hp K x) (PI K Q)
  refine r_aload_n (pc := 8) dX8_plays_8 rfl ?_
  refine s_getI (pc := 9) dX8_plays_9 fl_X8_335 rfl k_b0 ?_
  refine r_aload_n (pc := 12) dX8_plays_12 rfl ?_
  refine s_getR (pc := 13) dX8_plays_13 fl_X8_16 rfl k_b0 g_b0_3 ?_
  refine r_iconst (pc := 16) (v := 3) dX8_plays_16 (by decide) ?_
  obtain ⟨i_1, K0⟩ := K0
  refine s_iald (pc := 17) dX8_plays_17 k_b0_3 i_1 ?_
  refine r_icmp_ge (pc := 18) (tgt := 105) dX8_plays_18 (by decide) (fun q => ?_) (fun q => ?_)
  · have K0 := K0.1 q
    refine r_iload_n (pc := 105) dX8_plays_105 rfl ?_
    exact s_iret rfl dX8_plays_106 K0
  · have K0 := K0.2 q
    refine r_aload_n (pc := 21) dX8_plays_21 rfl ?_
    refine r_iload_n (pc := 22) dX8_plays_22 rfl ?_
    refine s_VI (pc := 23) mX8_chosen (ci := 8) (a := b0) (As := [.int l2]) dX8_plays_23 lk_X8_341 in_X8_chosen mo_X8_chosen ⟨by decide, rfl⟩ ⟨by decide, by decide⟩ (Nat.le_of_ble_eq_true rfl) k_b0 (mSI_mono K0 (fun r_4 y_3 K0 => ?_))
    refine r_istore_n (pc := 26) dX8_plays_26 (by decide) ?_
    refine r_iload_n (pc := 27) (L := [some (.ref b0), some (.int l1), some (.int l2), some (.int r_4), none]) dX8_plays_27 rfl ?_
    refine r_iconst (pc := 28) (v := (-1)) dX8_plays_28 (by decide) ?_
    refine r_icmp_ne (pc := 29) (tgt := 46) dX8_plays_29 (by decide) (fun q => ?_) (fun q => ?_)
    · have K0 := K0.1 q
      exact r_le (L' := [some (.ref b0), some (.int l1), some (.int l2), some (.int r_4), none]) ⟨rfl, ⟨rfl, ⟨rfl, ⟨rfl, trivial⟩⟩⟩⟩ K0
    · have K0 := K0.2 q
      refine r_aload_n (pc := 32) dX8_plays_32 rfl ?_
      refine r_iload_n (pc := 33) dX8_plays_33 rfl ?_
      refine r_if_ne (pc := 34) (tgt := 41) dX8_plays_34 (by decide) (fun q => ?_) (fun q => ?_)
      · have K0 := K0.1 q
        refine r_iconst (pc := 41) (v := 0) dX8_plays_41 (by decide) ?_
        refine s_VI (pc := 42) mX8_chosen (ci := 8) (a := b0) (As := [.int 0]) dX8_plays_42 lk_X8_341 in_X8_chosen mo_X8_chosen ⟨by decide, rfl⟩ ⟨by decide, by decide⟩ (Nat.le_of_ble_eq_true rfl) k_b0 (mSI_mono K0 (fun r_8 y_7 K0 => ?_))
        refine r_istore_n (pc := 45) dX8_plays_45 (by decide) ?_
        exact r_le (L' := [some (.ref b0), some (.int l1), some (.int l2), some (.int r_8), none]) ⟨rfl, ⟨rfl, ⟨rfl, ⟨rfl, trivial⟩⟩⟩⟩ K0
      · have K0 := K0.2 q
        refine r_iconst (pc := 37) (v := 1) dX8_plays_37 (by decide) ?_
        refine r_goto (pc := 38) (tgt := 42) dX8_plays_38 (by decide) ?_
        refine s_VI (pc := 42) mX8_chosen (ci := 8) (a := b0) (As := [.int 1]) dX8_plays_42 lk_X8_341 in_X8_chosen mo_X8_chosen ⟨by decide, rfl⟩ ⟨by decide, by decide⟩ (Nat.le_of_ble_eq_true rfl) k_b0 (mSI_mono K0 (fun r_10 y_9 K0 => ?_))
        refine r_istore_n (pc := 45) dX8_plays_45 (by decide) ?_
        exact r_le (L' := [some (.ref b0), some (.int l1), some (.int l2), some (.int r_10), none]) ⟨rfl, ⟨rfl, ⟨rfl, ⟨rfl, trivial⟩⟩⟩⟩ K0
set_option maxHeartbeats 2000000 in
theorem v_X8_plays_46 {K : Sh} {x : Cn} {Q : Int32 → Cn → Prop} {b0 : Nat} {l1 : Int32} {l2 : Int32} {l3 : Int32} {b0_16 : Nat} {n_b0_16 : Nat} (k_b0 : kk K b0 = some (8, 0)) (g_b0_16 : gr x b0 16 = some b0_16) (k_b0_16 : kk K b0_16 = some (20, n_b0_16)) (K0 : vp_in l3 n_b0_16 ∧ (∀ r_2 : Int32, r_2 = gi (ui x b0_16 (l3 : Int32).toNatClampNeg (gi x b0 18)) b0 18 → ((¬ l2 = 0 → (mSI mX8_hourFor [.ref b0, .int l3] K (ui (ui x b0_16 (l3 : Int32).toNatClampNeg (gi x b0 18)) b0 18 (r_2 + 1)) (fun r_6 y_5 => (¬ r_6 = (-1) → (mSV mX8_grants [.ref b0, .int l3, .int r_6] K y_5 (fun y_8 => GI mX8_plays 8 [some (.ref b0), some (.int (l1 + 1)), some (.int 0), none, none] [] K y_8 Q))) ∧ (r_6 = (-1) → (GI mX8_plays 8 [some (.ref b0), some (.int l1), some (.int 0), none, none] [] K y_5 Q))))) ∧ (l2 = 0 → (mSI mX8_hourFor [.ref b0, .int l3] K (ui (ui x b0_16 (l3 : Int32).toNatClampNeg (gi x b0 18)) b0 18 (r_2 + 1)) (fun r_10 y_9 => (¬ r_10 = (-1) → (mSV mX8_grants [.ref b0, .int l3, .int r_10] K y_9 (fun y_12 => GI mX8_plays 8 [some (.ref b0), some (.int (l1 + 1)), some (.int 1), none, none] [] K y_12 Q))) ∧ (r_10 = (-1) → (GI mX8_plays 8 [some (.ref b0), some (.int l1), some (.int 1), none, none] [] K y_9 Q)))))))) : GI mX8_plays 46 [some (.ref b0), some (.int l1), some (.int l2), some (.int l3), none] [] K x Q := by
  show mGM mX8_plays 46 [some (.ref b0), some (.int l1), some (.int l2), some (.int l3), none] [] (hp K x) (PI K Q)
  refine r_aload_n (pc := 46) dX8_plays_46 rfl ?_
  refine s_getR (pc := 47) dX8_plays_47 fl_X8_30 rfl k_b0 g_b0_16 ?_
  refine r_iload_n (pc := 50) dX8_plays_50 rfl ?_
  refine r_aload_n (pc := 51) dX8_plays_51 rfl ?_
  refine s_getI (pc := 52) dX8_plays_52 fl_X8_335 rfl k_b0 ?_
  obtain ⟨i_1, K0⟩ := K0
  refine s_iast (pc := 55) dX8_plays_55 k_b0_16 i_1 ?_
  refine r_aload_n (pc := 56) dX8_plays_56 rfl ?_
  refine r_dup (pc := 57) dX8_plays_57 rfl ?_
  refine s_getI (pc := 58) dX8_plays_58 fl_X8_335 rfl k_b0 ?_
  obtain ⟨r_2, w_3⟩ : ∃ z : Int32, z = gi (ui x b0_16 (l3 : Int32).toNatClampNeg (gi x b0 18)) b0 18 := ⟨_, rfl⟩
  rw [← w_3]
  have K0 := K0 r_2 w_3
  refine r_iconst (pc := 61) (v := 1) dX8_plays_61 (by decide) ?_
  refine r_iadd (pc := 62) dX8_plays_62 ?_
  refine s_putI (pc := 63) dX8_plays_63 fl_X8_335 rfl rfl k_b0 ?_
  refine r_iload_n (pc := 66) dX8_plays_66 rfl ?_
  refine r_if_ne (pc := 67) (tgt := 74) dX8_plays_67 (by decide) (fun q => ?_) (fun q => ?_)
  · have K0 := K0.1 q
    refine r_iconst (pc := 74) (v := 0) dX8_plays_74 (by decide) ?_
    refine r_istore_n (pc := 75) dX8_plays_75 (by decide) ?_
    refine r_aload_n (pc := 76) (L := [some (.ref b0), some (.int l1), some (.int 0), some (.int l3), none]) dX8_plays_76 rfl ?_
    refine r_iload_n (pc := 77) dX8_plays_77 rfl ?_
    refine s_VI (pc := 78) mX8_hourFor (ci := 8) (a := b0) (As := [.int l3]) dX8_plays_78 lk_X8_332 in_X8_hourFor mo_X8_hourFor ⟨by decide, rfl⟩ ⟨by decide, by decide⟩ (Nat.le_of_ble_eq_true rfl) k_b0 (mSI_mono K0 (fun r_6 y_5 K0 => ?_))
    refine r_istore (pc := 81) dX8_plays_81 (by decide) ?_
    refine r_iload (pc := 83) (L := [some (.ref b0), some (.int l1), some (.int 0), some (.int l3), some (.int r_6)]) dX8_plays_83 rfl ?_
    refine r_iconst (pc := 85) (v := (-1)) dX8_plays_85 (by decide) ?_
    refine r_icmp_ne (pc := 86) (tgt := 92) dX8_plays_86 (by decide) (fun q => ?_) (fun q => ?_)
    · have K0 := K0.1 q
      refine r_aload_n (pc := 92) dX8_plays_92 rfl ?_
      refine r_iload_n (pc := 93) dX8_plays_93 rfl ?_
      refine r_iload (pc := 94) dX8_plays_94 rfl ?_
      refine s_VV (pc := 96) mX8_grants (ci := 8) (a := b0) (As := [.int l3, .int r_6]) dX8_plays_96 lk_X8_345 in_X8_grants mo_X8_grants ⟨by decide, rfl⟩ ⟨by decide, by decide⟩ (Nat.le_of_ble_eq_true rfl) k_b0 (mSV_mono K0 (fun y_8 K0 => ?_))
      refine r_iinc (pc := 99) (v := l1 + 1) dX8_plays_99 rfl rfl (by decide) ?_
      refine r_goto (pc := 102) (L := [some (.ref b0), some (.int (l1 + 1)), some (.int 0), some (.int l3), some (.int r_6)]) (tgt := 8) dX8_plays_102 (by decide) ?_
      exact r_le (L' := [some (.ref b0), some (.int (l1 + 1)), some (.int 0), none, none]) ⟨rfl, ⟨rfl, ⟨rfl, trivial⟩⟩⟩ K0
    · have K0 := K0.2 q
      refine r_goto (pc := 89) (tgt := 8) dX8_plays_89 (by decide) ?_
      exact r_le (L' := [some (.ref b0), some (.int l1), some (.int 0), none, none]) ⟨rfl, ⟨rfl, ⟨rfl, trivial⟩⟩⟩ K0
  · have K0 := K0.2 q
    refine r_iconst (pc := 70) (v := 1) dX8_plays_70 (by decide) ?_
    refine r_goto (pc := 71) (tgt := 75) dX8_plays_71 (by decide) ?_
    refine r_istore_n (pc := 75) dX8_plays_75 (by decide) ?_
    refine r_aload_n (pc := 76) (L := [some (.ref b0), some (.int l1), some (.int 1), some (.int l3), none]) dX8_plays_76 rfl ?_
    refine r_iload_n (pc := 77) dX8_plays_77 rfl ?_
    refine s_VI (pc := 78) mX8_hourFor (ci := 8) (a := b0) (As := [.int l3]) dX8_plays_78 lk_X8_332 in_X8_hourFor mo_X8_hourFor ⟨by decide, rfl⟩ ⟨by decide, by decide⟩ (Nat.le_of_ble_eq_true rfl) k_b0 (mSI_mono K0 (fun r_10 y_9 K0 => ?_))
    refine r_istore (pc := 81) dX8_plays_81 (by decide) ?_
    refine r_iload (pc := 83) (L := [some (.ref b0), some (.int l1), some (.int 1), some (.int l3), some (.int r_10)]) dX8_plays_83 rfl ?_
    refine r_iconst (pc := 85) (v := (-1)) dX8_plays_85 (by decide) ?_
    refine r_icmp_ne (pc := 86) (tgt := 92) dX8_plays_86 (by decide) (fun q => ?_) (fun q => ?_)
    · have K0 := K0.1 q
      refine r_aload_n (pc := 92) dX8_plays_92 rfl ?_
      refine r_iload_n (pc := 93) dX8_plays_93 rfl ?_
      refine r_iload (pc := 94) dX8_plays_94 rfl ?_
      refine s_VV (pc := 96) mX8_grants (ci := 8) (a := b0) (As := [.int l3, .int r_10]) dX8_plays_96 lk_X8_345 in_X8_grants mo_X8_grants ⟨by decide, rfl⟩ ⟨by decide, by decide⟩ (Nat.le_of_ble_eq_true rfl) k_b0 (mSV_mono K0 (fun y_12 K0 => ?_))
      refine r_iinc (pc := 99) (v := l1 + 1) dX8_plays_99 rfl rfl (by decide) ?_
      refine r_goto (pc := 102) (L := [some (.ref b0), some (.int (l1 + 1)), some (.int 1), some (.int l3), some (.int r_10)]) (tgt := 8) dX8_plays_102 (by decide) ?_
      exact r_le (L' := [some (.ref b0), some (.int (l1 + 1)), some (.int 1), none, none]) ⟨rfl, ⟨rfl, ⟨rfl, trivial⟩⟩⟩ K0
    · have K0 := K0.2 q
      refine r_goto (pc := 89) (tgt := 8) dX8_plays_89 (by decide) ?_
      exact r_le (L' := [some (.ref b0), some (.int l1), some (.int 1), none, none]) ⟨rfl, ⟨rfl, ⟨rfl, trivial⟩⟩⟩ K0
section
theorem sp_X8_plays {x : Cn} {Q : Int32 → Cn → Prop} {W C S A N : Nat} {T0 : TT} (M : MRf x 719) (hT : gi x 719 = T0) (F : WFB T0 W C S A N) (k : ∀ z, PFr x z → PRS z (accT (plS A N) A (pl0 T0 S)) A → Q (nI (accT (plS A N) A (pl0 T0 S)).2.2.2.2) z) : mSI mX8_plays [.ref 717] KW x Q := by
  have hA : A ≤ 24 := F.2.2.2.2.2.2.2.2.1
  refine v_X8_plays_0 km (sp_X8_begins M (fun v v1 v2 v3 v4 => ?_))
  refine lp_acc (plS A N) (fun k p => PIV W C A N T0 k p → ∀ y, PFr x y → PRS y p k → GI mX8_plays 8 [some (.ref 717), some (.int (nI p.2.2.2.2)), some (.int (fl k)), none, none] [] KW y Q) A (pl0 T0 S) ?_ (fun k p hk n1 => ?_) (PIV.st F) v ⟨v1, fun a j a1 a2 a3 a4 a5 => v2 a j a3 a4 a5⟩ ⟨M.keep v1, ?_, fun a ha => (v4 a ha).1, fun a ha => (v4 a ha).2, v3⟩
  · intro iv y fy ry
    exact v_X8_plays_8 km ry.1.2.2.1 km2 ⟨v0 (k := 3) (by decide) rfl rfl, fun _ => k y fy ry, fun z => absurd (by rw [ry.2.1, iv.1.2.2.2.2.2.2.2.1, ry.2.2.2.2]; exact Int32.le_refl _) z⟩
  · intro iv y fy ry
    obtain ⟨a, ha, e1, e2, e3⟩ := iv.a hk
    have hS : p.2.1 ≤ 24 := iv.1.2.2.2.2.2.2.1
    have Fy : WFB (gi y 719) W C p.2.1 A N := by rw [ry.2.1]; exact iv.1
    have h46 : GI mX8_plays 46 [some (.ref 717), some (.int (nI p.2.2.2.2)), some (.int (fl k)), some (.int (nI a)), none] [] KW y Q := by
      refine v_X8_plays_46 km ry.1.2.2.2.2.2.1 km722 ⟨vp_in_nI (by omega) (by decide), fun r hr => ?_⟩
      rw [nI_clamp (by omega)] at hr
      have er : r = nI k := by rw [hr, gi_ui, if_neg (by omega)]; exact ry.2.2.2.2
      rw [er, nI_1, nI_clamp (by omega), ry.2.2.2.2]
      have f2 : PFr x (ui (ui y 722 a (nI k)) 717 18 (nI (k + 1))) := ⟨fy.1, fun b j b1 b2 b3 b4 b5 => by rw [gi_ui, if_neg b5, gi_ui, if_neg (fun u => b3 u.1)]; exact fy.2 b j b1 b2 b3 b4 b5⟩
      have g719 : gi (ui (ui y 722 a (nI k)) 717 18 (nI (k + 1))) 719 = p.1 := by
        rw [← ry.2.1]
        funext i
        rw [gi_ui, if_neg (by omega), gi_ui, if_neg (by omega)]
      have M2 : MRf (ui (ui y 722 a (nI k)) 717 18 (nI (k + 1))) 719 := ry.1.keep rfl
      have F2 : WFB (gi (ui (ui y 722 a (nI k)) 717 18 (nI (k + 1))) 719) W C p.2.1 A N := by rw [g719]; exact iv.1
      have g722 : ∀ b, b < 24 → gi (ui (ui y 722 a (nI k)) 717 18 (nI (k + 1))) 722 b = uT p.2.2.1 a (nI k) b := fun b hb => by
        rw [gi_ui, if_neg (by omega), gi_ui]
        unfold uT
        by_cases c : b = a
        · rw [if_pos ⟨rfl, c⟩, if_pos c]
        · rw [if_neg (fun u => c u.2), if_neg c]; exact ry.2.2.1 b hb
      have g723 : ∀ b, b < 24 → gi (ui (ui y 722 a (nI k)) 717 18 (nI (k + 1))) 723 b = p.2.2.2.1 b := fun b hb => by
        rw [gi_ui, if_neg (by omega), gi_ui, if_neg (by omega)]; exact ry.2.2.2.1 b hb
      have g18 : gi (ui (ui y 722 a (nI k)) 717 18 (nI (k + 1))) 717 18 = nI (k + 1) := by rw [gi_ui, if_pos ⟨rfl, rfl⟩]
      obtain ⟨-, -, ⟨h0, hh0, eh0⟩, -⟩ := iv.1.2.2.2.2.2.2.2.2.2.2.2.2.2 a ha
      have body : ∀ w, w = fl (k + 1) → mSI mX8_hourFor [.ref 717, .int (nI a)] KW (ui (ui y 722 a (nI k)) 717 18 (nI (k + 1))) (fun r_6 y_5 => (¬ r_6 = -1 → mSV mX8_grants [.ref 717, .int (nI a), .int r_6] KW y_5 (fun y_8 => GI mX8_plays 8 [some (.ref 717), some (.int (nI p.2.2.2.2 + 1)), some (.int w), none, none] [] KW y_8 Q)) ∧ (r_6 = -1 → GI mX8_plays 8 [some (.ref 717), some (.int (nI p.2.2.2.2)), some (.int w), none, none] [] KW y_5 Q)) := by
        intro w hw
        rw [hw, nI_1]
        refine sb_X8_hourFor M2 km2 F2 ha ?_
        rw [g719]
        refine ⟨fun z => ?_, fun z => ?_⟩
        · rcases hrF_in (S := p.2.1) (N := N) hh0 eh0 with g0 | ⟨h, h1, h2, h3, h4⟩
          · exact absurd g0 z
          · rw [h2]
            refine sp_X8_grants M2 km2 (by decide) (by decide) F2.2.2.2.2.2.1 (by omega) (by omega) (fun u u1 u2 u3 u4 => ?_)
            refine n1 _ (plS_t e1 h2 (nI_ne1 (by omega))) (iv.t ha hk e3 h1 (by omega) h4) u ⟨u1.trans f2.1, fun b j b1 b2 b3 b4 b5 => (u2 b j b1 b2 b4).trans (f2.2 b j b1 b2 b3 b4 b5)⟩ ⟨M2.keep u1, by rw [u3, g719], fun b hb => by rw [u2 722 b (by decide) (by decide) (by decide)]; exact g722 b hb, fun b hb => ?_, by rw [u2 717 18 (by decide) (by decide) (by decide)]; exact g18⟩
            show gi u 723 b = uT p.2.2.2.1 a (nI h) b
            rw [u4]
            unfold uT
            by_cases c : b = a
            · rw [if_pos c, if_pos c]
            · rw [if_neg c, if_neg c]; exact g723 b hb
        · refine n1 _ (plS_f e1 z) (iv.f ha hk e3) _ f2 ⟨M2, g719, g722, fun b hb => ?_, g18⟩
          show _ = uT p.2.2.2.1 a (-1) b
          rw [g723 b hb]
          unfold uT
          by_cases c : b = a
          · rw [if_pos c, c, ← ry.2.2.2.1 a (by omega)]
            exact (ry.2.2.2.1 a (by omega)).trans (iv.2.2.2.2.2 a e3)
          · rw [if_neg c]
      refine ⟨fun z => body 0 (by rw [fl_s, if_neg z]), fun z => body 1 (by rw [fl_s, if_pos z])⟩
    unfold chC at e2
    refine v_X8_plays_8 km ry.1.2.2.1 km2 ⟨v0 (k := 3) (by decide) rfl rfl, fun z => absurd (by rw [ry.2.1, iv.1.2.2.2.2.2.2.2.1, ry.2.2.2.2] at z; exact z) (nI_ge hk (by omega)), fun _ => sp_X8_chosen ry.1 km2 Fy ry.2.2.1 ?_⟩
    rw [ry.2.1]
    refine ⟨fun z => ?_, fun z => ⟨fun z2 => sp_X8_chosen ry.1 km2 Fy ry.2.2.1 ?_, fun z2 => sp_X8_chosen ry.1 km2 Fy ry.2.2.1 ?_⟩⟩
    · rw [if_neg z] at e2
      rw [e2]; exact h46
    · rw [if_pos z, if_neg z2] at e2
      rw [ry.2.1, e2]; exact h46
    · rw [if_pos z, if_pos z2] at e2
      rw [ry.2.1, e2]; exact h46
  · rw [← hT]
    funext i
    exact v2 719 i (by decide) (by decide) (by omega)
def mixT (x : Cn) : TT := fun i => if i < 518 then gi x 718 i else gi x 719 i
end
set_option maxHeartbeats 2000000 in
theorem v_X8_copies_0 {K : Sh} {x : Cn} {Q : Cn → Prop} {b0 : Nat}   (K0 : GV mX8_copies 2 [some (.ref b0), some (.int 0)] [] K x Q) : mSV mX8_copies [.ref b0] K x Q := by
  refine s_V (by decide) (by simp [Value.category]) (Nat.le_of_ble_eq_true rfl) ?_
  show mGM mX8_copies 0 [some (.ref b0), none] [] (hp K x) (PV K Q)
  refine r_iconst (pc := 0) (v := 0) dX8_copies_0 (by decide) ?_
  refine r_istore_n (pc := 1) dX8_copies_1 (by decide) ?_
  exact r_le (L' := [some (.ref b0), some (.int 0)]) ⟨rfl, ⟨rfl, trivial⟩⟩ K0
set_option maxHeartbeats 2000000 in
theorem v_X8_copies_2 {K : Sh} {x : Cn} {Q : Cn → Prop} {b0 : Nat} {l1 : Int32} {b0_2 : Nat} {b0_1 : Nat} {n_b0_1 : Nat} {n_b0_2 : Nat} (k_b0 : kk K b0 = some (8, 0)) (g_b0_2 : gr x b0 2 = some b0_2) (g_b0_1 : gr x b0 1 = some b0_1) (k_b0_1 : kk K b0_1 = some (20, n_b0_1)) (k_b0_2 : kk K b0_2 = some (20, n_b0_2)) (K0 : (518 ≤ l1 → (Q x)) ∧ (¬ 518 ≤ l1 → (vp_in l1 n_b0_1 ∧ (vp_in l1 n_b0_2 ∧ (GV mX8_copies 2 [some (.ref b0), some (.int (l1 + 1))] [] K (ui x b0_2 (l1 : Int32).toNatClampNeg (gi x b0_1 (l1 : Int32).toNatClampNeg)) Q))))) : GV mX8_copies 2 [some (.ref b0), some (.int l1)] [] K x Q := by
  show mGM mX8_copies 2 [some (.ref b0), some (.int l1)] [] (hp K x) (PV K Q)
  refine r_iload_n (pc := 2) dX8_copies_2 rfl ?_
  refine r_sipush (pc := 3) (v := 518) dX8_copies_3 (by decide) ?_
  refine r_icmp_ge (pc := 6) (tgt := 27) dX8_copies_6 (by decide) (fun q => ?_) (fun q => ?_)
  · have K0 := K0.1 q
    exact s_ret rfl dX8_copies_27 K0
  · have K0 := K0.2 q
    refine r_aload_n (pc := 9) dX8_copies_9 rfl ?_
    refine s_getR (pc := 10) dX8_copies_10 fl_X8_13 rfl k_b0 g_b0_2 ?_
    refine r_iload_n (pc := 13) dX8_copies_13 rfl ?_
    refine r_aload_n (pc := 14) dX8_copies_14 rfl ?_
    refine s_getR (pc := 15) dX8_copies_15 fl_X8_9 rfl k_b0 g_b0_1 ?_
    refine r_iload_n (pc := 18) dX8_copies_18 rfl ?_
    obtain ⟨i_2, K0⟩ := K0
    refine s_iald (pc := 19) dX8_copies_19 k_b0_1 i_2 ?_
    obtain ⟨i_3, K0⟩ := K0
    refine s_iast (pc := 20) dX8_copies_20 k_b0_2 i_3 ?_
    refine r_iinc (pc := 21) (v := l1 + 1) dX8_copies_21 rfl rfl (by decide) ?_
    refine r_goto (pc := 24) (L := [some (.ref b0), some (.int (l1 + 1))]) (tgt := 2) dX8_copies_24 (by decide) ?_
    exact r_le (L' := [some (.ref b0), some (.int (l1 + 1))]) ⟨rfl, ⟨rfl, trivial⟩⟩ K0
section
theorem sp_X8_copies {x : Cn} {Q : Cn → Prop} (M : MRf x 718) (k : ∀ y : Cn, EQx x y 719 → gi y 719 = mixT x → Q y) : mSV mX8_copies [.ref 717] KW x Q := by
  have key : ∀ c m y, m + c = 518 → EQx x y 719 → (∀ i, gi y 719 i = if i < m then gi x 718 i else gi x 719 i) → GV mX8_copies 2 [some (.ref 717), some (.int (nI m))] [] KW y Q := by
    intro c
    induction c with
    | zero =>
      intro m y hm f1 f2
      have : m = 518 := by omega
      subst this
      have M2 := M.keep f1.1
      exact v_X8_copies_2 km M2.2.1 M2.1 km1 km2 ⟨fun _ => k y f1 (funext f2), fun z => absurd (Int32.le_refl _) z⟩
    | succ c ih =>
      intro m y hm f1 f2
      have M2 := M.keep f1.1
      refine v_X8_copies_2 km M2.2.1 M2.1 km1 km2 ⟨fun z => absurd z (nI_ge (b := 518) (by omega) (by decide)), fun _ => ⟨vp_in_nI (by omega) (by decide), vp_in_nI (by omega) (by decide), ?_⟩⟩
      rw [nI_1, nI_clamp (by omega)]
      refine ih (m + 1) _ (by omega) f1.ui (fun i => ?_)
      rw [gi_ui]
      by_cases c1 : i = m
      · rw [if_pos ⟨rfl, c1⟩, if_pos (by omega), c1]; exact f1.2 718 m (by decide)
      · rw [if_neg (fun u => c1 u.2), f2]
        by_cases c2 : i < m
        · rw [if_pos c2, if_pos (by omega)]
        · rw [if_neg c2, if_neg (by omega)]
  exact v_X8_copies_0 (key 518 0 x (by omega) (EQx.rf x _) (fun i => by rw [if_neg (by omega)]))
end
set_option maxHeartbeats 2000000 in
theorem v_X8_playsAside_0 {K : Sh} {x : Cn} {Q : Int32 → Cn → Prop} {b0 : Nat} {l1 : Int32}  (k_b0 : kk K b0 = some (8, 0)) (K0 : mSV mX8_copies [.ref b0] K x (fun y_1 => (l1 = (-1) → (∃ c_3 : Nat, gr y_1 b0 2 = some c_3 ∧ (mSI mX8_plays [.ref b0] K (ur y_1 b0 3 (some c_3)) (fun r_6 y_5 => ∃ c_7 : Nat, gr y_5 b0 1 = some c_7 ∧ (Q r_6 (ur y_5 b0 3 (some c_7))))))) ∧ (¬ l1 = (-1) → (∃ c_9 : Nat, gr y_1 b0 2 = some c_9 ∧ (∃ n_12 : Nat, kk K c_9 = some (20, n_12) ∧ (vp_in (6 + (2 * l1)) n_12 ∧ (vp_in ((6 + (2 * l1)) + 1) n_12 ∧ (mSI mX8_plays [.ref b0] K (ur (ui (ui y_1 c_9 ((6 + (2 * l1)) : Int32).toNatClampNeg ((gi y_1 c_9 ((6 + (2 * l1)) : Int32).toNatClampNeg) + 1)) c_9 (((6 + (2 * l1)) + 1) : Int32).toNatClampNeg ((gi (ui y_1 c_9 ((6 + (2 * l1)) : Int32).toNatClampNeg ((gi y_1 c_9 ((6 + (2 * l1)) : Int32).toNatClampNeg) + 1)) c_9 (((6 + (2 * l1)) + 1) : Int32).toNatClampNeg) + 1)) b0 3 (some c_9)) (fun r_16 y_15 => ∃ c_17 : Nat, gr y_15 b0 1 = some c_17 ∧ (Q r_16 (ur y_15 b0 3 (some c_17)))))))))))) : mSI mX8_playsAside [.ref b0, .int l1] K x Q := by
  refine s_I (by decide) (by simp [Value.category]) (Nat.le_of_ble_eq_true rfl) ?_
  show mGM mX8_playsAside 0 [some (.ref b0), some (.int l1), none] [] (hp K x) (PI K Q)
  refine r_aload_n (pc := 0) dX8_playsAside_0 rfl ?_
  refine s_VV (pc := 1) mX8_copies (ci := 8) (a := b0) (As := []) dX8_playsAside_1 lk_X8_348 in_X8_copies mo_X8_copies ⟨by decide, rfl⟩ ⟨by decide, by decide⟩ (Nat.le_of_ble_eq_true rfl) k_b0 (mSV_mono K0 (fun y_1 K0 => ?_))
  refine r_iload_n (pc := 4) dX8_playsAside_4 rfl ?_
  refine r_iconst (pc := 5) (v := (-1)) dX8_playsAside_5 (by decide) ?_
  refine r_icmp_eq (pc := 6) (tgt := 41) dX8_playsAside_6 (by decide) (fun q => ?_) (fun q => ?_)
  · have K0 := K0.1 q
    refine r_aload_n (pc := 41) dX8_playsAside_41 rfl ?_
    refine r_aload_n (pc := 42) dX8_playsAside_42 rfl ?_
    obtain ⟨c_3, g_4, K0⟩ := K0
    refine s_getR (pc := 43) dX8_playsAside_43 fl_X8_13 rfl k_b0 g_4 ?_
    refine s_putR (pc := 46) dX8_playsAside_46 fl_X8_16 rfl rfl k_b0 ?_
    refine r_aload_n (pc := 49) dX8_playsAside_49 rfl ?_
    refine s_VI (pc := 50) mX8_plays (ci := 8) (a := b0) (As := []) dX8_playsAside_50 lk_X8_351 in_X8_plays mo_X8_plays ⟨by decide, rfl⟩ ⟨by decide, by decide⟩ (Nat.le_of_ble_eq_true rfl) k_b0 (mSI_mono K0 (fun r_6 y_5 K0 => ?_))
    refine r_istore_n (pc := 53) dX8_playsAside_53 (by decide) ?_
    refine r_aload_n (pc := 54) (L := [some (.ref b0), some (.int l1), some (.int r_6)]) dX8_playsAside_54 rfl ?_
    refine r_aload_n (pc := 55) dX8_playsAside_55 rfl ?_
    obtain ⟨c_7, g_8, K0⟩ := K0
    refine s_getR (pc := 56) dX8_playsAside_56 fl_X8_9 rfl k_b0 g_8 ?_
    refine s_putR (pc := 59) dX8_playsAside_59 fl_X8_16 rfl rfl k_b0 ?_
    refine r_iload_n (pc := 62) dX8_playsAside_62 rfl ?_
    exact s_iret rfl dX8_playsAside_63 K0
  · have K0 := K0.2 q
    refine r_aload_n (pc := 9) dX8_playsAside_9 rfl ?_
    obtain ⟨c_9, g_10, K0⟩ := K0
    refine s_getR (pc := 10) dX8_playsAside_10 fl_X8_13 rfl k_b0 g_10 ?_
    refine r_bipush (pc := 13) (v := 6) dX8_playsAside_13 (by decide) ?_
    refine r_iconst (pc := 15) (v := 2) dX8_playsAside_15 (by decide) ?_
    refine r_iload_n (pc := 16) dX8_playsAside_16 rfl ?_
    refine r_imul (pc := 17) dX8_playsAside_17 ?_
    refine r_iadd (pc := 18) dX8_playsAside_18 ?_
    refine r_dup2 (pc := 19) dX8_playsAside_19 rfl rfl ?_
    obtain ⟨n_12, e_11, K0⟩ := K0
    obtain ⟨i_13, K0⟩ := K0
    refine s_iald (pc := 20) dX8_playsAside_20 e_11 i_13 ?_
    refine r_iconst (pc := 21) (v := 1) dX8_playsAside_21 (by decide) ?_
    refine r_iadd (pc := 22) dX8_playsAside_22 ?_
    refine s_iast (pc := 23) dX8_playsAside_23 e_11 i_13 ?_
    refine r_aload_n (pc := 24) dX8_playsAside_24 rfl ?_
    refine s_getR (pc := 25) dX8_playsAside_25 fl_X8_13 rfl k_b0 g_10 ?_
    refine r_bipush (pc := 28) (v := 6) dX8_playsAside_28 (by decide) ?_
    refine r_iconst (pc := 30) (v := 2) dX8_playsAside_30 (by decide) ?_
    refine r_iload_n (pc := 31) dX8_playsAside_31 rfl ?_
    refine r_imul (pc := 32) dX8_playsAside_32 ?_
    refine r_iadd (pc := 33) dX8_playsAside_33 ?_
    refine r_iconst (pc := 34) (v := 1) dX8_playsAside_34 (by decide) ?_
    refine r_iadd (pc := 35) dX8_playsAside_35 ?_
    refine r_dup2 (pc := 36) dX8_playsAside_36 rfl rfl ?_
    obtain ⟨i_14, K0⟩ := K0
    refine s_iald (pc := 37) dX8_playsAside_37 e_11 i_14 ?_
    refine r_iconst (pc := 38) (v := 1) dX8_playsAside_38 (by decide) ?_
    refine r_iadd (pc := 39) dX8_playsAside_39 ?_
    refine s_iast (pc := 40) dX8_playsAside_40 e_11 i_14 ?_
    refine r_aload_n (pc := 41) dX8_playsAside_41 rfl ?_
    refine r_aload_n (pc := 42) dX8_playsAside_42 rfl ?_
    refine s_getR (pc := 43) dX8_playsAside_43 fl_X8_13 rfl k_b0 g_10 ?_
    refine s_putR (pc := 46) dX8_playsAside_46 fl_X8_16 rfl rfl k_b0 ?_
    refine r_aload_n (pc := 49) dX8_playsAside_49 rfl ?_
    refine s_VI (pc := 50) mX8_plays (ci := 8) (a := b0) (As := []) dX8_playsAside_50 lk_X8_351 in_X8_plays mo_X8_plays ⟨by decide, rfl⟩ ⟨by decide, by decide⟩ (Nat.le_of_ble_eq_true rfl) k_b0 (mSI_mono K0 (fun r_16 y_15 K0 => ?_))
    refine r_istore_n (pc := 53) dX8_playsAside_53 (by decide) ?_
    refine r_aload_n (pc := 54) (L := [some (.ref b0), some (.int l1), some (.int r_16)]) dX8_playsAside_54 rfl ?_
    refine r_aload_n (pc := 55) dX8_playsAside_55 rfl ?_
    obtain ⟨c_17, g_18, K0⟩ := K0
    refine s_getR (pc := 56) dX8_playsAside_56 fl_X8_9 rfl k_b0 g_18 ?_
    refine s_putR (pc := 59) dX8_playsAside_59 fl_X8_16 rfl rfl k_b0 ?_
    refine r_iload_n (pc := 62) dX8_playsAside_62 rfl ?_
    exact s_iret rfl dX8_playsAside_63 K0
section
theorem sp_X8_playsAside {x : Cn} {Q : Int32 → Cn → Prop} {W C S A N : Nat} {T0 : TT} {hp : Int32} (M : MRf x 718) (hh : (hp = -1 ∧ T0 = mixT x) ∨ ∃ h, h < 24 ∧ hp = nI h ∧ T0 = hlT (mixT x) h) (F : WFB T0 W C S A N) (k : ∀ z, PFr x z → gi z 719 = (accT (plS A N) A (pl0 T0 S)).1 → (∀ a, a < 24 → gi z 722 a = (accT (plS A N) A (pl0 T0 S)).2.2.1 a) → (∀ a, a < 24 → gi z 723 a = (accT (plS A N) A (pl0 T0 S)).2.2.2.1 a) → Q (nI (accT (plS A N) A (pl0 T0 S)).2.2.2.2) z) : mSI mX8_playsAside [.ref 717, .int hp] KW x Q := by
  have fin : ∀ v : Cn, v.2 = x.2 → (∀ a j, a ≠ 719 → gi v a j = gi x a j) → gi v 719 = T0 → mSI mX8_plays [.ref 717] KW (ur v 717 3 (some 719)) (fun r_6 y_5 => ∃ c_7, gr y_5 717 1 = some c_7 ∧ Q r_6 (ur y_5 717 3 (some c_7))) := by
    intro v v1 v2 v3
    have M2 : MRf (ur v 717 3 (some 719)) 719 := by
      have Mv := M.keep v1
      unfold MRf at Mv ⊢
      simp only [gr_ur]
      simp only [show ¬ (1 : Nat) = 3 by decide, show ¬ (2 : Nat) = 3 by decide, show ¬ (4 : Nat) = 3 by decide, show ¬ (15 : Nat) = 3 by decide, show ¬ (16 : Nat) = 3 by decide, show ¬ (17 : Nat) = 3 by decide, show ¬ (20 : Nat) = 3 by decide, show ¬ (21 : Nat) = 3 by decide, and_false, if_false, and_self, if_true]
      exact ⟨Mv.1, Mv.2.1, trivial, Mv.2.2.2⟩
    refine sp_X8_plays M2 (T0 := T0) (by rw [← v3]; rfl) F (fun z fz rz => ⟨718, rz.1.1, k _ ⟨?_, fun a j a1 a2 a3 a4 a5 => ?_⟩ rz.2.1 rz.2.2.1 rz.2.2.2.1⟩)
    · show (ur z 717 3 (some 718)).2 = x.2
      funext a j
      show (if a = 717 ∧ j = 3 then some 718 else z.2 a j) = x.2 a j
      by_cases c : a = 717 ∧ j = 3
      · rw [if_pos c, c.1, c.2]; exact M.2.2.1.symm
      · rw [if_neg c, fz.1]
        show (if a = 717 ∧ j = 3 then some 719 else v.2 a j) = x.2 a j
        rw [if_neg c, v1]
    · show gi z a j = gi x a j
      exact (fz.2 a j a1 a2 a3 a4 a5).trans (v2 a j a1)
  refine v_X8_playsAside_0 km (sp_X8_copies M (fun y f1 f2 => ?_))
  rcases hh with ⟨rfl, rfl⟩ | ⟨h, hh, rfl, rfl⟩
  · exact ⟨fun _ => ⟨719, (M.keep f1.1).2.1, fin y f1.1 (fun a j ha => f1.2 a j ha) f2⟩, fun z => absurd rfl z⟩
  · refine ⟨fun z => absurd z (nI_ne1 (by omega)), fun _ => ⟨719, (M.keep f1.1).2.1, 518, km2, ?_⟩⟩
    rw [ixh1, ixh, nI_clamp (show 6 + 2 * h < 2 ^ 31 by omega), nI_clamp (show 7 + 2 * h < 2 ^ 31 by omega)]
    refine ⟨vp_in_nI (by omega) (by decide), vp_in_nI (by omega) (by decide), ?_⟩
    rw [show gi (ui y 719 (6 + 2 * h) (gi y 719 (6 + 2 * h) + 1)) 719 (7 + 2 * h) = gi y 719 (7 + 2 * h) by rw [gi_ui, if_neg (by omega)]]
    refine fin _ f1.1 (fun a j ha => by rw [gi_ui, if_neg (fun u => ha u.1), gi_ui, if_neg (fun u => ha u.1)]; exact f1.2 a j ha) ?_
    rw [gi_at, gi_at, f2]
    rfl

end

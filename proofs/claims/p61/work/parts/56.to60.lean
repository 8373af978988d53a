/-! 56.pool3.lean.txt -/
section
theorem km722 : kk KW 722 = some (20, 24) := by decide
theorem km723 : kk KW 723 = some (20, 24) := by decide
theorem km721 : kk KW 721 = some (20, 7) := by decide
theorem gi_at (x : Cn) (t k : Nat) (v : Int32) : gi (ui x t k v) t = uT (gi x t) k v := by
  funext i
  rw [gi_ui]
  unfold uT
  by_cases c : i = k
  · rw [if_pos ⟨rfl, c⟩, if_pos c]
  · rw [if_neg (fun u => c u.2), if_neg c]
set_option maxHeartbeats 2000000 in
theorem v_X8_chosen_0 {K : Sh} {x : Cn} {Q : Int32 → Cn → Prop} {b0 : Nat} {l1 : Int32}   (K0 : GI mX8_chosen 4 [some (.ref b0), some (.int l1), some (.int (-1)), some (.int 0), none] [] K x Q) : mSI mX8_chosen [.ref b0, .int l1] K x Q := by
  refine s_I (by decide) (by simp [Value.category]) (Nat.le_of_ble_eq_true rfl) ?_
  show mGM mX8_chosen 0 [some (.ref b0), some (.int l1), none, none, none] [] (hp K x) (PI K Q)
  refine r_iconst (pc := 0) (v := (-1)) dX8_chosen_0 (by decide) ?_
  refine r_istore_n (pc := 1) dX8_chosen_1 (by decide) ?_
  refine r_iconst (pc := 2) (L := [some (.ref b0), some (.int l1), some (.int (-1)), none, none]) (v := 0) dX8_chosen_2 (by decide) ?_
  refine r_istore_n (pc := 3) dX8_chosen_3 (by decide) ?_
  exact r_le (L' := [some (.ref b0), some (.int l1), some (.int (-1)), some (.int 0), none]) ⟨rfl, ⟨rfl, ⟨rfl, ⟨rfl, trivial⟩⟩⟩⟩ K0
set_option maxHeartbeats 2000000 in
theorem v_X8_chosen_4 {K : Sh} {x : Cn} {Q : Int32 → Cn → Prop} {b0 : Nat} {l1 : Int32} {l2 : Int32} {l3 : Int32} {b0_3 : Nat} {n_b0_3 : Nat} {b0_16 : Nat} {n_b0_16 : Nat} (k_b0 : kk K b0 = some (8, 0)) (g_b0_3 : gr x b0 3 = some b0_3) (k_b0_3 : kk K b0_3 = some (20, n_b0_3)) (g_b0_16 : gr x b0 16 = some b0_16) (k_b0_16 : kk K b0_16 = some (20, n_b0_16)) (K0 : vp_in 3 n_b0_3 ∧ (((gi x b0_3 3) ≤ l3 → (Q l2 x)) ∧ (¬ (gi x b0_3 3) ≤ l3 → (vp_in l3 n_b0_16 ∧ ((¬ (gi x b0_16 (l3 : Int32).toNatClampNeg) = (-1) → (GI mX8_chosen 4 [some (.ref b0), some (.int l1), some (.int l2), some (.int (l3 + 1)), none] [] K x Q)) ∧ ((gi x b0_16 (l3 : Int32).toNatClampNeg) = (-1) → ((l24 l3 n_b0_3) ∧ (mSI mX8_isEntrant [.ref b0, .int (ao (gi x b0_3) (l3 : Int32).toNatClampNeg 0), .int (ao (gi x b0_3) (l3 : Int32).toNatClampNeg 1)] K x (fun r_7 y_6 => (r_7 = l1 → ((l2 = (-1) → (GI mX8_chosen 4 [some (.ref b0), some (.int l1), some (.int l3), some (.int (l3 + 1)), none] [] K y_6 Q)) ∧ (¬ l2 = (-1) → (gr y_6 b0 3 = some b0_3 ∧ ((l24 l2 n_b0_3) ∧ ((((ao (gi y_6 b0_3) (l3 : Int32).toNatClampNeg 5) - (ao (gi y_6 b0_3) (l3 : Int32).toNatClampNeg 4)) ≤ ((ao (gi y_6 b0_3) (l2 : Int32).toNatClampNeg 5) - (ao (gi y_6 b0_3) (l2 : Int32).toNatClampNeg 4)) → (GI mX8_chosen 4 [some (.ref b0), some (.int l1), some (.int l2), some (.int (l3 + 1)), none] [] K y_6 Q)) ∧ (¬ ((ao (gi y_6 b0_3) (l3 : Int32).toNatClampNeg 5) - (ao (gi y_6 b0_3) (l3 : Int32).toNatClampNeg 4)) ≤ ((ao (gi y_6 b0_3) (l2 : Int32).toNatClampNeg 5) - (ao (gi y_6 b0_3) (l2 : Int32).toNatClampNeg 4)) → (GI mX8_chosen 4 [some (.ref b0), some (.int l1), some (.int l3), some (.int (l3 + 1)), none] [] K y_6 Q)))))))) ∧ (¬ r_7 = l1 → (GI mX8_chosen 4 [some (.ref b0), some (.int l1), some (.int l2), some (.int (l3 + 1)), none] [] K y_6 Q))))))))))) : GI mX8_chosen 4 [some (.ref b0), some (.int l1), some (.int l2), some (.int l3), none] [] K x Q := by
  show mGM mX8_chosen 4 [some (.ref b0), some (.int l1), some (.int l2), some (.int l3), none] [] (hp K x) (PI K Q)
  refine r_iload_n (pc := 4) dX8_chosen_4 rfl ?_
  refine r_aload_n (pc := 5) dX8_chosen_5 rfl ?_
  refine s_getR (pc := 6) dX8_chosen_6 fl_X8_16 rfl k_b0 g_b0_3 ?_
  refine r_iconst (pc := 9) (v := 3) dX8_chosen_9 (by decide) ?_
  obtain ⟨i_1, K0⟩ := K0
  refine s_iald (pc := 10) dX8_chosen_10 k_b0_3 i_1 ?_
  refine r_icmp_ge (pc := 11) (tgt := 105) dX8_chosen_11 (by decide) (fun q => ?_) (fun q => ?_)
  · have K0 := K0.1 q
    refine r_iload_n (pc := 105) dX8_chosen_105 rfl ?_
    exact s_iret rfl dX8_chosen_106 K0
  · have K0 := K0.2 q
    refine r_aload_n (pc := 14) dX8_chosen_14 rfl ?_
    refine s_getR (pc := 15) dX8_chosen_15 fl_X8_30 rfl k_b0 g_b0_16 ?_
    refine r_iload_n (pc := 18) dX8_chosen_18 rfl ?_
    obtain ⟨i_3, K0⟩ := K0
    refine s_iald (pc := 19) dX8_chosen_19 k_b0_16 i_3 ?_
    refine r_iconst (pc := 20) (v := (-1)) dX8_chosen_20 (by decide) ?_
    refine r_icmp_ne (pc := 21) (tgt := 99) dX8_chosen_21 (by decide) (fun q => ?_) (fun q => ?_)
    · have K0 := K0.1 q
      refine r_iinc (pc := 99) (v := l3 + 1) dX8_chosen_99 rfl rfl (by decide) ?_
      refine r_goto (pc := 102) (L := [some (.ref b0), some (.int l1), some (.int l2), some (.int (l3 + 1)), none]) (tgt := 4) dX8_chosen_102 (by decide) ?_
      exact r_le (L' := [some (.ref b0), some (.int l1), some (.int l2), some (.int (l3 + 1)), none]) ⟨rfl, ⟨rfl, ⟨rfl, ⟨rfl, trivial⟩⟩⟩⟩ K0
    · have K0 := K0.2 q
      refine r_aload_n (pc := 24) dX8_chosen_24 rfl ?_
      refine r_aload_n (pc := 25) dX8_chosen_25 rfl ?_
      refine r_iload_n (pc := 26) dX8_chosen_26 rfl ?_
      refine r_iconst (pc := 27) (v := 0) dX8_chosen_27 (by decide) ?_
      obtain ⟨p_5, K0⟩ := K0
      refine s_VI (pc := 28) mX8_ask0 (ci := 8) (a := b0) (As := [.int l3, .int 0]) dX8_chosen_28 lk_X8_284 in_X8_ask0 mo_X8_ask0 ⟨by decide, rfl⟩ ⟨by decide, by decide⟩ (Nat.le_of_ble_eq_true rfl) k_b0 (sr_X8_ask0 k_b0 g_b0_3 k_b0_3 p_5 ⟨by decide, by decide⟩ ?_)
      refine r_aload_n (pc := 31) dX8_chosen_31 rfl ?_
      refine r_iload_n (pc := 32) dX8_chosen_32 rfl ?_
      refine r_iconst (pc := 33) (v := 1) dX8_chosen_33 (by decide) ?_
      refine s_VI (pc := 34) mX8_ask0 (ci := 8) (a := b0) (As := [.int l3, .int 1]) dX8_chosen_34 lk_X8_284 in_X8_ask0 mo_X8_ask0 ⟨by decide, rfl⟩ ⟨by decide, by decide⟩ (Nat.le_of_ble_eq_true rfl) k_b0 (sr_X8_ask0 k_b0 g_b0_3 k_b0_3 p_5 ⟨by decide, by decide⟩ ?_)
      refine s_VI (pc := 37) mX8_isEntrant (ci := 8) (a := b0) (As := [.int (ao (gi x b0_3) (l3 : Int32).toNatClampNeg 0), .int (ao (gi x b0_3) (l3 : Int32).toNatClampNeg 1)]) dX8_chosen_37 lk_X8_313 in_X8_isEntrant mo_X8_isEntrant ⟨by decide, rfl⟩ ⟨by decide, by decide⟩ (Nat.le_of_ble_eq_true rfl) k_b0 (mSI_mono K0 (fun r_7 y_6 K0 => ?_))
      refine r_iload_n (pc := 40) dX8_chosen_40 rfl ?_
      refine r_icmp_eq (pc := 41) (tgt := 47) dX8_chosen_41 (by decide) (fun q => ?_) (fun q => ?_)
      · have K0 := K0.1 q
        refine r_iload_n (pc := 47) dX8_chosen_47 rfl ?_
        refine r_iconst (pc := 48) (v := (-1)) dX8_chosen_48 (by decide) ?_
        refine r_icmp_eq (pc := 49) (tgt := 81) dX8_chosen_49 (by decide) (fun q => ?_) (fun q => ?_)
        · have K0 := K0.1 q
          refine r_iconst (pc := 81) (v := 1) dX8_chosen_81 (by decide) ?_
          refine r_goto (pc := 82) (tgt := 86) dX8_chosen_82 (by decide) ?_
          refine r_istore (pc := 86) dX8_chosen_86 (by decide) ?_
          refine r_iload (pc := 88) (L := [some (.ref b0), some (.int l1), some (.int l2), some (.int l3), some (.int 1)]) dX8_chosen_88 rfl ?_
          refine r_if_eq (pc := 90) (tgt := 97) dX8_chosen_90 (by decide) (fun q => by first | exact absurd q (by decide) | exact absurd (by decide) q) (fun _ => ?_)
          refine r_iload_n (pc := 93) dX8_chosen_93 rfl ?_
          refine r_goto (pc := 94) (tgt := 98) dX8_chosen_94 (by decide) ?_
          refine r_istore_n (pc := 98) dX8_chosen_98 (by decide) ?_
          refine r_iinc (pc := 99) (L := [some (.ref b0), some (.int l1), some (.int l3), some (.int l3), some (.int 1)]) (v := l3 + 1) dX8_chosen_99 rfl rfl (by decide) ?_
          refine r_goto (pc := 102) (L := [some (.ref b0), some (.int l1), some (.int l3), some (.int (l3 + 1)), some (.int 1)]) (tgt := 4) dX8_chosen_102 (by decide) ?_
          exact r_le (L' := [some (.ref b0), some (.int l1), some (.int l3), some (.int (l3 + 1)), none]) ⟨rfl, ⟨rfl, ⟨rfl, ⟨rfl, trivial⟩⟩⟩⟩ K0
        · have K0 := K0.2 q
          refine r_aload_n (pc := 52) dX8_chosen_52 rfl ?_
          refine r_iload_n (pc := 53) dX8_chosen_53 rfl ?_
          refine r_iconst (pc := 54) (v := 5) dX8_chosen_54 (by decide) ?_
          obtain ⟨g_10, K0⟩ := K0
          refine s_VI (pc := 55) mX8_ask0 (ci := 8) (a := b0) (As := [.int l3, .int 5]) dX8_chosen_55 lk_X8_284 in_X8_ask0 mo_X8_ask0 ⟨by decide, rfl⟩ ⟨by decide, by decide⟩ (Nat.le_of_ble_eq_true rfl) k_b0 (sr_X8_ask0 k_b0 g_10 k_b0_3 p_5 ⟨by decide, by decide⟩ ?_)
          refine r_aload_n (pc := 58) dX8_chosen_58 rfl ?_
          refine r_iload_n (pc := 59) dX8_chosen_59 rfl ?_
          refine r_iconst (pc := 60) (v := 4) dX8_chosen_60 (by decide) ?_
          refine s_VI (pc := 61) mX8_ask0 (ci := 8) (a := b0) (As := [.int l3, .int 4]) dX8_chosen_61 lk_X8_284 in_X8_ask0 mo_X8_ask0 ⟨by decide, rfl⟩ ⟨by decide, by decide⟩ (Nat.le_of_ble_eq_true rfl) k_b0 (sr_X8_ask0 k_b0 g_10 k_b0_3 p_5 ⟨by decide, by decide⟩ ?_)
          refine r_isub (pc := 64) dX8_chosen_64 ?_
          refine r_aload_n (pc := 65) dX8_chosen_65 rfl ?_
          refine r_iload_n (pc := 66) dX8_chosen_66 rfl ?_
          refine r_iconst (pc := 67) (v := 5) dX8_chosen_67 (by decide) ?_
          obtain ⟨p_11, K0⟩ := K0
          refine s_VI (pc := 68) mX8_ask0 (ci := 8) (a := b0) (As := [.int l2, .int 5]) dX8_chosen_68 lk_X8_284 in_X8_ask0 mo_X8_ask0 ⟨by decide, rfl⟩ ⟨by decide, by decide⟩ (Nat.le_of_ble_eq_true rfl) k_b0 (sr_X8_ask0 k_b0 g_10 k_b0_3 p_11 ⟨by decide, by decide⟩ ?_)
          refine r_aload_n (pc := 71) dX8_chosen_71 rfl ?_
          refine r_iload_n (pc := 72) dX8_chosen_72 rfl ?_
          refine r_iconst (pc := 73) (v := 4) dX8_chosen_73 (by decide) ?_
          refine s_VI (pc := 74) mX8_ask0 (ci := 8) (a := b0) (As := [.int l2, .int 4]) dX8_chosen_74 lk_X8_284 in_X8_ask0 mo_X8_ask0 ⟨by decide, rfl⟩ ⟨by decide, by decide⟩ (Nat.le_of_ble_eq_true rfl) k_b0 (sr_X8_ask0 k_b0 g_10 k_b0_3 p_11 ⟨by decide, by decide⟩ ?_)
          refine r_isub (pc := 77) dX8_chosen_77 ?_
          refine r_icmp_le (pc := 78) (tgt := 85) dX8_chosen_78 (by decide) (fun q => ?_) (fun q => ?_)
          · have K0 := K0.1 q
            refine r_iconst (pc := 85) (v := 0) dX8_chosen_85 (by decide) ?_
            refine r_istore (pc := 86) dX8_chosen_86 (by decide) ?_
            refine r_iload (pc := 88) (L := [some (.ref b0), some (.int l1), some (.int l2), some (.int l3), some (.int 0)]) dX8_chosen_88 rfl ?_
            refine r_if_eq (pc := 90) (tgt := 97) dX8_chosen_90 (by decide) (fun _ => ?_) (fun q => by first | exact absurd q (by decide) | exact absurd (by decide) q)
            refine r_iload_n (pc := 97) dX8_chosen_97 rfl ?_
            refine r_istore_n (pc := 98) dX8_chosen_98 (by decide) ?_
            refine r_iinc (pc := 99) (L := [some (.ref b0), some (.int l1), some (.int l2), some (.int l3), some (.int 0)]) (v := l3 + 1) dX8_chosen_99 rfl rfl (by decide) ?_
            refine r_goto (pc := 102) (L := [some (.ref b0), some (.int l1), some (.int l2), some (.int (l3 + 1)), some (.int 0)]) (tgt := 4) dX8_chosen_102 (by decide) ?_
            exact r_le (L' := [some (.ref b0), some (.int l1), some (.int l2), some (.int (l3 + 1)), none]) ⟨rfl, ⟨rfl, ⟨rfl, ⟨rfl, trivial⟩⟩⟩⟩ K0
          · have K0 := K0.2 q
            refine r_iconst (pc := 81) (v := 1) dX8_chosen_81 (by decide) ?_
            refine r_goto (pc := 82) (tgt := 86) dX8_chosen_82 (by decide) ?_
            refine r_istore (pc := 86) dX8_chosen_86 (by decide) ?_
            refine r_iload (pc := 88) (L := [some (.ref b0), some (.int l1), some (.int l2), some (.int l3), some (.int 1)]) dX8_chosen_88 rfl ?_
            refine r_if_eq (pc := 90) (tgt := 97) dX8_chosen_90 (by decide) (fun q => by first | exact absurd q (by decide) | exact absurd (by decide) q) (fun _ => ?_)
            refine r_iload_n (pc := 93) dX8_chosen_93 rfl ?_
            refine r_goto (pc := 94) (tgt := 98) dX8_chosen_94 (by decide) ?_
            refine r_istore_n (pc := 98) dX8_chosen_98 (by decide) ?_
            refine r_iinc (pc := 99) (L := [some (.ref b0), some (.int l1), some (.int l3), some (.int l3), some (.int 1)]) (v := l3 + 1) dX8_chosen_99 rfl rfl (by decide) ?_
            refine r_goto (pc := 102) (L := [some (.ref b0), some (.int l1), some (.int l3), some (.int (l3 + 1)), some (.int 1)]) (tgt := 4) dX8_chosen_102 (by decide) ?_
            exact r_le (L' := [some (.ref b0), some (.int l1), some (.int l3), some (.int (l3 + 1)), none]) ⟨rfl, ⟨rfl, ⟨rfl, ⟨rfl, trivial⟩⟩⟩⟩ K0
      · have K0 := K0.2 q
        refine r_goto (pc := 44) (tgt := 99) dX8_chosen_44 (by decide) ?_
        refine r_iinc (pc := 99) (v := l3 + 1) dX8_chosen_99 rfl rfl (by decide) ?_
        refine r_goto (pc := 102) (L := [some (.ref b0), some (.int l1), some (.int l2), some (.int (l3 + 1)), none]) (tgt := 4) dX8_chosen_102 (by decide) ?_
        exact r_le (L' := [some (.ref b0), some (.int l1), some (.int l2), some (.int (l3 + 1)), none]) ⟨rfl, ⟨rfl, ⟨rfl, ⟨rfl, trivial⟩⟩⟩⟩ K0
section
theorem sp_X8_chosen {x : Cn} {Q : Int32 → Cn → Prop} {t : Nat} {W C S A N : Nat} {e : Int32} {tn : TT} (M : MRf x t) (ht : kk KW t = some (20, 518)) (F : WFB (gi x t) W C S A N) (hu : ∀ a, a < 24 → gi x 722 a = tn a) (k : Q (chR (gi x t) S A (usd tn) e) x) : mSI mX8_chosen [.ref 717, .int e] KW x Q := by
  have hA : A ≤ 24 := F.2.2.2.2.2.2.2.2.1
  have hS : S ≤ 24 := F.2.2.2.2.2.2.1
  have hW : W ≤ 30 := F.2.2.1
  have t3 : gi x t 3 = nI A := F.2.2.2.2.2.2.2.1
  refine v_X8_chosen_0 (lp_acc (chS (gi x t) S (usd tn) e) (fun a b => (b = -1 ∨ ∃ j, j < A ∧ b = nI j) → GI mX8_chosen 4 [some (.ref 717), some (.int e), some (.int b), some (.int (nI a)), none] [] KW x Q) A (-1) ?_ (fun a b ha n1 => ?_) (Or.inl rfl))
  · intro _
    exact v_X8_chosen_4 km M.2.2.1 ht M.2.2.2.2.2.1 km722 ⟨v0 (k := 3) (by decide) rfl rfl, fun _ => k, fun z => absurd (by rw [t3]; exact Int32.le_refl _) z⟩
  · intro hb
    obtain ⟨-, ⟨d, hd, ed⟩, -⟩ := F.2.2.2.2.2.2.2.2.2.2.2.2.2 a ha
    refine v_X8_chosen_4 km M.2.2.1 ht M.2.2.2.2.2.1 km722 ⟨v0 (k := 3) (by decide) rfl rfl, fun z => absurd (by rw [t3] at z; exact z) (nI_ge ha (by omega)), fun _ => ⟨vp_in_nI (by omega) (by decide), ?_⟩⟩
    rw [nI_clamp (by omega), hu a (by omega), nI_1]
    refine ⟨fun z => n1 b ?_ hb, fun z1 => ⟨l24_nI (by omega) rfl, ?_⟩⟩
    · unfold chS; rw [if_neg (fun g => z (usd_f.mp g.1))]
    · refine sp_X8_isEntrant M ht F.2.2.2.2.2.1 hS (by rw [ed]; exact nI_ne1 (by omega)) ?_
      have ee : b2i (accT (inc (fun s => so (gi x t) s 0 = ao (gi x t) a 0 ∧ (ao (gi x t) a 1 = -1 ∨ so (gi x t) s 1 = ao (gi x t) a 1))) S 0 < 2) = b2i (ent (gi x t) S a) := rfl
      rw [ee]
      refine ⟨fun z2 => ⟨fun z3 => n1 (nI a) ?_ (Or.inr ⟨a, ha, rfl⟩), fun z3 => ?_⟩, fun z2 => n1 b ?_ hb⟩
      · unfold chS; rw [if_pos ⟨usd_f.mpr z1, z2, Or.inl z3⟩]
      · rcases hb with g | ⟨j, hj, rfl⟩
        · exact absurd g z3
        · refine ⟨M.2.2.1, l24_nI (by omega) rfl, fun z4 => n1 (nI j) ?_ (Or.inr ⟨j, hj, rfl⟩), fun z4 => n1 (nI a) ?_ (Or.inr ⟨a, ha, rfl⟩)⟩
          · unfold chS; rw [if_neg (fun g => g.2.2.elim z3 (fun g2 => Int32.not_le.mpr g2 z4))]
          · unfold chS; rw [if_pos ⟨usd_f.mpr z1, z2, Or.inr (Int32.not_le.mp z4)⟩]
      · unfold chS; rw [if_neg (fun g => z2 g.2.1)]
end
set_option maxHeartbeats 2000000 in
theorem v_X8_begins_0 {K : Sh} {x : Cn} {Q : Cn → Prop} {b0 : Nat}  (k_b0 : kk K b0 = some (8, 0)) (K0 : GV mX8_begins 7 [some (.ref b0), some (.int 0)] [] K (ui x b0 18 0) Q) : mSV mX8_begins [.ref b0] K x Q := by
  refine s_V (by decide) (by simp [Value.category]) (Nat.le_of_ble_eq_true rfl) ?_
  show mGM mX8_begins 0 [some (.ref b0), none] [] (hp K x) (PV K Q)
  refine r_aload_n (pc := 0) dX8_begins_0 rfl ?_
  refine r_iconst (pc := 1) (v := 0) dX8_begins_1 (by decide) ?_
  refine s_putI (pc := 2) dX8_begins_2 fl_X8_335 rfl rfl k_b0 ?_
  refine r_iconst (pc := 5) (v := 0) dX8_begins_5 (by decide) ?_
  refine r_istore_n (pc := 6) dX8_begins_6 (by decide) ?_
  exact r_le (L' := [some (.ref b0), some (.int 0)]) ⟨rfl, ⟨rfl, trivial⟩⟩ K0
set_option maxHeartbeats 2000000 in
theorem v_X8_begins_7 {K : Sh} {x : Cn} {Q : Cn → Prop} {b0 : Nat} {l1 : Int32} {b0_16 : Nat} {n_b0_16 : Nat} {b0_17 : Nat} {n_b0_17 : Nat} (k_b0 : kk K b0 = some (8, 0)) (g_b0_16 : gr x b0 16 = some b0_16) (k_b0_16 : kk K b0_16 = some (20, n_b0_16)) (g_b0_17 : gr x b0 17 = some b0_17) (k_b0_17 : kk K b0_17 = some (20, n_b0_17)) (K0 : (24 ≤ l1 → (Q x)) ∧ (¬ 24 ≤ l1 → (vp_in l1 n_b0_16 ∧ (vp_in l1 n_b0_17 ∧ (GV mX8_begins 7 [some (.ref b0), some (.int (l1 + 1))] [] K (ui (ui x b0_16 (l1 : Int32).toNatClampNeg (-1)) b0_17 (l1 : Int32).toNatClampNeg (-1)) Q))))) : GV mX8_begins 7 [some (.ref b0), some (.int l1)] [] K x Q := by
  show mGM mX8_begins 7 [some (.ref b0), some (.int l1)] [] (hp K x) (PV K Q)
  refine r_iload_n (pc := 7) dX8_begins_7 rfl ?_
  refine r_bipush (pc := 8) (v := 24) dX8_begins_8 (by decide) ?_
  refine r_icmp_ge (pc := 10) (tgt := 33) dX8_begins_10 (by decide) (fun q => ?_) (fun q => ?_)
  · have K0 := K0.1 q
    exact s_ret rfl dX8_begins_33 K0
  · have K0 := K0.2 q
    refine r_aload_n (pc := 13) dX8_begins_13 rfl ?_
    refine s_getR (pc := 14) dX8_begins_14 fl_X8_30 rfl k_b0 g_b0_16 ?_
    refine r_iload_n (pc := 17) dX8_begins_17 rfl ?_
    refine r_iconst (pc := 18) (v := (-1)) dX8_begins_18 (by decide) ?_
    obtain ⟨i_2, K0⟩ := K0
    refine s_iast (pc := 19) dX8_begins_19 k_b0_16 i_2 ?_
    refine r_aload_n (pc := 20) dX8_begins_20 rfl ?_
    refine s_getR (pc := 21) dX8_begins_21 fl_X8_33 rfl k_b0 g_b0_17 ?_
    refine r_iload_n (pc := 24) dX8_begins_24 rfl ?_
    refine r_iconst (pc := 25) (v := (-1)) dX8_begins_25 (by decide) ?_
    obtain ⟨i_3, K0⟩ := K0
    refine s_iast (pc := 26) dX8_begins_26 k_b0_17 i_3 ?_
    refine r_iinc (pc := 27) (v := l1 + 1) dX8_begins_27 rfl rfl (by decide) ?_
    refine r_goto (pc := 30) (L := [some (.ref b0), some (.int (l1 + 1))]) (tgt := 7) dX8_begins_30 (by decide) ?_
    exact r_le (L' := [some (.ref b0), some (.int (l1 + 1))]) ⟨rfl, ⟨rfl, trivial⟩⟩ K0
section
theorem sp_X8_begins {x : Cn} {Q : Cn → Prop} {t : Nat} (M : MRf x t) (k : ∀ y : Cn, y.2 = x.2 → (∀ a j, a ≠ 722 → a ≠ 723 → ¬ (a = 717 ∧ j = 18) → gi y a j = gi x a j) → gi y 717 18 = nI 0 → (∀ a, a < 24 → gi y 722 a = -1 ∧ gi y 723 a = -1) → Q y) : mSV mX8_begins [.ref 717] KW x Q := by
  have key : ∀ c m y, m + c = 24 → y.2 = x.2 → (∀ a j, a ≠ 722 → a ≠ 723 → ¬ (a = 717 ∧ j = 18) → gi y a j = gi x a j) → gi y 717 18 = nI 0 → (∀ a, a < m → gi y 722 a = -1 ∧ gi y 723 a = -1) → GV mX8_begins 7 [some (.ref 717), some (.int (nI m))] [] KW y Q := by
    intro c
    induction c with
    | zero =>
      intro m y hm y1 y2 y3 y4
      have : m = 24 := by omega
      subst this
      have M2 := M.keep y1
      exact v_X8_begins_7 km M2.2.2.2.2.2.1 km722 M2.2.2.2.2.2.2.1 km723 ⟨fun _ => k y y1 y2 y3 y4, fun z => absurd (Int32.le_refl _) z⟩
    | succ c ih =>
      intro m y hm y1 y2 y3 y4
      have M2 := M.keep y1
      refine v_X8_begins_7 km M2.2.2.2.2.2.1 km722 M2.2.2.2.2.2.2.1 km723 ⟨fun z => absurd z (nI_ge (b := 24) (by omega) (by decide)), fun _ => ⟨vp_in_nI (by omega) (by decide), vp_in_nI (by omega) (by decide), ?_⟩⟩
      rw [nI_1, nI_clamp (by omega)]
      refine ih (m + 1) _ (by omega) y1 (fun a j a1 a2 a3 => by rw [gi_ui, if_neg (fun u => a2 u.1), gi_ui, if_neg (fun u => a1 u.1)]; exact y2 a j a1 a2 a3) (by rw [gi_ui, if_neg (by omega), gi_ui, if_neg (by omega)]; exact y3) (fun a ha => ?_)
      rw [gi_ui, if_neg (by omega), gi_ui, gi_ui]
      by_cases c1 : a = m
      · rw [if_pos ⟨rfl, c1⟩, if_pos ⟨rfl, c1⟩]; exact ⟨rfl, rfl⟩
      · rw [if_neg (fun u => c1 u.2), if_neg (fun u => c1 u.2), gi_ui, if_neg (by omega)]; exact y4 a (by omega)
  exact v_X8_begins_0 km (key 24 0 _ (by omega) rfl (fun a j a1 a2 a3 => by rw [gi_ui, if_neg a3]) (by rw [gi_ui, if_pos ⟨rfl, rfl⟩]; rfl) (fun a ha => by omega))
/-- what addsSeries lays -/
def adf (x : Cn) (hr wk fi nw : Int32) (k : Nat) : Int32 := if k = 0 then gi x 721 0 else if k = 1 then gi x 721 1 else if k = 2 then hr else if k = 3 then gi x 721 3 else if k = 4 then (if nw = 0 then 0 else 1) else if k = 5 then fi else if k = 6 then gi x 721 5 else if k = 7 then wk else 0
end
set_option maxHeartbeats 2000000 in
theorem v_X8_addsSeries_0 {K : Sh} {x : Cn} {Q : Cn → Prop} {b0 : Nat} {l1 : Int32} {l2 : Int32} {l3 : Int32} {l4 : Int32} {b0_3 : Nat} {n_b0_3 : Nat} (k_b0 : kk K b0 = some (8, 0)) (g_b0_3 : gr x b0 3 = some b0_3) (k_b0_3 : kk K b0_3 = some (20, n_b0_3)) (K0 : vp_in 2 n_b0_3 ∧ (GV mX8_addsSeries 11 [some (.ref b0), some (.int l1), some (.int l2), some (.int l3), some (.int l4), some (.int (gi x b0_3 2)), some (.int 0)] [] K x Q)) : mSV mX8_addsSeries [.ref b0, .int l1, .int l2, .int l3, .int l4] K x Q := by
  refine s_V (by decide) (by simp [Value.category]) (Nat.le_of_ble_eq_true rfl) ?_
  show mGM mX8_addsSeries 0 [some (.ref b0), some (.int l1), some (.int l2), some (.int l3), some (.int l4), none, none] [] (hp K x) (PV K Q)
  refine r_aload_n (pc := 0) dX8_addsSeries_0 rfl ?_
  refine s_getR (pc := 1) dX8_addsSeries_1 fl_X8_16 rfl k_b0 g_b0_3 ?_
  refine r_iconst (pc := 4) (v := 2) dX8_addsSeries_4 (by decide) ?_
  obtain ⟨i_1, K0⟩ := K0
  refine s_iald (pc := 5) dX8_addsSeries_5 k_b0_3 i_1 ?_
  refine r_istore (pc := 6) dX8_addsSeries_6 (by decide) ?_
  refine r_iconst (pc := 8) (L := [some (.ref b0), some (.int l1), some (.int l2), some (.int l3), some (.int l4), some (.int (gi x b0_3 2)), none]) (v := 0) dX8_addsSeries_8 (by decide) ?_
  refine r_istore (pc := 9) dX8_addsSeries_9 (by decide) ?_
  exact r_le (L' := [some (.ref b0), some (.int l1), some (.int l2), some (.int l3), some (.int l4), some (.int (gi x b0_3 2)), some (.int 0)]) ⟨rfl, ⟨rfl, ⟨rfl, ⟨rfl, ⟨rfl, ⟨rfl, ⟨rfl, trivial⟩⟩⟩⟩⟩⟩⟩ K0
set_option maxHeartbeats 2000000 in
theorem v_X8_addsSeries_11 {K : Sh} {x : Cn} {Q : Cn → Prop} {b0 : Nat} {l1 : Int32} {l2 : Int32} {l3 : Int32} {l4 : Int32} {l5 : Int32} {l6 : Int32} {b0_15 : Nat} {n_b0_15 : Nat} (k_b0 : kk K b0 = some (8, 0)) (g_b0_15 : gr x b0 15 = some b0_15) (k_b0_15 : kk K b0_15 = some (20, n_b0_15)) (K0 : (12 ≤ l6 → (vp_in 0 n_b0_15 ∧ (mSV mX8_lays [.ref b0, .int l5, .int 0, .int (gi x b0_15 0)] K x (fun y_3 => gr y_3 b0 15 = some b0_15 ∧ (vp_in 1 n_b0_15 ∧ (mSV mX8_lays [.ref b0, .int l5, .int 1, .int (gi y_3 b0_15 1)] K y_3 (fun y_6 => mSV mX8_lays [.ref b0, .int l5, .int 2, .int l1] K y_6 (fun y_7 => gr y_7 b0 15 = some b0_15 ∧ (vp_in 3 n_b0_15 ∧ (mSV mX8_lays [.ref b0, .int l5, .int 3, .int (gi y_7 b0_15 3)] K y_7 (fun y_10 => (l4 = 0 → (mSV mX8_lays [.ref b0, .int l5, .int 4, .int 0] K y_10 (fun y_12 => mSV mX8_lays [.ref b0, .int l5, .int 5, .int l3] K y_12 (fun y_13 => gr y_13 b0 15 = some b0_15 ∧ (vp_in 5 n_b0_15 ∧ (mSV mX8_lays [.ref b0, .int l5, .int 6, .int (gi y_13 b0_15 5)] K y_13 (fun y_16 => mSV mX8_lays [.ref b0, .int l5, .int 7, .int l2] K y_16 (fun y_17 => ∃ c_18 : Nat, gr y_17 b0 3 = some c_18 ∧ (∃ n_21 : Nat, kk K c_18 = some (20, n_21) ∧ (vp_in 2 n_21 ∧ (Q (ui y_17 c_18 2 ((gi y_17 c_18 2) + 1))))))))))))) ∧ (¬ l4 = 0 → (mSV mX8_lays [.ref b0, .int l5, .int 4, .int 1] K y_10 (fun y_23 => mSV mX8_lays [.ref b0, .int l5, .int 5, .int l3] K y_23 (fun y_24 => gr y_24 b0 15 = some b0_15 ∧ (vp_in 5 n_b0_15 ∧ (mSV mX8_lays [.ref b0, .int l5, .int 6, .int (gi y_24 b0_15 5)] K y_24 (fun y_27 => mSV mX8_lays [.ref b0, .int l5, .int 7, .int l2] K y_27 (fun y_28 => ∃ c_29 : Nat, gr y_28 b0 3 = some c_29 ∧ (∃ n_32 : Nat, kk K c_29 = some (20, n_32) ∧ (vp_in 2 n_32 ∧ (Q (ui y_28 c_29 2 ((gi y_28 c_29 2) + 1)))))))))))))))))))))))) ∧ (¬ 12 ≤ l6 → (mSV mX8_lays [.ref b0, .int l5, .int l6, .int 0] K x (fun y_34 => GV mX8_addsSeries 11 [some (.ref b0), some (.int l1), some (.int l2), some (.int l3), some (.int l4), some (.int l5), some (.int (l6 + 1))] [] K y_34 Q)))) : GV mX8_addsSeries 11 [some (.ref b0), some (.int l1), some (.int l2), some (.int l3), some (.int l4), some (.int l5), some (.int l6)] [] K x Q := by
  show mGM mX8_addsSeries 11 [some (.ref b0), some (.int l1), some (.int l2), some (.int l3), some (.int l4), some (.int l5), some (.int l6)] [] (hp K x) (PV K Q)
  refine r_iload (pc := 11) dX8_addsSeries_11 rfl ?_
  refine r_bipush (pc := 13) (v := 12) dX8_addsSeries_13 (by decide) ?_
  refine r_icmp_ge (pc := 15) (tgt := 33) dX8_addsSeries_15 (by decide) (fun q => ?_) (fun q => ?_)
  · have K0 := K0.1 q
    refine r_aload_n (pc := 33) dX8_addsSeries_33 rfl ?_
    refine r_iload (pc := 34) dX8_addsSeries_34 rfl ?_
    refine r_iconst (pc := 36) (v := 0) dX8_addsSeries_36 (by decide) ?_
    refine r_aload_n (pc := 37) dX8_addsSeries_37 rfl ?_
    refine s_getR (pc := 38) dX8_addsSeries_38 fl_X8_27 rfl k_b0 g_b0_15 ?_
    refine r_iconst (pc := 41) (v := 0) dX8_addsSeries_41 (by decide) ?_
    obtain ⟨i_2, K0⟩ := K0
    refine s_iald (pc := 42) dX8_addsSeries_42 k_b0_15 i_2 ?_
    refine s_VV (pc := 43) mX8_lays (ci := 8) (a := b0) (As := [.int l5, .int 0, .int (gi x b0_15 0)]) dX8_addsSeries_43 lk_X8_230 in_X8_lays mo_X8_lays ⟨by decide, rfl⟩ ⟨by decide, by decide⟩ (Nat.le_of_ble_eq_true rfl) k_b0 (mSV_mono K0 (fun y_3 K0 => ?_))
    refine r_aload_n (pc := 46) dX8_addsSeries_46 rfl ?_
    refine r_iload (pc := 47) dX8_addsSeries_47 rfl ?_
    refine r_iconst (pc := 49) (v := 1) dX8_addsSeries_49 (by decide) ?_
    refine r_aload_n (pc := 50) dX8_addsSeries_50 rfl ?_
    obtain ⟨g_4, K0⟩ := K0
    refine s_getR (pc := 51) dX8_addsSeries_51 fl_X8_27 rfl k_b0 g_4 ?_
    refine r_iconst (pc := 54) (v := 1) dX8_addsSeries_54 (by decide) ?_
    obtain ⟨i_5, K0⟩ := K0
    refine s_iald (pc := 55) dX8_addsSeries_55 k_b0_15 i_5 ?_
    refine s_VV (pc := 56) mX8_lays (ci := 8) (a := b0) (As := [.int l5, .int 1, .int (gi y_3 b0_15 1)]) dX8_addsSeries_56 lk_X8_230 in_X8_lays mo_X8_lays ⟨by decide, rfl⟩ ⟨by decide, by decide⟩ (Nat.le_of_ble_eq_true rfl) k_b0 (mSV_mono K0 (fun y_6 K0 => ?_))
    refine r_aload_n (pc := 59) dX8_addsSeries_59 rfl ?_
    refine r_iload (pc := 60) dX8_addsSeries_60 rfl ?_
    refine r_iconst (pc := 62) (v := 2) dX8_addsSeries_62 (by decide) ?_
    refine r_iload_n (pc := 63) dX8_addsSeries_63 rfl ?_
    refine s_VV (pc := 64) mX8_lays (ci := 8) (a := b0) (As := [.int l5, .int 2, .int l1]) dX8_addsSeries_64 lk_X8_230 in_X8_lays mo_X8_lays ⟨by decide, rfl⟩ ⟨by decide, by decide⟩ (Nat.le_of_ble_eq_true rfl) k_b0 (mSV_mono K0 (fun y_7 K0 => ?_))
    refine r_aload_n (pc := 67) dX8_addsSeries_67 rfl ?_
    refine r_iload (pc := 68) dX8_addsSeries_68 rfl ?_
    refine r_iconst (pc := 70) (v := 3) dX8_addsSeries_70 (by decide) ?_
    refine r_aload_n (pc := 71) dX8_addsSeries_71 rfl ?_
    obtain ⟨g_8, K0⟩ := K0
    refine s_getR (pc := 72) dX8_addsSeries_72 fl_X8_27 rfl k_b0 g_8 ?_
    refine r_iconst (pc := 75) (v := 3) dX8_addsSeries_75 (by decide) ?_
    obtain ⟨i_9, K0⟩ := K0
    refine s_iald (pc := 76) dX8_addsSeries_76 k_b0_15 i_9 ?_
    refine s_VV (pc := 77) mX8_lays (ci := 8) (a := b0) (As := [.int l5, .int 3, .int (gi y_7 b0_15 3)]) dX8_addsSeries_77 lk_X8_230 in_X8_lays mo_X8_lays ⟨by decide, rfl⟩ ⟨by decide, by decide⟩ (Nat.le_of_ble_eq_true rfl) k_b0 (mSV_mono K0 (fun y_10 K0 => ?_))
    refine r_aload_n (pc := 80) dX8_addsSeries_80 rfl ?_
    refine r_iload (pc := 81) dX8_addsSeries_81 rfl ?_
    refine r_iconst (pc := 83) (v := 4) dX8_addsSeries_83 (by decide) ?_
    refine r_iload (pc := 84) dX8_addsSeries_84 rfl ?_
    refine r_if_eq (pc := 86) (tgt := 93) dX8_addsSeries_86 (by decide) (fun q => ?_) (fun q => ?_)
    · have K0 := K0.1 q
      refine r_iconst (pc := 93) (v := 0) dX8_addsSeries_93 (by decide) ?_
      refine s_VV (pc := 94) mX8_lays (ci := 8) (a := b0) (As := [.int l5, .int 4, .int 0]) dX8_addsSeries_94 lk_X8_230 in_X8_lays mo_X8_lays ⟨by decide, rfl⟩ ⟨by decide, by decide⟩ (Nat.le_of_ble_eq_true rfl) k_b0 (mSV_mono K0 (fun y_12 K0 => ?_))
      refine r_aload_n (pc := 97) dX8_addsSeries_97 rfl ?_
      refine r_iload (pc := 98) dX8_addsSeries_98 rfl ?_
      refine r_iconst (pc := 100) (v := 5) dX8_addsSeries_100 (by decide) ?_
      refine r_iload_n (pc := 101) dX8_addsSeries_101 rfl ?_
      refine s_VV (pc := 102) mX8_lays (ci := 8) (a := b0) (As := [.int l5, .int 5, .int l3]) dX8_addsSeries_102 lk_X8_230 in_X8_lays mo_X8_lays ⟨by decide, rfl⟩ ⟨by decide, by decide⟩ (Nat.le_of_ble_eq_true rfl) k_b0 (mSV_mono K0 (fun y_13 K0 => ?_))
      refine r_aload_n (pc := 105) dX8_addsSeries_105 rfl ?_
      refine r_iload (pc := 106) dX8_addsSeries_106 rfl ?_
      refine r_bipush (pc := 108) (v := 6) dX8_addsSeries_108 (by decide) ?_
      refine r_aload_n (pc := 110) dX8_addsSeries_110 rfl ?_
      obtain ⟨g_14, K0⟩ := K0
      refine s_getR (pc := 111) dX8_addsSeries_111 fl_X8_27 rfl k_b0 g_14 ?_
      refine r_iconst (pc := 114) (v := 5) dX8_addsSeries_114 (by decide) ?_
      obtain ⟨i_15, K0⟩ := K0
      refine s_iald (pc := 115) dX8_addsSeries_115 k_b0_15 i_15 ?_
      refine s_VV (pc := 116) mX8_lays (ci := 8) (a := b0) (As := [.int l5, .int 6, .int (gi y_13 b0_15 5)]) dX8_addsSeries_116 lk_X8_230 in_X8_lays mo_X8_lays ⟨by decide, rfl⟩ ⟨by decide, by decide⟩ (Nat.le_of_ble_eq_true rfl) k_b0 (mSV_mono K0 (fun y_16 K0 => ?_))
      refine r_aload_n (pc := 119) dX8_addsSeries_119 rfl ?_
      refine r_iload (pc := 120) dX8_addsSeries_120 rfl ?_
      refine r_bipush (pc := 122) (v := 7) dX8_addsSeries_122 (by decide) ?_
      refine r_iload_n (pc := 124) dX8_addsSeries_124 rfl ?_
      refine s_VV (pc := 125) mX8_lays (ci := 8) (a := b0) (As := [.int l5, .int 7, .int l2]) dX8_addsSeries_125 lk_X8_230 in_X8_lays mo_X8_lays ⟨by decide, rfl⟩ ⟨by decide, by decide⟩ (Nat.le_of_ble_eq_true rfl) k_b0 (mSV_mono K0 (fun y_17 K0 => ?_))
      refine r_aload_n (pc := 128) dX8_addsSeries_128 rfl ?_
      obtain ⟨c_18, g_19, K0⟩ := K0
      refine s_getR (pc := 129) dX8_addsSeries_129 fl_X8_16 rfl k_b0 g_19 ?_
      refine r_iconst (pc := 132) (v := 2) dX8_addsSeries_132 (by decide) ?_
      refine r_dup2 (pc := 133) dX8_addsSeries_133 rfl rfl ?_
      obtain ⟨n_21, e_20, K0⟩ := K0
      obtain ⟨i_22, K0⟩ := K0
      refine s_iald (pc := 134) dX8_addsSeries_134 e_20 i_22 ?_
      refine r_iconst (pc := 135) (v := 1) dX8_addsSeries_135 (by decide) ?_
      refine r_iadd (pc := 136) dX8_addsSeries_136 ?_
      refine s_iast (pc := 137) dX8_addsSeries_137 e_20 i_22 ?_
      exact s_ret rfl dX8_addsSeries_138 K0
    · have K0 := K0.2 q
      refine r_iconst (pc := 89) (v := 1) dX8_addsSeries_89 (by decide) ?_
      refine r_goto (pc := 90) (tgt := 94) dX8_addsSeries_90 (by decide) ?_
      refine s_VV (pc := 94) mX8_lays (ci := 8) (a := b0) (As := [.int l5, .int 4, .int 1]) dX8_addsSeries_94 lk_X8_230 in_X8_lays mo_X8_lays ⟨by decide, rfl⟩ ⟨by decide, by decide⟩ (Nat.le_of_ble_eq_true rfl) k_b0 (mSV_mono K0 (fun y_23 K0 => ?_))
      refine r_aload_n (pc := 97) dX8_addsSeries_97 rfl ?_
      refine r_iload (pc := 98) dX8_addsSeries_98 rfl ?_
      refine r_iconst (pc := 100) (v := 5) dX8_addsSeries_100 (by decide) ?_
      refine r_iload_n (pc := 101) dX8_addsSeries_101 rfl ?_
      refine s_VV (pc := 102) mX8_lays (ci := 8) (a := b0) (As := [.int l5, .int 5, .int l3]) dX8_addsSeries_102 lk_X8_230 in_X8_lays mo_X8_lays ⟨by decide, rfl⟩ ⟨by decide, by decide⟩ (Nat.le_of_ble_eq_true rfl) k_b0 (mSV_mono K0 (fun y_24 K0 => ?_))
      refine r_aload_n (pc := 105) dX8_addsSeries_105 rfl ?_
      refine r_iload (pc := 106) dX8_addsSeries_106 rfl ?_
      refine r_bipush (pc := 108) (v := 6) dX8_addsSeries_108 (by decide) ?_
      refine r_aload_n (pc := 110) dX8_addsSeries_110 rfl ?_
      obtain ⟨g_25, K0⟩ := K0
      refine s_getR (pc := 111) dX8_addsSeries_111 fl_X8_27 rfl k_b0 g_25 ?_
      refine r_iconst (pc := 114) (v := 5) dX8_addsSeries_114 (by decide) ?_
      obtain ⟨i_26, K0⟩ := K0
      refine s_iald (pc := 115) dX8_addsSeries_115 k_b0_15 i_26 ?_
      refine s_VV (pc := 116) mX8_lays (ci := 8) (a := b0) (As := [.int l5, .int 6, .int (gi y_24 b0_15 5)]) dX8_addsSeries_116 lk_X8_230 in_X8_lays mo_X8_lays ⟨by decide, rfl⟩ ⟨by decide, by decide⟩ (Nat.le_of_ble_eq_true rfl) k_b0 (mSV_mono K0 (fun y_27 K0 => ?_))
      refine r_aload_n (pc := 119) dX8_addsSeries_119 rfl ?_
      refine r_iload (pc := 120) dX8_addsSeries_120 rfl ?_
      refine r_bipush (pc := 122) (v := 7) dX8_addsSeries_122 (by decide) ?_
      refine r_iload_n (pc := 124) dX8_addsSeries_124 rfl ?_
      refine s_VV (pc := 125) mX8_lays (ci := 8) (a := b0) (As := [.int l5, .int 7, .int l2]) dX8_addsSeries_125 lk_X8_230 in_X8_lays mo_X8_lays ⟨by decide, rfl⟩ ⟨by decide, by decide⟩ (Nat.le_of_ble_eq_true rfl) k_b0 (mSV_mono K0 (fun y_28 K0 => ?_))
      refine r_aload_n (pc := 128) dX8_addsSeries_128 rfl ?_
      obtain ⟨c_29, g_30, K0⟩ := K0
      refine s_getR (pc := 129) dX8_addsSeries_129 fl_X8_16 rfl k_b0 g_30 ?_
      refine r_iconst (pc := 132) (v := 2) dX8_addsSeries_132 (by decide) ?_
      refine r_dup2 (pc := 133) dX8_addsSeries_133 rfl rfl ?_
      obtain ⟨n_32, e_31, K0⟩ := K0
      obtain ⟨i_33, K0⟩ := K0
      refine s_iald (pc := 134) dX8_addsSeries_134 e_31 i_33 ?_
      refine r_iconst (pc := 135) (v := 1) dX8_addsSeries_135 (by decide) ?_
      refine r_iadd (pc := 136) dX8_addsSeries_136 ?_
      refine s_iast (pc := 137) dX8_addsSeries_137 e_31 i_33 ?_
      exact s_ret rfl dX8_addsSeries_138 K0
  · have K0 := K0.2 q
    refine r_aload_n (pc := 18) dX8_addsSeries_18 rfl ?_
    refine r_iload (pc := 19) dX8_addsSeries_19 rfl ?_
    refine r_iload (pc := 21) dX8_addsSeries_21 rfl ?_
    refine r_iconst (pc := 23) (v := 0) dX8_addsSeries_23 (by decide) ?_
    refine s_VV (pc := 24) mX8_lays (ci := 8) (a := b0) (As := [.int l5, .int l6, .int 0]) dX8_addsSeries_24 lk_X8_230 in_X8_lays mo_X8_lays ⟨by decide, rfl⟩ ⟨by decide, by decide⟩ (Nat.le_of_ble_eq_true rfl) k_b0 (mSV_mono K0 (fun y_34 K0 => ?_))
    refine r_iinc (pc := 27) (v := l6 + 1) dX8_addsSeries_27 rfl rfl (by decide) ?_
    refine r_goto (pc := 30) (L := [some (.ref b0), some (.int l1), some (.int l2), some (.int l3), some (.int l4), some (.int l5), some (.int (l6 + 1))]) (tgt := 11) dX8_addsSeries_30 (by decide) ?_
    exact r_le (L' := [some (.ref b0), some (.int l1), some (.int l2), some (.int l3), some (.int l4), some (.int l5), some (.int (l6 + 1))]) ⟨rfl, ⟨rfl, ⟨rfl, ⟨rfl, ⟨rfl, ⟨rfl, ⟨rfl, trivial⟩⟩⟩⟩⟩⟩⟩ K0
section
theorem sp_X8_addsSeries {x : Cn} {Q : Cn → Prop} {t S : Nat} {hr wk fi nw : Int32} (M : MRf x t) (ht : kk KW t = some (20, 518)) (ht2 : t ≠ 721) (h2 : gi x t 2 = nI S) (hS : S < 24) (k : ∀ y : Cn, y.2 = x.2 → (∀ a j, a ≠ t → gi y a j = gi x a j) → gi y t = adT (gi x t) S (adf x hr wk fi nw) → Q y) : mSV mX8_addsSeries [.ref 717, .int hr, .int wk, .int fi, .int nw] KW x Q := by
  have key : ∀ c m y, m + c = 12 → y.2 = x.2 → (∀ a j, a ≠ t → gi y a j = gi x a j) → gi y t = (fun i => if 62 + 12 * S ≤ i ∧ i < 62 + 12 * S + m then 0 else gi x t i) → GV mX8_addsSeries 11 [some (.ref 717), some (.int hr), some (.int wk), some (.int fi), some (.int nw), some (.int (nI S)), some (.int (nI m))] [] KW y Q := by
    intro c
    induction c with
    | zero =>
      intro m y hm y1 y2 y3
      have : m = 12 := by omega
      subst this
      have M2 := M.keep y1
      have r : ∀ (z : Cn), z.2 = x.2 → gr z 717 15 = some 721 := fun z hz => (M.keep hz).2.2.2.2.1
      have o : ∀ (z : Cn) i v, (∀ a j, a ≠ t → gi z a j = gi x a j) → (∀ a j, a ≠ t → gi (ui z t i v) a j = gi x a j) := fun z i v hz a j ha => by rw [gi_ui, if_neg (fun u => ha u.1)]; exact hz a j ha
      refine v_X8_addsSeries_11 km M2.2.2.2.2.1 km721 ⟨fun _ => ⟨v0 (k := 0) (by decide) rfl rfl, ?_⟩, fun z => absurd (Int32.le_refl _) z⟩
      rw [y2 721 0 (Ne.symm ht2)]
      refine sp_X8_lays (k := 0) (M.keep y1) ht hS (by decide) ⟨r _ y1, v0 (k := 1) (by decide) rfl rfl, ?_⟩
      rw [o _ _ _ y2 721 1 (Ne.symm ht2)]
      refine sp_X8_lays (k := 1) (M.keep y1) ht hS (by decide) (sp_X8_lays (k := 2) (M.keep y1) ht hS (by decide) ⟨r _ y1, v0 (k := 3) (by decide) rfl rfl, ?_⟩)
      rw [o _ _ _ (o _ _ _ (o _ _ _ y2)) 721 3 (Ne.symm ht2)]
      have fin : ∀ w, w = (if nw = 0 then (0 : Int32) else 1) → mSV mX8_lays [.ref 717, .int (nI S), .int 4, .int w] KW (ui (ui (ui (ui y t (62 + 12 * S + 0) (gi x 721 0)) t (62 + 12 * S + 1) (gi x 721 1)) t (62 + 12 * S + 2) hr) t (62 + 12 * S + 3) (gi x 721 3)) (fun y_12 => mSV mX8_lays [.ref 717, .int (nI S), .int 5, .int fi] KW y_12 (fun y_13 => gr y_13 717 15 = some 721 ∧ (vp_in 5 7 ∧ mSV mX8_lays [.ref 717, .int (nI S), .int 6, .int (gi y_13 721 5)] KW y_13 (fun y_16 => mSV mX8_lays [.ref 717, .int (nI S), .int 7, .int wk] KW y_16 (fun y_17 => ∃ c_18, gr y_17 717 3 = some c_18 ∧ ∃ n_21, kk KW c_18 = some (20, n_21) ∧ (vp_in 2 n_21 ∧ Q (ui y_17 c_18 2 (gi y_17 c_18 2 + 1)))))))) := by
        intro w hw
        refine sp_X8_lays (k := 4) (M.keep y1) ht hS (by decide) (sp_X8_lays (k := 5) (M.keep y1) ht hS (by decide) ⟨r _ y1, v0 (k := 5) (by decide) rfl rfl, ?_⟩)
        rw [o _ _ _ (o _ _ _ (o _ _ _ (o _ _ _ (o _ _ _ (o _ _ _ y2))))) 721 5 (Ne.symm ht2)]
        refine sp_X8_lays (k := 6) (M.keep y1) ht hS (by decide) (sp_X8_lays (k := 7) (M.keep y1) ht hS (by decide) ⟨t, (M.keep (show _ = x.2 from y1)).2.2.1, 518, ht, v0 (k := 2) (by decide) rfl rfl, ?_⟩)
        refine k _ y1 (o _ _ _ (o _ _ _ (o _ _ _ (o _ _ _ (o _ _ _ (o _ _ _ (o _ _ _ (o _ _ _ (o _ _ _ y2))))))))) ?_
        simp only [gi_at]
        rw [y3]
        funext i
        unfold adT adf
        by_cases c2 : i = 2
        · subst c2
          rw [uT_at, if_pos rfl]
          simp only [uT]
          rw [if_neg (by omega), if_neg (by omega), if_neg (by omega), if_neg (by omega), if_neg (by omega), if_neg (by omega), if_neg (by omega), if_neg (by omega), if_neg (by omega), h2, nI_1]
        · rw [uT_ne _ _ c2, if_neg c2]
          by_cases c3 : 62 + 12 * S ≤ i ∧ i < 74 + 12 * S
          · rw [if_pos c3]
            obtain ⟨j, rfl⟩ : ∃ j, i = 62 + 12 * S + j := ⟨i - (62 + 12 * S), by omega⟩
            have hj : j < 12 := by omega
            rw [show 62 + 12 * S + j - (62 + 12 * S) = j by omega, hw]
            rcases lt12 hj with rfl | rfl | rfl | rfl | rfl | rfl | rfl | rfl | rfl | rfl | rfl | rfl <;> simp [uT]
          · rw [if_neg c3, uT_ne _ _ (by omega), uT_ne _ _ (by omega), uT_ne _ _ (by omega), uT_ne _ _ (by omega), uT_ne _ _ (by omega), uT_ne _ _ (by omega), uT_ne _ _ (by omega), uT_ne _ _ (by omega), if_neg (by omega)]
      refine sp_X8_lays (k := 3) (M.keep y1) ht hS (by decide) ⟨fun z => fin 0 (by rw [if_pos z]), fun z => fin 1 (by rw [if_neg z])⟩
    | succ c ih =>
      intro m y hm y1 y2 y3
      have M2 := M.keep y1
      refine v_X8_addsSeries_11 km M2.2.2.2.2.1 km721 ⟨fun z => absurd z (nI_ge (b := 12) (by omega) (by decide)), fun _ => sp_X8_lays (k := m) M2 ht hS (by omega) ?_⟩
      rw [nI_1]
      refine ih (m + 1) _ (by omega) y1 (fun a j ha => by rw [gi_ui, if_neg (fun u => ha u.1)]; exact y2 a j ha) ?_
      rw [gi_at, y3]
      funext i
      show (if i = 62 + 12 * S + m then 0 else if 62 + 12 * S ≤ i ∧ i < 62 + 12 * S + m then 0 else gi x t i) = (if 62 + 12 * S ≤ i ∧ i < 62 + 12 * S + (m + 1) then 0 else gi x t i)
      by_cases c1 : i = 62 + 12 * S + m
      · rw [if_pos c1, if_pos (by omega)]
      · rw [if_neg c1]
        by_cases c2 : 62 + 12 * S ≤ i ∧ i < 62 + 12 * S + m
        · rw [if_pos c2, if_pos (show 62 + 12 * S ≤ i ∧ i < 62 + 12 * S + (m + 1) by omega)]
        · rw [if_neg c2, if_neg (show ¬ (62 + 12 * S ≤ i ∧ i < 62 + 12 * S + (m + 1)) by omega)]
  refine v_X8_addsSeries_0 km M.2.2.1 ht ⟨v0 (k := 2) (by decide) rfl rfl, ?_⟩
  rw [h2]
  exact key 12 0 x (by omega) rfl (fun _ _ _ => rfl) (by funext i; rw [if_neg (by omega)])
end
set_option maxHeartbeats 2000000 in
theorem v_X8_grants_0 {K : Sh} {x : Cn} {Q : Cn → Prop} {b0 : Nat} {l1 : Int32} {l2 : Int32}   (K0 : GV mX8_grants 2 [some (.ref b0), some (.int l1), some (.int l2), some (.int 0)] [] K x Q) : mSV mX8_grants [.ref b0, .int l1, .int l2] K x Q := by
  refine s_V (by decide) (by simp [Value.category]) (Nat.le_of_ble_eq_true rfl) ?_
  show mGM mX8_grants 0 [some (.ref b0), some (.int l1), some (.int l2), none] [] (hp K x) (PV K Q)
  refine r_iconst (pc := 0) (v := 0) dX8_grants_0 (by decide) ?_
  refine r_istore_n (pc := 1) dX8_grants_1 (by decide) ?_
  exact r_le (L' := [some (.ref b0), some (.int l1), some (.int l2), some (.int 0)]) ⟨rfl, ⟨rfl, ⟨rfl, ⟨rfl, trivial⟩⟩⟩⟩ K0
set_option maxHeartbeats 2000000 in
theorem v_X8_grants_2 {K : Sh} {x : Cn} {Q : Cn → Prop} {b0 : Nat} {l1 : Int32} {l2 : Int32} {l3 : Int32} {b0_3 : Nat} {n_b0_3 : Nat} {b0_15 : Nat} {n_b0_15 : Nat} (k_b0 : kk K b0 = some (8, 0)) (g_b0_3 : gr x b0 3 = some b0_3) (k_b0_3 : kk K b0_3 = some (20, n_b0_3)) (g_b0_15 : gr x b0 15 = some b0_15) (k_b0_15 : kk K b0_15 = some (20, n_b0_15)) (K0 : (7 ≤ l3 → ((l24 l1 n_b0_3) ∧ (vp_in 4 n_b0_3 ∧ (mSV mX8_addsSeries [.ref b0, .int l2, .int (f_span (ao (gi x b0_3) (l1 : Int32).toNatClampNeg 4) (ao (gi x b0_3) (l1 : Int32).toNatClampNeg 5) &&& f_span (gi x b0_3 4) (gi x b0_3 0 - 1)), .int (if (ao (gi x b0_3) (l1 : Int32).toNatClampNeg 4) < (gi x b0_3 4) then (gi x b0_3 4) else (ao (gi x b0_3) (l1 : Int32).toNatClampNeg 4)), .int 1] K x (fun y_4 => ∃ c_5 : Nat, gr y_4 b0 17 = some c_5 ∧ (∃ n_8 : Nat, kk K c_5 = some (20, n_8) ∧ (vp_in l1 n_8 ∧ (Q (ui y_4 c_5 (l1 : Int32).toNatClampNeg l2))))))))) ∧ (¬ 7 ≤ l3 → ((l24 l1 n_b0_3) ∧ ((l7 l3) ∧ (vp_in l3 n_b0_15 ∧ (GV mX8_grants 2 [some (.ref b0), some (.int l1), some (.int l2), some (.int (l3 + 1))] [] K (ui x b0_15 (l3 : Int32).toNatClampNeg (ao (gi x b0_3) (l1 : Int32).toNatClampNeg (l3 : Int32).toNatClampNeg)) Q)))))) : GV mX8_grants 2 [some (.ref b0), some (.int l1), some (.int l2), some (.int l3)] [] K x Q := by
  show mGM mX8_grants 2 [some (.ref b0), some (.int l1), some (.int l2), some (.int l3)] [] (hp K x) (PV K Q)
  refine r_iload_n (pc := 2) dX8_grants_2 rfl ?_
  refine r_bipush (pc := 3) (v := 7) dX8_grants_3 (by decide) ?_
  refine r_icmp_ge (pc := 5) (tgt := 26) dX8_grants_5 (by decide) (fun q => ?_) (fun q => ?_)
  · have K0 := K0.1 q
    refine r_aload_n (pc := 26) dX8_grants_26 rfl ?_
    refine r_iload_n (pc := 27) dX8_grants_27 rfl ?_
    refine r_aload_n (pc := 28) dX8_grants_28 rfl ?_
    refine r_iload_n (pc := 29) dX8_grants_29 rfl ?_
    obtain ⟨p_2, K0⟩ := K0
    refine s_VI (pc := 30) mX8_weeksOf (ci := 8) (a := b0) (As := [.int l1]) dX8_grants_30 lk_X8_326 in_X8_weeksOf mo_X8_weeksOf ⟨by decide, rfl⟩ ⟨by decide, by decide⟩ (Nat.le_of_ble_eq_true rfl) k_b0 (sr_X8_weeksOf k_b0 g_b0_3 k_b0_3 p_2 ?_)
    refine r_aload_n (pc := 33) dX8_grants_33 rfl ?_
    refine r_iload_n (pc := 34) dX8_grants_34 rfl ?_
    refine r_iconst (pc := 35) (v := 4) dX8_grants_35 (by decide) ?_
    refine s_VI (pc := 36) mX8_ask0 (ci := 8) (a := b0) (As := [.int l1, .int 4]) dX8_grants_36 lk_X8_284 in_X8_ask0 mo_X8_ask0 ⟨by decide, rfl⟩ ⟨by decide, by decide⟩ (Nat.le_of_ble_eq_true rfl) k_b0 (sr_X8_ask0 k_b0 g_b0_3 k_b0_3 p_2 ⟨by decide, by decide⟩ ?_)
    refine r_aload_n (pc := 39) dX8_grants_39 rfl ?_
    refine s_getR (pc := 40) dX8_grants_40 fl_X8_16 rfl k_b0 g_b0_3 ?_
    refine r_iconst (pc := 43) (v := 4) dX8_grants_43 (by decide) ?_
    obtain ⟨i_3, K0⟩ := K0
    refine s_iald (pc := 44) dX8_grants_44 k_b0_3 i_3 ?_
    refine r_mmax (pc := 45) dX8_grants_45 lk_X8_293 mw_max ⟨by decide, by decide⟩ (Nat.le_of_ble_eq_true rfl) ?_
    refine r_iconst (pc := 48) (v := 1) dX8_grants_48 (by decide) ?_
    refine s_VV (pc := 49) mX8_addsSeries (ci := 8) (a := b0) (As := [.int l2, .int (f_span (ao (gi x b0_3) (l1 : Int32).toNatClampNeg 4) (ao (gi x b0_3) (l1 : Int32).toNatClampNeg 5) &&& f_span (gi x b0_3 4) (gi x b0_3 0 - 1)), .int (if (ao (gi x b0_3) (l1 : Int32).toNatClampNeg 4) < (gi x b0_3 4) then (gi x b0_3 4) else (ao (gi x b0_3) (l1 : Int32).toNatClampNeg 4)), .int 1]) dX8_grants_49 lk_X8_237 in_X8_addsSeries mo_X8_addsSeries ⟨by decide, rfl⟩ ⟨by decide, by decide⟩ (Nat.le_of_ble_eq_true rfl) k_b0 (mSV_mono K0 (fun y_4 K0 => ?_))
    refine r_aload_n (pc := 52) dX8_grants_52 rfl ?_
    obtain ⟨c_5, g_6, K0⟩ := K0
    refine s_getR (pc := 53) dX8_grants_53 fl_X8_33 rfl k_b0 g_6 ?_
    refine r_iload_n (pc := 56) dX8_grants_56 rfl ?_
    refine r_iload_n (pc := 57) dX8_grants_57 rfl ?_
    obtain ⟨n_8, e_7, K0⟩ := K0
    obtain ⟨i_9, K0⟩ := K0
    refine s_iast (pc := 58) dX8_grants_58 e_7 i_9 ?_
    exact s_ret rfl dX8_grants_59 K0
  · have K0 := K0.2 q
    refine r_aload_n (pc := 8) dX8_grants_8 rfl ?_
    refine s_getR (pc := 9) dX8_grants_9 fl_X8_27 rfl k_b0 g_b0_15 ?_
    refine r_iload_n (pc := 12) dX8_grants_12 rfl ?_
    refine r_aload_n (pc := 13) dX8_grants_13 rfl ?_
    refine r_iload_n (pc := 14) dX8_grants_14 rfl ?_
    refine r_iload_n (pc := 15) dX8_grants_15 rfl ?_
    obtain ⟨p_10, K0⟩ := K0
    obtain ⟨p_11, K0⟩ := K0
    refine s_VI (pc := 16) mX8_ask0 (ci := 8) (a := b0) (As := [.int l1, .int l3]) dX8_grants_16 lk_X8_284 in_X8_ask0 mo_X8_ask0 ⟨by decide, rfl⟩ ⟨by decide, by decide⟩ (Nat.le_of_ble_eq_true rfl) k_b0 (sr_X8_ask0 k_b0 g_b0_3 k_b0_3 p_10 p_11 ?_)
    obtain ⟨i_12, K0⟩ := K0
    refine s_iast (pc := 19) dX8_grants_19 k_b0_15 i_12 ?_
    refine r_iinc (pc := 20) (v := l3 + 1) dX8_grants_20 rfl rfl (by decide) ?_
    refine r_goto (pc := 23) (L := [some (.ref b0), some (.int l1), some (.int l2), some (.int (l3 + 1))]) (tgt := 2) dX8_grants_23 (by decide) ?_
    exact r_le (L' := [some (.ref b0), some (.int l1), some (.int l2), some (.int (l3 + 1))]) ⟨rfl, ⟨rfl, ⟨rfl, ⟨rfl, trivial⟩⟩⟩⟩ K0
section
theorem sp_X8_grants {x : Cn} {Q : Cn → Prop} {t S a : Nat} {hr : Int32} (M : MRf x t) (ht : kk KW t = some (20, 518)) (ht2 : t ≠ 721) (ht3 : t ≠ 723) (h2 : gi x t 2 = nI S) (hS : S < 24) (ha : a < 24) (k : ∀ y : Cn, y.2 = x.2 → (∀ b j, b ≠ t → b ≠ 721 → b ≠ 723 → gi y b j = gi x b j) → gi y t = grT (gi x t) S a hr → (∀ b, gi y 723 b = if b = a then hr else gi x 723 b) → Q y) : mSV mX8_grants [.ref 717, .int (nI a), .int hr] KW x Q := by
  have key : ∀ c m y, m + c = 7 → EQx x y 721 → (∀ j, j < m → gi y 721 j = ao (gi x t) a j) → GV mX8_grants 2 [some (.ref 717), some (.int (nI a)), some (.int hr), some (.int (nI m))] [] KW y Q := by
    intro c
    induction c with
    | zero =>
      intro m y hm f1 f2
      have : m = 7 := by omega
      subst this
      have M2 := M.keep f1.1
      have et : gi y t = gi x t := funext (fun i => f1.2 t i ht2)
      refine v_X8_grants_2 km M2.2.2.1 ht M2.2.2.2.2.1 km721 ⟨fun _ => ⟨l24_nI ha rfl, v0 (k := 4) (by decide) rfl rfl, ?_⟩, fun z => absurd (Int32.le_refl _) z⟩
      rw [et, nI_clamp (by omega)]
      refine sp_X8_addsSeries M2 ht ht2 (by rw [et]; exact h2) hS (fun v v1 v2 v3 => ⟨723, (M2.keep v1).2.2.2.2.2.2.1, 24, km723, vp_in_nI ha (by decide), ?_⟩)
      refine k _ (v1.trans f1.1) (fun b j b1 b2 b3 => ?_) ?_ (fun b => ?_)
      · rw [gi_ui, if_neg (fun u => b3 u.1), v2 b j b1]; exact f1.2 b j b2
      · have : gi (ui v 723 a hr) t = gi v t := funext (fun i => by rw [gi_ui, if_neg (fun u => ht3 u.1)])
        rw [this, v3, et]
        unfold grT
        congr 1
        funext j
        unfold adf grf
        rw [f2 0 (by decide), f2 1 (by decide), f2 3 (by decide), f2 5 (by decide)]
        rfl
      · rw [gi_ui]
        by_cases c1 : b = a
        · rw [if_pos ⟨rfl, c1⟩, if_pos c1]
        · rw [if_neg (fun u => c1 u.2), if_neg c1, v2 723 b (Ne.symm ht3)]; exact f1.2 723 b (by decide)
    | succ c ih =>
      intro m y hm f1 f2
      have M2 := M.keep f1.1
      refine v_X8_grants_2 km M2.2.2.1 ht M2.2.2.2.2.1 km721 ⟨fun z => absurd z (nI_ge (b := 7) (by omega) (by decide)), fun _ => ⟨l24_nI ha rfl, ⟨nI_pos' (by omega), nI_lt (b := 7) (by omega) (by decide)⟩, vp_in_nI (by omega) (by decide), ?_⟩⟩
      rw [nI_1, nI_clamp (show m < 2 ^ 31 by omega), nI_clamp (show a < 2 ^ 31 by omega), show gi y t = gi x t from funext (fun i => f1.2 t i ht2)]
      refine ih (m + 1) _ (by omega) f1.ui (fun j hj => ?_)
      rw [gi_ui]
      by_cases c1 : j = m
      · rw [if_pos ⟨rfl, c1⟩, c1]
      · rw [if_neg (fun u => c1 u.2)]; exact f2 j (by omega)
  exact v_X8_grants_0 (key 7 0 x (by omega) (EQx.rf x _) (fun j hj => by omega))
/-- what is written while a pool is played, in the reference -/
def PFr (x z : Cn) : Prop := z.2 = x.2 ∧ ∀ a k, a ≠ 719 → a ≠ 721 → a ≠ 722 → a ≠ 723 → ¬ (a = 717 ∧ k = 18) → gi z a k = gi x a k
theorem PFr.rf (x : Cn) : PFr x x := ⟨rfl, fun _ _ _ _ _ _ _ => rfl⟩
theorem PFr.tr {x y z : Cn} (h : PFr x y) (g : PFr y z) : PFr x z := ⟨g.1.trans h.1, fun a k a1 a2 a3 a4 a5 => (g.2 a k a1 a2 a3 a4 a5).trans (h.2 a k a1 a2 a3 a4 a5)⟩
def PRS (z : Cn) (p : PS) (k : Nat) : Prop := MRf z 719 ∧ gi z 719 = p.1 ∧ (∀ a, a < 24 → gi z 722 a = p.2.2.1 a) ∧ (∀ a, a < 24 → gi z 723 a = p.2.2.2.1 a) ∧ gi z 717 18 = nI k
theorem fl_s (k : Nat) : fl (k + 1) = if fl k = 0 then 1 else 0 := by
  unfold fl
  by_cases c : k % 2 = 0
  · rw [if_pos c, if_neg (by omega), if_neg (by decide)]
  · rw [if_neg c, if_pos (by omega), if_pos rfl]
end
set_option maxHeartbeats 2000000 in
theorem v_X8_plays_0 {K : Sh} {x : Cn} {Q : Int32 → Cn → Prop} {b0 : Nat}  (k_b0 : kk K b0 = some (8, 0)) (K0 : mSV mX8_begins [.ref b0] K x (fun y_1 => GI mX8_plays 8 [some (.ref b0), some (.int 0), some (.int 1), none, none] [] K y_1 Q)) : mSI mX8_plays [.ref b0] K x Q := by
  refine s_I (by decide) (by simp [Value.category]) (Nat.le_of_ble_eq_true rfl) ?_
  show mGM mX8_plays 0 [some (.ref b0), none, none, none, none] [] (hp K x) (PI K Q)
  refine r_aload_n (pc := 0) dX8_plays_0 rfl ?_
  refine s_VV (pc := 1) mX8_begins (ci := 8) (a := b0) (As := []) dX8_plays_1 lk_X8_338 in_X8_begins mo_X8_begins ⟨by decide, rfl⟩ ⟨by decide, by decide⟩ (Nat.le_of_ble_eq_true rfl) k_b0 (mSV_mono K0 (fun y_1 K0 => ?_))
  refine r_iconst (pc := 4) (v := 0) dX8_plays_4 (by decide) ?_
  refine r_istore_n (pc := 5) dX8_plays_5 (by decide) ?_
  refine r_iconst (pc := 6) (L := [some (.ref b0), some (.int 0), none, none, none]) (v := 1) dX8_plays_6 (by decide) ?_
  refine r_istore_n (pc := 7) dX8_plays_7 (by decide) ?_
  exact r_le (L' := [some (.ref b0), some (.int 0), some (.int 1), none, none]) ⟨rfl, ⟨rfl, ⟨rfl, trivial⟩⟩⟩ K0
set_option maxHeartbeats 2000000 in
theorem v_X8_plays_8 {K : Sh} {x : Cn} {Q : Int32 → Cn → Prop} {b0 : Nat} {l1 : Int32} {l2 : Int32} {b0_3 : Nat} {n_b0_3 : Nat} (k_b0 : kk K b0 = some (8, 0)) (g_b0_3 : gr x b0 3 = some b0_3) (k_b0_3 : kk K b0_3 = some (20, n_b0_3)) (K0 : vp_in 3 n_b0_3 ∧ (((gi x b0_3 3) ≤ (gi x b0 18) → (Q l1 x)) ∧ (¬ (gi x b0_3 3) ≤ (gi x b0 18) → (mSI mX8_chosen [.ref b0, .int l2] K x (fun r_4 y_3 => (¬ r_4 = (-1) → (GI mX8_plays 46 [some (.ref b0), some (.int l1), some (.int l2), some (.int r_4), none] [] K y_3 Q)) ∧ (r_4 = (-1) → ((¬ l2 = 0 → (mSI mX8_chosen [.ref b0, .int 0] K y_3 (fun r_8 y_7 => GI mX8_plays 46 [some (.ref b0), some (.int l1), some (.int l2), some (.int r_8), none] [] K y_7 Q))) ∧ (l2 = 0 → (mSI mX8_chosen [.ref b0, .int 1] K y_3 (fun r_10 y_9 => GI mX8_plays 46 [some (.ref b0), some (.int l1), some (.int l2), some (.int r_10), none] [] K y_9 Q)))))))))) : GI mX8_plays 8 [some (.ref b0), some (.int l1), some (.int l2), none, none] [] K x Q := by
  show mGM mX8_plays 8 [some (.ref b0), some (.int l1), some (.int l2), none, none] [] (hp K x) (PI K Q)
  refine r_aload_n (pc := 8) dX8_plays_8 rfl ?_
  refine s_getI (pc := 9) dX8_plays_9 fl_X8_335 rfl k_b0 ?_
  refine r_aload_n (pc := 12) dX8_plays_12 rfl ?_
  refine s_getR (pc := 13) dX8_plays_13 fl_X8_16 rfl k_b0 g_b0_3 ?_
  refine r_iconst (pc := 16) (v := 3) dX8_plays_16 (by decide) ?_
  obtain ⟨i_1, K0⟩ := K0
  refine s_iald (pc := 17) dX8_plays_17 k_b0_3 i_1 ?_
  refine r_icmp_ge (pc := 18) (tgt := 105) dX8_plays_18 (by decide) (fun q => ?_) (fun q => ?_)
  · have K0 := K0.1 q
    refine r_iload_n (pc := 105) dX8_plays_105 rfl ?_
    exact s_iret rfl dX8_plays_106 K0
  · have K0 := K0.2 q
    refine r_aload_n (pc := 21) dX8_plays_21 rfl ?_
    refine r_iload_n (pc := 22) dX8_plays_22 rfl ?_
    refine s_VI (pc := 23) mX8_chosen (ci := 8) (a := b0) (As := [.int l2]) dX8_plays_23 lk_X8_341 in_X8_chosen mo_X8_chosen ⟨by decide, rfl⟩ ⟨by decide, by decide⟩ (Nat.le_of_ble_eq_true rfl) k_b0 (mSI_mono K0 (fun r_4 y_3 K0 => ?_))
    refine r_istore_n (pc := 26) dX8_plays_26 (by decide) ?_
    refine r_iload_n (pc := 27) (L := [some (.ref b0), some (.int l1), some (.int l2), some (.int r_4), none]) dX8_plays_27 rfl ?_
    refine r_iconst (pc := 28) (v := (-1)) dX8_plays_28 (by decide) ?_
    refine r_icmp_ne (pc := 29) (tgt := 46) dX8_plays_29 (by decide) (fun q => ?_) (fun q => ?_)
    · have K0 := K0.1 q
      exact r_le (L' := [some (.ref b0), some (.int l1), some (.int l2), some (.int r_4), none]) ⟨rfl, ⟨rfl, ⟨rfl, ⟨rfl, trivial⟩⟩⟩⟩ K0
    · have K0 := K0.2 q
      refine r_aload_n (pc := 32) dX8_plays_32 rfl ?_
      refine r_iload_n (pc := 33) dX8_plays_33 rfl ?_
      refine r_if_ne (pc := 34) (tgt := 41) dX8_plays_34 (by decide) (fun q => ?_) (fun q => ?_)
      · have K0 := K0.1 q
        refine r_iconst (pc := 41) (v := 0) dX8_plays_41 (by decide) ?_
        refine s_VI (pc := 42) mX8_chosen (ci := 8) (a := b0) (As := [.int 0]) dX8_plays_42 lk_X8_341 in_X8_chosen mo_X8_chosen ⟨by decide, rfl⟩ ⟨by decide, by decide⟩ (Nat.le_of_ble_eq_true rfl) k_b0 (mSI_mono K0 (fun r_8 y_7 K0 => ?_))
        refine r_istore_n (pc := 45) dX8_plays_45 (by decide) ?_
        exact r_le (L' := [some (.ref b0), some (.int l1), some (.int l2), some (.int r_8), none]) ⟨rfl, ⟨rfl, ⟨rfl, ⟨rfl, trivial⟩⟩⟩⟩ K0
      · have K0 := K0.2 q
        refine r_iconst (pc := 37) (v := 1) dX8_plays_37 (by decide) ?_
        refine r_goto (pc := 38) (tgt := 42) dX8_plays_38 (by decide) ?_
        refine s_VI (pc := 42) mX8_chosen (ci := 8) (a := b0) (As := [.int 1]) dX8_plays_42 lk_X8_341 in_X8_chosen mo_X8_chosen ⟨by decide, rfl⟩ ⟨by decide, by decide⟩ (Nat.le_of_ble_eq_true rfl) k_b0 (mSI_mono K0 (fun r_10 y_9 K0 => ?_))
        refine r_istore_n (pc := 45) dX8_plays_45 (by decide) ?_
        exact r_le (L' := [some (.ref b0), some (.int l1), some (.int l2), some (.int r_10), none]) ⟨rfl, ⟨rfl, ⟨rfl, ⟨rfl, trivial⟩⟩⟩⟩ K0
set_option maxHeartbeats 2000000 in
theorem v_X8_plays_46 {K : Sh} {x : Cn} {Q : Int32 → Cn → Prop} {b0 : Nat} {l1 : Int32} {l2 : Int32} {l3 : Int32} {b0_16 : Nat} {n_b0_16 : Nat} (k_b0 : kk K b0 = some (8, 0)) (g_b0_16 : gr x b0 16 = some b0_16) (k_b0_16 : kk K b0_16 = some (20, n_b0_16)) (K0 : vp_in l3 n_b0_16 ∧ (∀ r_2 : Int32, r_2 = gi (ui x b0_16 (l3 : Int32).toNatClampNeg (gi x b0 18)) b0 18 → ((¬ l2 = 0 → (mSI mX8_hourFor [.ref b0, .int l3] K (ui (ui x b0_16 (l3 : Int32).toNatClampNeg (gi x b0 18)) b0 18 (r_2 + 1)) (fun r_6 y_5 => (¬ r_6 = (-1) → (mSV mX8_grants [.ref b0, .int l3, .int r_6] K y_5 (fun y_8 => GI mX8_plays 8 [some (.ref b0), some (.int (l1 + 1)), some (.int 0), none, none] [] K y_8 Q))) ∧ (r_6 = (-1) → (GI mX8_plays 8 [some (.ref b0), some (.int l1), some (.int 0), none, none] [] K y_5 Q))))) ∧ (l2 = 0 → (mSI mX8_hourFor [.ref b0, .int l3] K (ui (ui x b0_16 (l3 : Int32).toNatClampNeg (gi x b0 18)) b0 18 (r_2 + 1)) (fun r_10 y_9 => (¬ r_10 = (-1) → (mSV mX8_grants [.ref b0, .int l3, .int r_10] K y_9 (fun y_12 => GI mX8_plays 8 [some (.ref b0), some (.int (l1 + 1)), some (.int 1), none, none] [] K y_12 Q))) ∧ (r_10 = (-1) → (GI mX8_plays 8 [some (.ref b0), some (.int l1), some (.int 1), none, none] [] K y_9 Q)))))))) : GI mX8_plays 46 [some (.ref b0), some (.int l1), some (.int l2), some (.int l3), none] [] K x Q := by
  show mGM mX8_plays 46 [some (.ref b0), some (.int l1), some (.int l2), some (.int l3), none] [] (hp K x) (PI K Q)
  refine r_aload_n (pc := 46) dX8_plays_46 rfl ?_
  refine s_getR (pc := 47) dX8_plays_47 fl_X8_30 rfl k_b0 g_b0_16 ?_
  refine r_iload_n (pc := 50) dX8_plays_50 rfl ?_
  refine r_aload_n (pc := 51) dX8_plays_51 rfl ?_
  refine s_getI (pc := 52) dX8_plays_52 fl_X8_335 rfl k_b0 ?_
  obtain ⟨i_1, K0⟩ := K0
  refine s_iast (pc := 55) dX8_plays_55 k_b0_16 i_1 ?_
  refine r_aload_n (pc := 56) dX8_plays_56 rfl ?_
  refine r_dup (pc := 57) dX8_plays_57 rfl ?_
  refine s_getI (pc := 58) dX8_plays_58 fl_X8_335 rfl k_b0 ?_
  obtain ⟨r_2, w_3⟩ : ∃ z : Int32, z = gi (ui x b0_16 (l3 : Int32).toNatClampNeg (gi x b0 18)) b0 18 := ⟨_, rfl⟩
  rw [← w_3]
  have K0 := K0 r_2 w_3
  refine r_iconst (pc := 61) (v := 1) dX8_plays_61 (by decide) ?_
  refine r_iadd (pc := 62) dX8_plays_62 ?_
  refine s_putI (pc := 63) dX8_plays_63 fl_X8_335 rfl rfl k_b0 ?_
  refine r_iload_n (pc := 66) dX8_plays_66 rfl ?_
  refine r_if_ne (pc := 67) (tgt := 74) dX8_plays_67 (by decide) (fun q => ?_) (fun q => ?_)
  · have K0 := K0.1 q
    refine r_iconst (pc := 74) (v := 0) dX8_plays_74 (by decide) ?_
    refine r_istore_n (pc := 75) dX8_plays_75 (by decide) ?_
    refine r_aload_n (pc := 76) (L := [some (.ref b0), some (.int l1), some (.int 0), some (.int l3), none]) dX8_plays_76 rfl ?_
    refine r_iload_n (pc := 77) dX8_plays_77 rfl ?_
    refine s_VI (pc := 78) mX8_hourFor (ci := 8) (a := b0) (As := [.int l3]) dX8_plays_78 lk_X8_332 in_X8_hourFor mo_X8_hourFor ⟨by decide, rfl⟩ ⟨by decide, by decide⟩ (Nat.le_of_ble_eq_true rfl) k_b0 (mSI_mono K0 (fun r_6 y_5 K0 => ?_))
    refine r_istore (pc := 81) dX8_plays_81 (by decide) ?_
    refine r_iload (pc := 83) (L := [some (.ref b0), some (.int l1), some (.int 0), some (.int l3), some (.int r_6)]) dX8_plays_83 rfl ?_
    refine r_iconst (pc := 85) (v := (-1)) dX8_plays_85 (by decide) ?_
    refine r_icmp_ne (pc := 86) (tgt := 92) dX8_plays_86 (by decide) (fun q => ?_) (fun q => ?_)
    · have K0 := K0.1 q
      refine r_aload_n (pc := 92) dX8_plays_92 rfl ?_
      refine r_iload_n (pc := 93) dX8_plays_93 rfl ?_
      refine r_iload (pc := 94) dX8_plays_94 rfl ?_
      refine s_VV (pc := 96) mX8_grants (ci := 8) (a := b0) (As := [.int l3, .int r_6]) dX8_plays_96 lk_X8_345 in_X8_grants mo_X8_grants ⟨by decide, rfl⟩ ⟨by decide, by decide⟩ (Nat.le_of_ble_eq_true rfl) k_b0 (mSV_mono K0 (fun y_8 K0 => ?_))
      refine r_iinc (pc := 99) (v := l1 + 1) dX8_plays_99 rfl rfl (by decide) ?_
      refine r_goto (pc := 102) (L := [some (.ref b0), some (.int (l1 + 1)), some (.int 0), some (.int l3), some (.int r_6)]) (tgt := 8) dX8_plays_102 (by decide) ?_
      exact r_le (L' := [some (.ref b0), some (.int (l1 + 1)), some (.int 0), none, none]) ⟨rfl, ⟨rfl, ⟨rfl, trivial⟩⟩⟩ K0
    · have K0 := K0.2 q
      refine r_goto (pc := 89) (tgt := 8) dX8_plays_89 (by decide) ?_
      exact r_le (L' := [some (.ref b0), some (.int l1), some (.int 0), none, none]) ⟨rfl, ⟨rfl, ⟨rfl, trivial⟩⟩⟩ K0
  · have K0 := K0.2 q
    refine r_iconst (pc := 70) (v := 1) dX8_plays_70 (by decide) ?_
    refine r_goto (pc := 71) (tgt := 75) dX8_plays_71 (by decide) ?_
    refine r_istore_n (pc := 75) dX8_plays_75 (by decide) ?_
    refine r_aload_n (pc := 76) (L := [some (.ref b0), some (.int l1), some (.int 1), some (.int l3), none]) dX8_plays_76 rfl ?_
    refine r_iload_n (pc := 77) dX8_plays_77 rfl ?_
    refine s_VI (pc := 78) mX8_hourFor (ci := 8) (a := b0) (As := [.int l3]) dX8_plays_78 lk_X8_332 in_X8_hourFor mo_X8_hourFor ⟨by decide, rfl⟩ ⟨by decide, by decide⟩ (Nat.le_of_ble_eq_true rfl) k_b0 (mSI_mono K0 (fun r_10 y_9 K0 => ?_))
    refine r_istore (pc := 81) dX8_plays_81 (by decide) ?_
    refine r_iload (pc := 83) (L := [some (.ref b0), some (.int l1), some (.int 1), some (.int l3), some (.int r_10)]) dX8_plays_83 rfl ?_
    refine r_iconst (pc := 85) (v := (-1)) dX8_plays_85 (by decide) ?_
    refine r_icmp_ne (pc := 86) (tgt := 92) dX8_plays_86 (by decide) (fun q => ?_) (fun q => ?_)
    · have K0 := K0.1 q
      refine r_aload_n (pc := 92) dX8_plays_92 rfl ?_
      refine r_iload_n (pc := 93) dX8_plays_93 rfl ?_
      refine r_iload (pc := 94) dX8_plays_94 rfl ?_
      refine s_VV (pc := 96) mX8_grants (ci := 8) (a := b0) (As := [.int l3, .int r_10]) dX8_plays_96 lk_X8_345 in_X8_grants mo_X8_grants ⟨by decide, rfl⟩ ⟨by decide, by decide⟩ (Nat.le_of_ble_eq_true rfl) k_b0 (mSV_mono K0 (fun y_12 K0 => ?_))
      refine r_iinc (pc := 99) (v := l1 + 1) dX8_plays_99 rfl rfl (by decide) ?_
      refine r_goto (pc := 102) (L := [some (.ref b0), some (.int (l1 + 1)), some (.int 1), some (.int l3), some (.int r_10)]) (tgt := 8) dX8_plays_102 (by decide) ?_
      exact r_le (L' := [some (.ref b0), some (.int (l1 + 1)), some (.int 1), none, none]) ⟨rfl, ⟨rfl, ⟨rfl, trivial⟩⟩⟩ K0
    · have K0 := K0.2 q
      refine r_goto (pc := 89) (tgt := 8) dX8_plays_89 (by decide) ?_
      exact r_le (L' := [some (.ref b0), some (.int l1), some (.int 1), none, none]) ⟨rfl, ⟨rfl, ⟨rfl, trivial⟩⟩⟩ K0
section
theorem sp_X8_plays {x : Cn} {Q : Int32 → Cn → Prop} {W C S A N : Nat} {T0 : TT} (M : MRf x 719) (hT : gi x 719 = T0) (F : WFB T0 W C S A N) (k : ∀ z, PFr x z → PRS z (accT (plS A N) A (pl0 T0 S)) A → Q (nI (accT (plS A N) A (pl0 T0 S)).2.2.2.2) z) : mSI mX8_plays [.ref 717] KW x Q := by
  have hA : A ≤ 24 := F.2.2.2.2.2.2.2.2.1
  refine v_X8_plays_0 km (sp_X8_begins M (fun v v1 v2 v3 v4 => ?_))
  refine lp_acc (plS A N) (fun k p => PIV W C A N T0 k p → ∀ y, PFr x y → PRS y p k → GI mX8_plays 8 [some (.ref 717), some (.int (nI p.2.2.2.2)), some (.int (fl k)), none, none] [] KW y Q) A (pl0 T0 S) ?_ (fun k p hk n1 => ?_) (PIV.st F) v ⟨v1, fun a j a1 a2 a3 a4 a5 => v2 a j a3 a4 a5⟩ ⟨M.keep v1, ?_, fun a ha => (v4 a ha).1, fun a ha => (v4 a ha).2, v3⟩
  · intro iv y fy ry
    exact v_X8_plays_8 km ry.1.2.2.1 km2 ⟨v0 (k := 3) (by decide) rfl rfl, fun _ => k y fy ry, fun z => absurd (by rw [ry.2.1, iv.1.2.2.2.2.2.2.2.1, ry.2.2.2.2]; exact Int32.le_refl _) z⟩
  · intro iv y fy ry
    obtain ⟨a, ha, e1, e2, e3⟩ := iv.a hk
    have hS : p.2.1 ≤ 24 := iv.1.2.2.2.2.2.2.1
    have Fy : WFB (gi y 719) W C p.2.1 A N := by rw [ry.2.1]; exact iv.1
    have h46 : GI mX8_plays 46 [some (.ref 717), some (.int (nI p.2.2.2.2)), some (.int (fl k)), some (.int (nI a)), none] [] KW y Q := by
      refine v_X8_plays_46 km ry.1.2.2.2.2.2.1 km722 ⟨vp_in_nI (by omega) (by decide), fun r hr => ?_⟩
      rw [nI_clamp (by omega)] at hr
      have er : r = nI k := by rw [hr, gi_ui, if_neg (by omega)]; exact ry.2.2.2.2
      rw [er, nI_1, nI_clamp (by omega), ry.2.2.2.2]
      have f2 : PFr x (ui (ui y 722 a (nI k)) 717 18 (nI (k + 1))) := ⟨fy.1, fun b j b1 b2 b3 b4 b5 => by rw [gi_ui, if_neg b5, gi_ui, if_neg (fun u => b3 u.1)]; exact fy.2 b j b1 b2 b3 b4 b5⟩
      have g719 : gi (ui (ui y 722 a (nI k)) 717 18 (nI (k + 1))) 719 = p.1 := by
        rw [← ry.2.1]
        funext i
        rw [gi_ui, if_neg (by omega), gi_ui, if_neg (by omega)]
      have M2 : MRf (ui (ui y 722 a (nI k)) 717 18 (nI (k + 1))) 719 := ry.1.keep rfl
      have F2 : WFB (gi (ui (ui y 722 a (nI k)) 717 18 (nI (k + 1))) 719) W C p.2.1 A N := by rw [g719]; exact iv.1
      have g722 : ∀ b, b < 24 → gi (ui (ui y 722 a (nI k)) 717 18 (nI (k + 1))) 722 b = uT p.2.2.1 a (nI k) b := fun b hb => by
        rw [gi_ui, if_neg (by omega), gi_ui]
        unfold uT
        by_cases c : b = a
        · rw [if_pos ⟨rfl, c⟩, if_pos c]
        · rw [if_neg (fun u => c u.2), if_neg c]; exact ry.2.2.1 b hb
      have g723 : ∀ b, b < 24 → gi (ui (ui y 722 a (nI k)) 717 18 (nI (k + 1))) 723 b = p.2.2.2.1 b := fun b hb => by
        rw [gi_ui, if_neg (by omega), gi_ui, if_neg (by omega)]; exact ry.2.2.2.1 b hb
      have g18 : gi (ui (ui y 722 a (nI k)) 717 18 (nI (k + 1))) 717 18 = nI (k + 1) := by rw [gi_ui, if_pos ⟨rfl, rfl⟩]
      obtain ⟨-, -, ⟨h0, hh0, eh0⟩, -⟩ := iv.1.2.2.2.2.2.2.2.2.2.2.2.2.2 a ha
      have body : ∀ w, w = fl (k + 1) → mSI mX8_hourFor [.ref 717, .int (nI a)] KW (ui (ui y 722 a (nI k)) 717 18 (nI (k + 1))) (fun r_6 y_5 => (¬ r_6 = -1 → mSV mX8_grants [.ref 717, .int (nI a), .int r_6] KW y_5 (fun y_8 => GI mX8_plays 8 [some (.ref 717), some (.int (nI p.2.2.2.2 + 1)), some (.int w), none, none] [] KW y_8 Q)) ∧ (r_6 = -1 → GI mX8_plays 8 [some (.ref 717), some (.int (nI p.2.2.2.2)), some (.int w), none, none] [] KW y_5 Q)) := by
        intro w hw
        rw [hw, nI_1]
        refine sb_X8_hourFor M2 km2 F2 ha ?_
        rw [g719]
        refine ⟨fun z => ?_, fun z => ?_⟩
        · rcases hrF_in (S := p.2.1) (N := N) hh0 eh0 with g0 | ⟨h, h1, h2, h3, h4⟩
          · exact absurd g0 z
          · rw [h2]
            refine sp_X8_grants M2 km2 (by decide) (by decide) F2.2.2.2.2.2.1 (by omega) (by omega) (fun u u1 u2 u3 u4 => ?_)
            refine n1 _ (plS_t e1 h2 (nI_ne1 (by omega))) (iv.t ha hk e3 h1 (by omega) h4) u ⟨u1.trans f2.1, fun b j b1 b2 b3 b4 b5 => (u2 b j b1 b2 b4).trans (f2.2 b j b1 b2 b3 b4 b5)⟩ ⟨M2.keep u1, by rw [u3, g719], fun b hb => by rw [u2 722 b (by decide) (by decide) (by decide)]; exact g722 b hb, fun b hb => ?_, by rw [u2 717 18 (by decide) (by decide) (by decide)]; exact g18⟩
            show gi u 723 b = uT p.2.2.2.1 a (nI h) b
            rw [u4]
            unfold uT
            by_cases c : b = a
            · rw [if_pos c, if_pos c]
            · rw [if_neg c, if_neg c]; exact g723 b hb
        · refine n1 _ (plS_f e1 z) (iv.f ha hk e3) _ f2 ⟨M2, g719, g722, fun b hb => ?_, g18⟩
          show _ = uT p.2.2.2.1 a (-1) b
          rw [g723 b hb]
          unfold uT
          by_cases c : b = a
          · rw [if_pos c, c, ← ry.2.2.2.1 a (by omega)]
            exact (ry.2.2.2.1 a (by omega)).trans (iv.2.2.2.2.2 a e3)
          · rw [if_neg c]
      refine ⟨fun z => body 0 (by rw [fl_s, if_neg z]), fun z => body 1 (by rw [fl_s, if_pos z])⟩
    unfold chC at e2
    refine v_X8_plays_8 km ry.1.2.2.1 km2 ⟨v0 (k := 3) (by decide) rfl rfl, fun z => absurd (by rw [ry.2.1, iv.1.2.2.2.2.2.2.2.1, ry.2.2.2.2] at z; exact z) (nI_ge hk (by omega)), fun _ => sp_X8_chosen ry.1 km2 Fy ry.2.2.1 ?_⟩
    rw [ry.2.1]
    refine ⟨fun z => ?_, fun z => ⟨fun z2 => sp_X8_chosen ry.1 km2 Fy ry.2.2.1 ?_, fun z2 => sp_X8_chosen ry.1 km2 Fy ry.2.2.1 ?_⟩⟩
    · rw [if_neg z] at e2
      rw [e2]; exact h46
    · rw [if_pos z, if_neg z2] at e2
      rw [ry.2.1, e2]; exact h46
    · rw [if_pos z, if_pos z2] at e2
      rw [ry.2.1, e2]; exact h46
  · rw [← hT]
    funext i
    exact v2 719 i (by decide) (by decide) (by omega)
def mixT (x : Cn) : TT := fun i => if i < 518 then gi x 718 i else gi x 719 i
end
set_option maxHeartbeats 2000000 in
theorem v_X8_copies_0 {K : Sh} {x : Cn} {Q : Cn → Prop} {b0 : Nat}   (K0 : GV mX8_copies 2 [some (.ref b0), some (.int 0)] [] K x Q) : mSV mX8_copies [.ref b0] K x Q := by
  refine s_V (by decide) (by simp [Value.category]) (Nat.le_of_ble_eq_true rfl) ?_
  show mGM mX8_copies 0 [some (.ref b0), none] [] (hp K x) (PV K Q)
  refine r_iconst (pc := 0) (v := 0) dX8_copies_0 (by decide) ?_
  refine r_istore_n (pc := 1) dX8_copies_1 (by decide) ?_
  exact r_le (L' := [some (.ref b0), some (.int 0)]) ⟨rfl, ⟨rfl, trivial⟩⟩ K0
set_option maxHeartbeats 2000000 in
theorem v_X8_copies_2 {K : Sh} {x : Cn} {Q : Cn → Prop} {b0 : Nat} {l1 : Int32} {b0_2 : Nat} {b0_1 : Nat} {n_b0_1 : Nat} {n_b0_2 : Nat} (k_b0 : kk K b0 = some (8, 0)) (g_b0_2 : gr x b0 2 = some b0_2) (g_b0_1 : gr x b0 1 = some b0_1) (k_b0_1 : kk K b0_1 = some (20, n_b0_1)) (k_b0_2 : kk K b0_2 = some (20, n_b0_2)) (K0 : (518 ≤ l1 → (Q x)) ∧ (¬ 518 ≤ l1 → (vp_in l1 n_b0_1 ∧ (vp_in l1 n_b0_2 ∧ (GV mX8_copies 2 [some (.ref b0), some (.int (l1 + 1))] [] K (ui x b0_2 (l1 : Int32).toNatClampNeg (gi x b0_1 (l1 : Int32).toNatClampNeg)) Q))))) : GV mX8_copies 2 [some (.ref b0), some (.int l1)] [] K x Q := by
  show mGM mX8_copies 2 [some (.ref b0), some (.int l1)] [] (hp K x) (PV K Q)
  refine r_iload_n (pc := 2) dX8_copies_2 rfl ?_
  refine r_sipush (pc := 3) (v := 518) dX8_copies_3 (by decide) ?_
  refine r_icmp_ge (pc := 6) (tgt := 27) dX8_copies_6 (by decide) (fun q => ?_) (fun q => ?_)
  · have K0 := K0.1 q
    exact s_ret rfl dX8_copies_27 K0
  · have K0 := K0.2 q
    refine r_aload_n (pc := 9) dX8_copies_9 rfl ?_
    refine s_getR (pc := 10) dX8_copies_10 fl_X8_13 rfl k_b0 g_b0_2 ?_
    refine r_iload_n (pc := 13) dX8_copies_13 rfl ?_
    refine r_aload_n (pc := 14) dX8_copies_14 rfl ?_
    refine s_getR (pc := 15) dX8_copies_15 fl_X8_9 rfl k_b0 g_b0_1 ?_
    refine r_iload_n (pc := 18) dX8_copies_18 rfl ?_
    obtain ⟨i_2, K0⟩ := K0
    refine s_iald (pc := 19) dX8_copies_19 k_b0_1 i_2 ?_
    obtain ⟨i_3, K0⟩ := K0
    refine s_iast (pc := 20) dX8_copies_20 k_b0_2 i_3 ?_
    refine r_iinc (pc := 21) (v := l1 + 1) dX8_copies_21 rfl rfl (by decide) ?_
    refine r_goto (pc := 24) (L := [some (.ref b0), some (.int (l1 + 1))]) (tgt := 2) dX8_copies_24 (by decide) ?_
    exact r_le (L' := [some (.ref b0), some (.int (l1 + 1))]) ⟨rfl, ⟨rfl, trivial⟩⟩ K0
section
theorem sp_X8_copies {x : Cn} {Q : Cn → Prop} (M : MRf x 718) (k : ∀ y : Cn, EQx x y 719 → gi y 719 = mixT x → Q y) : mSV mX8_copies [.ref 717] KW x Q := by
  have key : ∀ c m y, m + c = 518 → EQx x y 719 → (∀ i, gi y 719 i = if i < m then gi x 718 i else gi x 719 i) → GV mX8_copies 2 [some (.ref 717), some (.int (nI m))] [] KW y Q := by
    intro c
    induction c with
    | zero =>
      intro m y hm f1 f2
      have : m = 518 := by omega
      subst this
      have M2 := M.keep f1.1
      exact v_X8_copies_2 km M2.2.1 M2.1 km1 km2 ⟨fun _ => k y f1 (funext f2), fun z => absurd (Int32.le_refl _) z⟩
    | succ c ih =>
      intro m y hm f1 f2
      have M2 := M.keep f1.1
      refine v_X8_copies_2 km M2.2.1 M2.1 km1 km2 ⟨fun z => absurd z (nI_ge (b := 518) (by omega) (by decide)), fun _ => ⟨vp_in_nI (by omega) (by decide), vp_in_nI (by omega) (by decide), ?_⟩⟩
      rw [nI_1, nI_clamp (by omega)]
      refine ih (m + 1) _ (by omega) f1.ui (fun i => ?_)
      rw [gi_ui]
      by_cases c1 : i = m
      · rw [if_pos ⟨rfl, c1⟩, if_pos (by omega), c1]; exact f1.2 718 m (by decide)
      · rw [if_neg (fun u => c1 u.2), f2]
        by_cases c2 : i < m
        · rw [if_pos c2, if_pos (by omega)]
        · rw [if_neg c2, if_neg (by omega)]
  exact v_X8_copies_0 (key 518 0 x (by omega) (EQx.rf x _) (fun i => by rw [if_neg (by omega)]))
end
set_option maxHeartbeats 2000000 in
theorem v_X8_playsAside_0 {K : Sh} {x : Cn} {Q : Int32 → Cn → Prop} {b0 : Nat} {l1 : Int32}  (k_b0 : kk K b0 = some (8, 0)) (K0 : mSV mX8_copies [.ref b0] K x (fun y_1 => (l1 = (-1) → (∃ c_3 : Nat, gr y_1 b0 2 = some c_3 ∧ (mSI mX8_plays [.ref b0] K (ur y_1 b0 3 (some c_3)) (fun r_6 y_5 => ∃ c_7 : Nat, gr y_5 b0 1 = some c_7 ∧ (Q r_6 (ur y_5 b0 3 (some c_7))))))) ∧ (¬ l1 = (-1) → (∃ c_9 : Nat, gr y_1 b0 2 = some c_9 ∧ (∃ n_12 : Nat, kk K c_9 = some (20, n_12) ∧ (vp_in (6 + (2 * l1)) n_12 ∧ (vp_in ((6 + (2 * l1)) + 1) n_12 ∧ (mSI mX8_plays [.ref b0] K (ur (ui (ui y_1 c_9 ((6 + (2 * l1)) : Int32).toNatClampNeg ((gi y_1 c_9 ((6 + (2 * l1)) : Int32).toNatClampNeg) + 1)) c_9 (((6 + (2 * l1)) + 1) : Int32).toNatClampNeg ((gi (ui y_1 c_9 ((6 + (2 * l1)) : Int32).toNatClampNeg ((gi y_1 c_9 ((6 + (2 * l1)) : Int32).toNatClampNeg) + 1)) c_9 (((6 + (2 * l1)) + 1) : Int32).toNatClampNeg) + 1)) b0 3 (some c_9)) (fun r_16 y_15 => ∃ c_17 : Nat, gr y_15 b0 1 = some c_17 ∧ (Q r_16 (ur y_15 b0 3 (some c_17)))))))))))) : mSI mX8_playsAside [.ref b0, .int l1] K x Q := by
  refine s_I (by decide) (by simp [Value.category]) (Nat.le_of_ble_eq_true rfl) ?_
  show mGM mX8_playsAside 0 [some (.ref b0), some (.int l1), none] [] (hp K x) (PI K Q)
  refine r_aload_n (pc := 0) dX8_playsAside_0 rfl ?_
  refine s_VV (pc := 1) mX8_copies (ci := 8) (a := b0) (As := []) dX8_playsAside_1 lk_X8_348 in_X8_copies mo_X8_copies ⟨by decide, rfl⟩ ⟨by decide, by decide⟩ (Nat.le_of_ble_eq_true rfl) k_b0 (mSV_mono K0 (fun y_1 K0 => ?_))
  refine r_iload_n (pc := 4) dX8_playsAside_4 rfl ?_
  refine r_iconst (pc := 5) (v := (-1)) dX8_playsAside_5 (by decide) ?_
  refine r_icmp_eq (pc := 6) (tgt := 41) dX8_playsAside_6 (by decide) (fun q => ?_) (fun q => ?_)
  · have K0 := K0.1 q
    refine r_aload_n (pc := 41) dX8_playsAside_41 rfl ?_
    refine r_aload_n (pc := 42) dX8_playsAside_42 rfl ?_
    obtain ⟨c_3, g_4, K0⟩ := K0
    refine s_getR (pc := 43) dX8_playsAside_43 fl_X8_13 rfl k_b0 g_4 ?_
    refine s_putR (pc := 46) dX8_playsAside_46 fl_X8_16 rfl rfl k_b0 ?_
    refine r_aload_n (pc := 49) dX8_playsAside_49 rfl ?_
    refine s_VI (pc := 50) mX8_plays (ci := 8) (a := b0) (As := []) dX8_playsAside_50 lk_X8_351 in_X8_plays mo_X8_plays ⟨by decide, rfl⟩ ⟨by decide, by decide⟩ (Nat.le_of_ble_eq_true rfl) k_b0 (mSI_mono K0 (fun r_6 y_5 K0 => ?_))
    refine r_istore_n (pc := 53) dX8_playsAside_53 (by decide) ?_
    refine r_aload_n (pc := 54) (L := [some (.ref b0), some (.int l1), some (.int r_6)]) dX8_playsAside_54 rfl ?_
    refine r_aload_n (pc := 55) dX8_playsAside_55 rfl ?_
    obtain ⟨c_7, g_8, K0⟩ := K0
    refine s_getR (pc := 56) dX8_playsAside_56 fl_X8_9 rfl k_b0 g_8 ?_
    refine s_putR (pc := 59) dX8_playsAside_59 fl_X8_16 rfl rfl k_b0 ?_
    refine r_iload_n (pc := 62) dX8_playsAside_62 rfl ?_
    exact s_iret rfl dX8_playsAside_63 K0
  · have K0 := K0.2 q
    refine r_aload_n (pc := 9) dX8_playsAside_9 rfl ?_
    obtain ⟨c_9, g_10, K0⟩ := K0
    refine s_getR (pc := 10) dX8_playsAside_10 fl_X8_13 rfl k_b0 g_10 ?_
    refine r_bipush (pc := 13) (v := 6) dX8_playsAside_13 (by decide) ?_
    refine r_iconst (pc := 15) (v := 2) dX8_playsAside_15 (by decide) ?_
    refine r_iload_n (pc := 16) dX8_playsAside_16 rfl ?_
    refine r_imul (pc := 17) dX8_playsAside_17 ?_
    refine r_iadd (pc := 18) dX8_playsAside_18 ?_
    refine r_dup2 (pc := 19) dX8_playsAside_19 rfl rfl ?_
    obtain ⟨n_12, e_11, K0⟩ := K0
    obtain ⟨i_13, K0⟩ := K0
    refine s_iald (pc := 20) dX8_playsAside_20 e_11 i_13 ?_
    refine r_iconst (pc := 21) (v := 1) dX8_playsAside_21 (by decide) ?_
    refine r_iadd (pc := 22) dX8_playsAside_22 ?_
    refine s_iast (pc := 23) dX8_playsAside_23 e_11 i_13 ?_
    refine r_aload_n (pc := 24) dX8_playsAside_24 rfl ?_
    refine s_getR (pc := 25) dX8_playsAside_25 fl_X8_13 rfl k_b0 g_10 ?_
    refine r_bipush (pc := 28) (v := 6) dX8_playsAside_28 (by decide) ?_
    refine r_iconst (pc := 30) (v := 2) dX8_playsAside_30 (by decide) ?_
    refine r_iload_n (pc := 31) dX8_playsAside_31 rfl ?_
    refine r_imul (pc := 32) dX8_playsAside_32 ?_
    refine r_iadd (pc := 33) dX8_playsAside_33 ?_
    refine r_iconst (pc := 34) (v := 1) dX8_playsAside_34 (by decide) ?_
    refine r_iadd (pc := 35) dX8_playsAside_35 ?_
    refine r_dup2 (pc := 36) dX8_playsAside_36 rfl rfl ?_
    obtain ⟨i_14, K0⟩ := K0
    refine s_iald (pc := 37) dX8_playsAside_37 e_11 i_14 ?_
    refine r_iconst (pc := 38) (v := 1) dX8_playsAside_38 (by decide) ?_
    refine r_iadd (pc := 39) dX8_playsAside_39 ?_
    refine s_iast (pc := 40) dX8_playsAside_40 e_11 i_14 ?_
    refine r_aload_n (pc := 41) dX8_playsAside_41 rfl ?_
    refine r_aload_n (pc := 42) dX8_playsAside_42 rfl ?_
    refine s_getR (pc := 43) dX8_playsAside_43 fl_X8_13 rfl k_b0 g_10 ?_
    refine s_putR (pc := 46) dX8_playsAside_46 fl_X8_16 rfl rfl k_b0 ?_
    refine r_aload_n (pc := 49) dX8_playsAside_49 rfl ?_
    refine s_VI (pc := 50) mX8_plays (ci := 8) (a := b0) (As := []) dX8_playsAside_50 lk_X8_351 in_X8_plays mo_X8_plays ⟨by decide, rfl⟩ ⟨by decide, by decide⟩ (Nat.le_of_ble_eq_true rfl) k_b0 (mSI_mono K0 (fun r_16 y_15 K0 => ?_))
    refine r_istore_n (pc := 53) dX8_playsAside_53 (by decide) ?_
    refine r_aload_n (pc := 54) (L := [some (.ref b0), some (.int l1), some (.int r_16)]) dX8_playsAside_54 rfl ?_
    refine r_aload_n (pc := 55) dX8_playsAside_55 rfl ?_
    obtain ⟨c_17, g_18, K0⟩ := K0
    refine s_getR (pc := 56) dX8_playsAside_56 fl_X8_9 rfl k_b0 g_18 ?_
    refine s_putR (pc := 59) dX8_playsAside_59 fl_X8_16 rfl rfl k_b0 ?_
    refine r_iload_n (pc := 62) dX8_playsAside_62 rfl ?_
    exact s_iret rfl dX8_playsAside_63 K0
section
theorem sp_X8_playsAside {x : Cn} {Q : Int32 → Cn → Prop} {W C S A N : Nat} {T0 : TT} {hp : Int32} (M : MRf x 718) (hh : (hp = -1 ∧ T0 = mixT x) ∨ ∃ h, h < 24 ∧ hp = nI h ∧ T0 = hlT (mixT x) h) (F : WFB T0 W C S A N) (k : ∀ z, PFr x z → gi z 719 = (accT (plS A N) A (pl0 T0 S)).1 → (∀ a, a < 24 → gi z 722 a = (accT (plS A N) A (pl0 T0 S)).2.2.1 a) → (∀ a, a < 24 → gi z 723 a = (accT (plS A N) A (pl0 T0 S)).2.2.2.1 a) → Q (nI (accT (plS A N) A (pl0 T0 S)).2.2.2.2) z) : mSI mX8_playsAside [.ref 717, .int hp] KW x Q := by
  have fin : ∀ v : Cn, v.2 = x.2 → (∀ a j, a ≠ 719 → gi v a j = gi x a j) → gi v 719 = T0 → mSI mX8_plays [.ref 717] KW (ur v 717 3 (some 719)) (fun r_6 y_5 => ∃ c_7, gr y_5 717 1 = some c_7 ∧ Q r_6 (ur y_5 717 3 (some c_7))) := by
    intro v v1 v2 v3
    have M2 : MRf (ur v 717 3 (some 719)) 719 := by
      have Mv := M.keep v1
      unfold MRf at Mv ⊢
      simp only [gr_ur]
      simp only [show ¬ (1 : Nat) = 3 by decide, show ¬ (2 : Nat) = 3 by decide, show ¬ (4 : Nat) = 3 by decide, show ¬ (15 : Nat) = 3 by decide, show ¬ (16 : Nat) = 3 by decide, show ¬ (17 : Nat) = 3 by decide, show ¬ (20 : Nat) = 3 by decide, show ¬ (21 : Nat) = 3 by decide, and_false, if_false, and_self, if_true]
      exact ⟨Mv.1, Mv.2.1, trivial, Mv.2.2.2⟩
    refine sp_X8_plays M2 (T0 := T0) (by rw [← v3]; rfl) F (fun z fz rz => ⟨718, rz.1.1, k _ ⟨?_, fun a j a1 a2 a3 a4 a5 => ?_⟩ rz.2.1 rz.2.2.1 rz.2.2.2.1⟩)
    · show (ur z 717 3 (some 718)).2 = x.2
      funext a j
      show (if a = 717 ∧ j = 3 then some 718 else z.2 a j) = x.2 a j
      by_cases c : a = 717 ∧ j = 3
      · rw [if_pos c, c.1, c.2]; exact M.2.2.1.symm
      · rw [if_neg c, fz.1]
        show (if a = 717 ∧ j = 3 then some 719 else v.2 a j) = x.2 a j
        rw [if_neg c, v1]
    · show gi z a j = gi x a j
      exact (fz.2 a j a1 a2 a3 a4 a5).trans (v2 a j a1)
  refine v_X8_playsAside_0 km (sp_X8_copies M (fun y f1 f2 => ?_))
  rcases hh with ⟨rfl, rfl⟩ | ⟨h, hh, rfl, rfl⟩
  · exact ⟨fun _ => ⟨719, (M.keep f1.1).2.1, fin y f1.1 (fun a j ha => f1.2 a j ha) f2⟩, fun z => absurd rfl z⟩
  · refine ⟨fun z => absurd z (nI_ne1 (by omega)), fun _ => ⟨719, (M.keep f1.1).2.1, 518, km2, ?_⟩⟩
    rw [ixh1, ixh, nI_clamp (show 6 + 2 * h < 2 ^ 31 by omega), nI_clamp (show 7 + 2 * h < 2 ^ 31 by omega)]
    refine ⟨vp_in_nI (by omega) (by decide), vp_in_nI (by omega) (by decide), ?_⟩
    rw [show gi (ui y 719 (6 + 2 * h) (gi y 719 (6 + 2 * h) + 1)) 719 (7 + 2 * h) = gi y 719 (7 + 2 * h) by rw [gi_ui, if_neg (by omega)]]
    refine fin _ f1.1 (fun a j ha => by rw [gi_ui, if_neg (fun u => ha u.1), gi_ui, if_neg (fun u => ha u.1)]; exact f1.2 a j ha) ?_
    rw [gi_at, gi_at, f2]
    rfl

end
end
/-! 57.pool4.lean.txt -/
section
theorem PCr.kp {x y : Cn} (h : PCr x y) : Kp x y := ⟨h.1, fun a k c => h.2 a k (fun u => c (Or.inr (Or.inl (by omega))))⟩
theorem PFr.kp {x y : Cn} (h : PFr x y) : Kp x y := ⟨h.1, fun a k c => h.2 a k (fun u => c (by unfold scr; omega)) (fun u => c (by unfold scr; omega)) (fun u => c (by unfold scr; omega)) (fun u => c (by unfold scr; omega)) (fun u => c (by unfold scr; omega))⟩
theorem CRf.c9 {x : Cn} (h : CRf x) : gr x 0 9 = some 117 := h.2.2.2.2.2.1
theorem mix_pc {x y : Cn} (h : PCr x y) : mixT y = mixT x := by
  funext i
  unfold mixT
  rw [h.2 718 i (by omega), h.2 719 i (by omega)]
theorem mix_lt {x : Cn} {i : Nat} (h : i < 518) : mixT x i = gi x 718 i := if_pos h
theorem pl_wf {x : Cn} {W C S A N : Nat} {T0 : TT} {hp : Int32} (E : SEA x 2 (gi x 718) W C S A N) (hh : (hp = -1 ∧ T0 = mixT x) ∨ ∃ h, h < 24 ∧ hp = nI h ∧ T0 = hlT (mixT x) h) : WFB T0 W C S A N := by
  have F : WFB (mixT x) W C S A N := E.2.2.2.b.cg (fun i hi => mix_lt hi)
  rcases hh with ⟨_, rfl⟩ | ⟨h, h1, _, rfl⟩
  · exact F
  · exact F.hl h1
theorem pl_cls {x y : Cn} {W C S A N : Nat} {T0 : TT} {hp : Int32} {Q : Cn → Prop} (R : Rel x) (E : SEA x 2 (gi x 718) W C S A N) (f : PCr x y) (hh : (hp = -1 ∧ T0 = mixT x) ∨ ∃ h, h < 24 ∧ hp = nI h ∧ T0 = hlT (mixT x) h) (k : ∀ z, PCr x z → CPR z (accT (plS A N) A (pl0 T0 S)) W C A N → Q z) : mSV mX2_serve [.ref 117, .ref 2, .int hp] KW y Q :=
  sp_X2_serve (R.1.keep f.1) (E.mv (y := y) (T' := mixT x) (fun a j _ _ => by unfold gr; rw [f.1]) (fun a j _ _ _ => f.2 a j (by omega)) (fun i hi => mix_lt hi)) hh (fun z fz cz => k z (f.tr fz) cz)
theorem pl_ref {x y : Cn} {W C S A N : Nat} {T0 : TT} {hp : Int32} {z : Cn} {Q : Int32 → Cn → Prop} (R : Rel x) (E : SEA x 2 (gi x 718) W C S A N) (f : PCr x y) (f2 : PFr y z) (hm : mixT z = mixT x) (hh : (hp = -1 ∧ T0 = mixT x) ∨ ∃ h, h < 24 ∧ hp = nI h ∧ T0 = hlT (mixT x) h) (k : ∀ u, PFr y u → mixT u = mixT x → gi u 719 = (accT (plS A N) A (pl0 T0 S)).1 → (∀ a, a < 24 → gi u 722 a = (accT (plS A N) A (pl0 T0 S)).2.2.1 a) → (∀ a, a < 24 → gi u 723 a = (accT (plS A N) A (pl0 T0 S)).2.2.2.1 a) → Q (nI (accT (plS A N) A (pl0 T0 S)).2.2.2.2) u) : mSI mX8_playsAside [.ref 717, .int hp] KW z Q := by
  have M : MRf z 718 := (R.2.1.keep f.1).keep f2.1
  refine sp_X8_playsAside M (T0 := T0) (by rw [hm]; exact hh) (pl_wf E hh) (fun u fu u1 u2 u3 => k u (f2.tr fu) ?_ u1 u2 u3)
  have iv := PIV.run (pl_wf E hh) A (Nat.le_refl _)
  funext i
  unfold mixT
  by_cases c : i < 518
  · rw [if_pos c, if_pos c, fu.2 718 i (by decide) (by decide) (by decide) (by decide) (by omega), f2.2 718 i (by decide) (by decide) (by decide) (by decide) (by omega), f.2 718 i (by omega)]
  · rw [if_neg c, if_neg c, u1, iv.2.2.2.1 i (by omega) (by omega)]
    rcases hh with ⟨_, rfl⟩ | ⟨h, h1, _, rfl⟩
    · unfold mixT; rw [if_neg c]
    · rw [hlT_off h1 (by omega)]; unfold mixT; rw [if_neg c]
theorem CPR.end {y : Cn} {W C S A N : Nat} {T0 : TT} (F : WFB T0 W C S A N) (c : CPR y (accT (plS A N) A (pl0 T0 S)) W C A N) {a : Nat} (ha : a < A) : gi y 173 a = (accT (plS A N) A (pl0 T0 S)).2.2.1 a ∧ gi y 174 a = (accT (plS A N) A (pl0 T0 S)).2.2.2.1 a :=
  c.2.2.2 a (usd_t.mp (cnt_all A (PIV.run F A (Nat.le_refl _)).2.1 a ha))
set_option maxHeartbeats 2000000 in
theorem v_X2_firstOf_0 {K : Sh} {x : Cn} {Q : Int32 → Cn → Prop} {b0 : Nat} {b1 : Nat} {b0_0 : Nat} (k_b0 : kk K b0 = some (2, 0)) (g_b0_0 : gr x b0 0 = some b0_0) (k_b0_0 : kk K b0_0 = some (4, 0)) (K0 : mSV mX4_copyFrom [.ref b0_0, .ref b1] K x (fun y_1 => mSV mX2_countSlots [.ref b0] K y_1 (fun y_2 => mSI mX2_allAsks [.ref b0] K y_2 (fun r_4 y_3 => mSI mX2_chosen [.ref b0, .int r_4, .int 1] K y_3 (fun r_6 y_5 => Q r_6 y_5))))) : mSI mX2_firstOf [.ref b0, .ref b1] K x Q := by
  refine s_I (by decide) (by simp [Value.category]) (Nat.le_of_ble_eq_true rfl) ?_
  show mGM mX2_firstOf 0 [some (.ref b0), some (.ref b1)] [] (hp K x) (PI K Q)
  refine r_aload_n (pc := 0) dX2_firstOf_0 rfl ?_
  refine s_getR (pc := 1) dX2_firstOf_1 fl_X2_12 rfl k_b0 g_b0_0 ?_
  refine r_aload_n (pc := 4) dX2_firstOf_4 rfl ?_
  refine s_VV (pc := 5) mX4_copyFrom (ci := 4) (a := b0_0) (As := [.ref b1]) dX2_firstOf_5 lk_X2_32 in_X4_copyFrom mo_X4_copyFrom ⟨by decide, rfl⟩ ⟨by decide, by decide⟩ (Nat.le_of_ble_eq_true rfl) k_b0_0 (mSV_mono K0 (fun y_1 K0 => ?_))
  refine r_aload_n (pc := 8) dX2_firstOf_8 rfl ?_
  refine s_VV (pc := 9) mX2_countSlots (ci := 2) (a := b0) (As := []) dX2_firstOf_9 lk_X2_36 in_X2_countSlots mo_X2_countSlots ⟨by decide, rfl⟩ ⟨by decide, by decide⟩ (Nat.le_of_ble_eq_true rfl) k_b0 (mSV_mono K0 (fun y_2 K0 => ?_))
  refine r_aload_n (pc := 12) dX2_firstOf_12 rfl ?_
  refine r_aload_n (pc := 13) dX2_firstOf_13 rfl ?_
  refine s_VI (pc := 14) mX2_allAsks (ci := 2) (a := b0) (As := []) dX2_firstOf_14 lk_X2_39 in_X2_allAsks mo_X2_allAsks ⟨by decide, rfl⟩ ⟨by decide, by decide⟩ (Nat.le_of_ble_eq_true rfl) k_b0 (mSI_mono K0 (fun r_4 y_3 K0 => ?_))
  refine r_iconst (pc := 17) (v := 1) dX2_firstOf_17 (by decide) ?_
  refine s_VI (pc := 18) mX2_chosen (ci := 2) (a := b0) (As := [.int r_4, .int 1]) dX2_firstOf_18 lk_X2_43 in_X2_chosen mo_X2_chosen ⟨by decide, rfl⟩ ⟨by decide, by decide⟩ (Nat.le_of_ble_eq_true rfl) k_b0 (mSI_mono K0 (fun r_6 y_5 K0 => ?_))
  exact s_iret rfl dX2_firstOf_21 K0
set_option maxHeartbeats 2000000 in
theorem v_X7_first_0 {K : Sh} {x : Cn} {Q : Int32 → Cn → Prop} {b0 : Nat} {b0_2 : Nat} {b0_9 : Nat} (k_b0 : kk K b0 = some (7, 0)) (g_b0_2 : gr x b0 2 = some b0_2) (k_b0_2 : kk K b0_2 = some (4, 0)) (g_b0_9 : gr x b0 9 = some b0_9) (k_b0_9 : kk K b0_9 = some (2, 0)) (K0 : ((0 < gi x b0_2 0) → (mSI mX2_firstOf [.ref b0_9, .ref b0_2] K x (fun r_3 y_2 => Q r_3 y_2))) ∧ (¬ (0 < gi x b0_2 0) → (Q (-2) x))) : mSI mX7_first [.ref b0] K x Q := by
  refine s_I (by decide) (by simp [Value.category]) (Nat.le_of_ble_eq_true rfl) ?_
  show mGM mX7_first 0 [some (.ref b0)] [] (hp K x) (PI K Q)
  refine r_aload_n (pc := 0) dX7_first_0 rfl ?_
  refine s_VI (pc := 1) mX7_hasText (ci := 7) (a := b0) (As := []) dX7_first_1 lk_X7_121 in_X7_hasText mo_X7_hasText ⟨by decide, rfl⟩ ⟨by decide, by decide⟩ (Nat.le_of_ble_eq_true rfl) k_b0 (sp_X7_hasText k_b0 g_b0_2 k_b0_2 ?_)
  refine r_if_ne (pc := 4) (tgt := 10) dX7_first_4 (by decide) (fun q => ?_) (fun q => ?_)
  · have q := b2i_nz q
    have K0 := K0.1 q
    refine r_aload_n (pc := 10) dX7_first_10 rfl ?_
    refine s_getR (pc := 11) dX7_first_11 fl_X7_54 rfl k_b0 g_b0_9 ?_
    refine r_aload_n (pc := 14) dX7_first_14 rfl ?_
    refine s_getR (pc := 15) dX7_first_15 fl_X7_20 rfl k_b0 g_b0_2 ?_
    refine s_VI (pc := 18) mX2_firstOf (ci := 2) (a := b0_9) (As := [.ref b0_2]) dX7_first_18 lk_X7_310 in_X2_firstOf mo_X2_firstOf ⟨by decide, rfl⟩ ⟨by decide, by decide⟩ (Nat.le_of_ble_eq_true rfl) k_b0_9 (mSI_mono K0 (fun r_3 y_2 K0 => ?_))
    exact s_iret rfl dX7_first_21 K0
  · have q := (b2i_z _).mp q
    have K0 := K0.2 q
    refine r_bipush (pc := 7) (v := (-2)) dX7_first_7 (by decide) ?_
    exact s_iret rfl dX7_first_9 K0
set_option maxHeartbeats 2000000 in
theorem v_X8_first_0 {K : Sh} {x : Cn} {Q : Int32 → Cn → Prop} {b0 : Nat} {b0_1 : Nat} {n_b0_1 : Nat} (k_b0 : kk K b0 = some (8, 0)) (g_b0_1 : gr x b0 1 = some b0_1) (k_b0_1 : kk K b0_1 = some (20, n_b0_1)) (K0 : vp_in 0 n_b0_1 ∧ (((0 < gi x b0_1 0) → (mSV mX8_begins [.ref b0] K x (fun y_3 => mSI mX8_chosen [.ref b0, .int 1] K y_3 (fun r_5 y_4 => (¬ r_5 = (-1) → (Q r_5 y_4)) ∧ (r_5 = (-1) → (mSI mX8_chosen [.ref b0, .int 0] K y_4 (fun r_8 y_7 => Q r_8 y_7))))))) ∧ (¬ (0 < gi x b0_1 0) → (Q (-2) x)))) : mSI mX8_first [.ref b0] K x Q := by
  refine s_I (by decide) (by simp [Value.category]) (Nat.le_of_ble_eq_true rfl) ?_
  show mGM mX8_first 0 [some (.ref b0), none] [] (hp K x) (PI K Q)
  refine r_aload_n (pc := 0) dX8_first_0 rfl ?_
  obtain ⟨i_1, K0⟩ := K0
  refine s_VI (pc := 1) mX8_isThere (ci := 8) (a := b0) (As := []) dX8_first_1 lk_X8_49 in_X8_isThere mo_X8_isThere ⟨by decide, rfl⟩ ⟨by decide, by decide⟩ (Nat.le_of_ble_eq_true rfl) k_b0 (sp_X8_isThere k_b0 g_b0_1 k_b0_1 i_1 ?_)
  refine r_if_ne (pc := 4) (tgt := 10) dX8_first_4 (by decide) (fun q => ?_) (fun q => ?_)
  · have q := b2i_nz q
    have K0 := K0.1 q
    refine r_aload_n (pc := 10) dX8_first_10 rfl ?_
    refine s_VV (pc := 11) mX8_begins (ci := 8) (a := b0) (As := []) dX8_first_11 lk_X8_338 in_X8_begins mo_X8_begins ⟨by decide, rfl⟩ ⟨by decide, by decide⟩ (Nat.le_of_ble_eq_true rfl) k_b0 (mSV_mono K0 (fun y_3 K0 => ?_))
    refine r_aload_n (pc := 14) dX8_first_14 rfl ?_
    refine r_iconst (pc := 15) (v := 1) dX8_first_15 (by decide) ?_
    refine s_VI (pc := 16) mX8_chosen (ci := 8) (a := b0) (As := [.int 1]) dX8_first_16 lk_X8_341 in_X8_chosen mo_X8_chosen ⟨by decide, rfl⟩ ⟨by decide, by decide⟩ (Nat.le_of_ble_eq_true rfl) k_b0 (mSI_mono K0 (fun r_5 y_4 K0 => ?_))
    refine r_istore_n (pc := 19) dX8_first_19 (by decide) ?_
    refine r_iload_n (pc := 20) (L := [some (.ref b0), some (.int r_5)]) dX8_first_20 rfl ?_
    refine r_iconst (pc := 21) (v := (-1)) dX8_first_21 (by decide) ?_
    refine r_icmp_ne (pc := 22) (tgt := 33) dX8_first_22 (by decide) (fun q => ?_) (fun q => ?_)
    · have K0 := K0.1 q
      refine r_iload_n (pc := 33) dX8_first_33 rfl ?_
      exact s_iret rfl dX8_first_34 K0
    · have K0 := K0.2 q
      refine r_aload_n (pc := 25) dX8_first_25 rfl ?_
      refine r_iconst (pc := 26) (v := 0) dX8_first_26 (by decide) ?_
      refine s_VI (pc := 27) mX8_chosen (ci := 8) (a := b0) (As := [.int 0]) dX8_first_27 lk_X8_341 in_X8_chosen mo_X8_chosen ⟨by decide, rfl⟩ ⟨by decide, by decide⟩ (Nat.le_of_ble_eq_true rfl) k_b0 (mSI_mono K0 (fun r_8 y_7 K0 => ?_))
      refine r_goto (pc := 30) (tgt := 34) dX8_first_30 (by decide) ?_
      exact s_iret rfl dX8_first_34 K0
  · have q := (b2i_z _).mp q
    have K0 := K0.2 q
    refine r_bipush (pc := 7) (v := (-2)) dX8_first_7 (by decide) ?_
    exact s_iret rfl dX8_first_9 K0
set_option maxHeartbeats 2000000 in
theorem v_X7_would_0 {K : Sh} {x : Cn} {Q : Int32 → Cn → Prop} {b0 : Nat} {b0_2 : Nat} {b0_9 : Nat} (k_b0 : kk K b0 = some (7, 0)) (g_b0_2 : gr x b0 2 = some b0_2) (k_b0_2 : kk K b0_2 = some (4, 0)) (g_b0_9 : gr x b0 9 = some b0_9) (k_b0_9 : kk K b0_9 = some (2, 0)) (K0 : ((0 < gi x b0_2 0) → (mSV mX2_serve [.ref b0_9, .ref b0_2, .int (-1)] K x (fun y_2 => gr y_2 b0 9 = some b0_9 ∧ (Q (gi y_2 b0_9 4) y_2)))) ∧ (¬ (0 < gi x b0_2 0) → (Q (-2) x))) : mSI mX7_would [.ref b0] K x Q := by
  refine s_I (by decide) (by simp [Value.category]) (Nat.le_of_ble_eq_true rfl) ?_
  show mGM mX7_would 0 [some (.ref b0)] [] (hp K x) (PI K Q)
  refine r_aload_n (pc := 0) dX7_would_0 rfl ?_
  refine s_VI (pc := 1) mX7_hasText (ci := 7) (a := b0) (As := []) dX7_would_1 lk_X7_121 in_X7_hasText mo_X7_hasText ⟨by decide, rfl⟩ ⟨by decide, by decide⟩ (Nat.le_of_ble_eq_true rfl) k_b0 (sp_X7_hasText k_b0 g_b0_2 k_b0_2 ?_)
  refine r_if_ne (pc := 4) (tgt := 10) dX7_would_4 (by decide) (fun q => ?_) (fun q => ?_)
  · have q := b2i_nz q
    have K0 := K0.1 q
    refine r_aload_n (pc := 10) dX7_would_10 rfl ?_
    refine s_getR (pc := 11) dX7_would_11 fl_X7_54 rfl k_b0 g_b0_9 ?_
    refine r_aload_n (pc := 14) dX7_would_14 rfl ?_
    refine s_getR (pc := 15) dX7_would_15 fl_X7_20 rfl k_b0 g_b0_2 ?_
    refine r_iconst (pc := 18) (v := (-1)) dX7_would_18 (by decide) ?_
    refine s_VV (pc := 19) mX2_serve (ci := 2) (a := b0_9) (As := [.ref b0_2, .int (-1)]) dX7_would_19 lk_X7_314 in_X2_serve mo_X2_serve ⟨by decide, rfl⟩ ⟨by decide, by decide⟩ (Nat.le_of_ble_eq_true rfl) k_b0_9 (mSV_mono K0 (fun y_2 K0 => ?_))
    refine r_aload_n (pc := 22) dX7_would_22 rfl ?_
    obtain ⟨g_3, K0⟩ := K0
    refine s_getR (pc := 23) dX7_would_23 fl_X7_54 rfl k_b0 g_3 ?_
    refine s_getI (pc := 26) dX7_would_26 fl_X7_318 rfl k_b0_9 ?_
    exact s_iret rfl dX7_would_29 K0
  · have q := (b2i_z _).mp q
    have K0 := K0.2 q
    refine r_bipush (pc := 7) (v := (-2)) dX7_would_7 (by decide) ?_
    exact s_iret rfl dX7_would_9 K0
set_option maxHeartbeats 2000000 in
theorem v_X8_would_0 {K : Sh} {x : Cn} {Q : Int32 → Cn → Prop} {b0 : Nat} {b0_1 : Nat} {n_b0_1 : Nat} (k_b0 : kk K b0 = some (8, 0)) (g_b0_1 : gr x b0 1 = some b0_1) (k_b0_1 : kk K b0_1 = some (20, n_b0_1)) (K0 : vp_in 0 n_b0_1 ∧ ((¬ (0 < gi x b0_1 0) → (Q (-2) x)) ∧ ((0 < gi x b0_1 0) → (mSI mX8_playsAside [.ref b0, .int (-1)] K x (fun r_4 y_3 => Q r_4 y_3))))) : mSI mX8_would [.ref b0] K x Q := by
  refine s_I (by decide) (by simp [Value.category]) (Nat.le_of_ble_eq_true rfl) ?_
  show mGM mX8_would 0 [some (.ref b0)] [] (hp K x) (PI K Q)
  refine r_aload_n (pc := 0) dX8_would_0 rfl ?_
  obtain ⟨i_1, K0⟩ := K0
  refine s_VI (pc := 1) mX8_isThere (ci := 8) (a := b0) (As := []) dX8_would_1 lk_X8_49 in_X8_isThere mo_X8_isThere ⟨by decide, rfl⟩ ⟨by decide, by decide⟩ (Nat.le_of_ble_eq_true rfl) k_b0 (sp_X8_isThere k_b0 g_b0_1 k_b0_1 i_1 ?_)
  refine r_if_eq (pc := 4) (tgt := 15) dX8_would_4 (by decide) (fun q => ?_) (fun q => ?_)
  · have q := (b2i_z _).mp q
    have K0 := K0.1 q
    refine r_bipush (pc := 15) (v := (-2)) dX8_would_15 (by decide) ?_
    exact s_iret rfl dX8_would_17 K0
  · have q := b2i_nz q
    have K0 := K0.2 q
    refine r_aload_n (pc := 7) dX8_would_7 rfl ?_
    refine r_iconst (pc := 8) (v := (-1)) dX8_would_8 (by decide) ?_
    refine s_VI (pc := 9) mX8_playsAside (ci := 8) (a := b0) (As := [.int (-1)]) dX8_would_9 lk_X8_354 in_X8_playsAside mo_X8_playsAside ⟨by decide, rfl⟩ ⟨by decide, by decide⟩ (Nat.le_of_ble_eq_true rfl) k_b0 (mSI_mono K0 (fun r_4 y_3 K0 => ?_))
    refine r_goto (pc := 12) (tgt := 17) dX8_would_12 (by decide) ?_
    exact s_iret rfl dX8_would_17 K0
set_option maxHeartbeats 2000000 in
theorem v_X7_helps_0 {K : Sh} {x : Cn} {Q : Int32 → Cn → Prop} {b0 : Nat} {l1 : Int32} {b0_2 : Nat} (k_b0 : kk K b0 = some (7, 0)) (g_b0_2 : gr x b0 2 = some b0_2) (k_b0_2 : kk K b0_2 = some (4, 0)) (K0 : (¬ (0 < gi x b0_2 0) → (Q (-2) x)) ∧ ((0 < gi x b0_2 0) → (((0 ≤ l1 ∧ l1 ≤ 1) → (GI mX7_helps 26 [some (.ref b0), some (.int l1), some (.int 0), some (.int (-1)), some (.int 0)] [] K x Q)) ∧ (¬ (0 ≤ l1 ∧ l1 ≤ 1) → (Q (-2) x))))) : mSI mX7_helps [.ref b0, .int l1] K x Q := by
  refine s_I (by decide) (by simp [Value.category]) (Nat.le_of_ble_eq_true rfl) ?_
  show mGM mX7_helps 0 [some (.ref b0), some (.int l1), none, none, none] [] (hp K x) (PI K Q)
  refine r_aload_n (pc := 0) dX7_helps_0 rfl ?_
  refine s_VI (pc := 1) mX7_hasText (ci := 7) (a := b0) (As := []) dX7_helps_1 lk_X7_121 in_X7_hasText mo_X7_hasText ⟨by decide, rfl⟩ ⟨by decide, by decide⟩ (Nat.le_of_ble_eq_true rfl) k_b0 (sp_X7_hasText k_b0 g_b0_2 k_b0_2 ?_)
  refine r_if_eq (pc := 4) (tgt := 16) dX7_helps_4 (by decide) (fun q => ?_) (fun q => ?_)
  · have q := (b2i_z _).mp q
    have K0 := K0.1 q
    refine r_bipush (pc := 16) (v := (-2)) dX7_helps_16 (by decide) ?_
    exact s_iret rfl dX7_helps_18 K0
  · have q := b2i_nz q
    have K0 := K0.2 q
    refine r_iload_n (pc := 7) dX7_helps_7 rfl ?_
    refine r_iconst (pc := 8) (v := 0) dX7_helps_8 (by decide) ?_
    refine r_iconst (pc := 9) (v := 1) dX7_helps_9 (by decide) ?_
    refine s_SI (pc := 10) mX7_isWithin (As := [.int l1, .int 0, .int 1]) dX7_helps_10 lk_X7_113 st_X7_isWithin mo_X7_isWithin ⟨by decide, by decide⟩ (Nat.le_of_ble_eq_true rfl) (sp_X7_isWithin  ?_)
    refine r_if_ne (pc := 13) (tgt := 19) dX7_helps_13 (by decide) (fun q => ?_) (fun q => ?_)
    · have q := b2i_nz q
      have K0 := K0.1 q
      refine r_iconst (pc := 19) (v := 0) dX7_helps_19 (by decide) ?_
      refine r_istore_n (pc := 20) dX7_helps_20 (by decide) ?_
      refine r_iconst (pc := 21) (L := [some (.ref b0), some (.int l1), some (.int 0), none, none]) (v := (-1)) dX7_helps_21 (by decide) ?_
      refine r_istore_n (pc := 22) dX7_helps_22 (by decide) ?_
      refine r_iconst (pc := 23) (L := [some (.ref b0), some (.int l1), some (.int 0), some (.int (-1)), none]) (v := 0) dX7_helps_23 (by decide) ?_
      refine r_istore (pc := 24) dX7_helps_24 (by decide) ?_
      exact r_le (L' := [some (.ref b0), some (.int l1), some (.int 0), some (.int (-1)), some (.int 0)]) ⟨rfl, ⟨rfl, ⟨rfl, ⟨rfl, ⟨rfl, trivial⟩⟩⟩⟩⟩ K0
    · have q := (b2i_z _).mp q
      have K0 := K0.2 q
      refine r_bipush (pc := 16) (v := (-2)) dX7_helps_16 (by decide) ?_
      exact s_iret rfl dX7_helps_18 K0
set_option maxHeartbeats 2000000 in
theorem v_X7_helps_26 {K : Sh} {x : Cn} {Q : Int32 → Cn → Prop} {b0 : Nat} {l1 : Int32} {l2 : Int32} {l3 : Int32} {l4 : Int32} {b0_9 : Nat} {b0_2 : Nat} (k_b0 : kk K b0 = some (7, 0)) (g_b0_9 : gr x b0 9 = some b0_9) (g_b0_2 : gr x b0 2 = some b0_2) (k_b0_9 : kk K b0_9 = some (2, 0)) (K0 : (24 ≤ l4 → ((¬ l1 = 0 → (Q l3 x)) ∧ (l1 = 0 → (Q l2 x)))) ∧ (¬ 24 ≤ l4 → (mSV mX2_serve [.ref b0_9, .ref b0_2, .int l4] K x (fun y_3 => gr y_3 b0 9 = some b0_9 ∧ (((gi y_3 b0_9 4) ≤ l3 → (GI mX7_helps 26 [some (.ref b0), some (.int l1), some (.int l2), some (.int l3), some (.int (l4 + 1))] [] K y_3 Q)) ∧ (¬ (gi y_3 b0_9 4) ≤ l3 → (GI mX7_helps 26 [some (.ref b0), some (.int l1), some (.int l4), some (.int (gi y_3 b0_9 4)), some (.int (l4 + 1))] [] K y_3 Q))))))) : GI mX7_helps 26 [some (.ref b0), some (.int l1), some (.int l2), some (.int l3), some (.int l4)] [] K x Q := by
  show mGM mX7_helps 26 [some (.ref b0), some (.int l1), some (.int l2), some (.int l3), some (.int l4)] [] (hp K x) (PI K Q)
  refine r_iload (pc := 26) dX7_helps_26 rfl ?_
  refine r_bipush (pc := 28) (v := 24) dX7_helps_28 (by decide) ?_
  refine r_icmp_ge (pc := 30) (tgt := 74) dX7_helps_30 (by decide) (fun q => ?_) (fun q => ?_)
  · have K0 := K0.1 q
    refine r_iload_n (pc := 74) dX7_helps_74 rfl ?_
    refine r_if_ne (pc := 75) (tgt := 82) dX7_helps_75 (by decide) (fun q => ?_) (fun q => ?_)
    · have K0 := K0.1 q
      refine r_iload_n (pc := 82) dX7_helps_82 rfl ?_
      exact s_iret rfl dX7_helps_83 K0
    · have K0 := K0.2 q
      refine r_iload_n (pc := 78) dX7_helps_78 rfl ?_
      refine r_goto (pc := 79) (tgt := 83) dX7_helps_79 (by decide) ?_
      exact s_iret rfl dX7_helps_83 K0
  · have K0 := K0.2 q
    refine r_aload_n (pc := 33) dX7_helps_33 rfl ?_
    refine s_getR (pc := 34) dX7_helps_34 fl_X7_54 rfl k_b0 g_b0_9 ?_
    refine r_aload_n (pc := 37) dX7_helps_37 rfl ?_
    refine s_getR (pc := 38) dX7_helps_38 fl_X7_20 rfl k_b0 g_b0_2 ?_
    refine r_iload (pc := 41) dX7_helps_41 rfl ?_
    refine s_VV (pc := 43) mX2_serve (ci := 2) (a := b0_9) (As := [.ref b0_2, .int l4]) dX7_helps_43 lk_X7_314 in_X2_serve mo_X2_serve ⟨by decide, rfl⟩ ⟨by decide, by decide⟩ (Nat.le_of_ble_eq_true rfl) k_b0_9 (mSV_mono K0 (fun y_3 K0 => ?_))
    refine r_aload_n (pc := 46) dX7_helps_46 rfl ?_
    obtain ⟨g_4, K0⟩ := K0
    refine s_getR (pc := 47) dX7_helps_47 fl_X7_54 rfl k_b0 g_4 ?_
    refine s_getI (pc := 50) dX7_helps_50 fl_X7_318 rfl k_b0_9 ?_
    refine r_iload_n (pc := 53) dX7_helps_53 rfl ?_
    refine r_icmp_le (pc := 54) (tgt := 68) dX7_helps_54 (by decide) (fun q => ?_) (fun q => ?_)
    · have K0 := K0.1 q
      refine r_iinc (pc := 68) (v := l4 + 1) dX7_helps_68 rfl rfl (by decide) ?_
      refine r_goto (pc := 71) (L := [some (.ref b0), some (.int l1), some (.int l2), some (.int l3), some (.int (l4 + 1))]) (tgt := 26) dX7_helps_71 (by decide) ?_
      exact r_le (L' := [some (.ref b0), some (.int l1), some (.int l2), some (.int l3), some (.int (l4 + 1))]) ⟨rfl, ⟨rfl, ⟨rfl, ⟨rfl, ⟨rfl, trivial⟩⟩⟩⟩⟩ K0
    · have K0 := K0.2 q
      refine r_aload_n (pc := 57) dX7_helps_57 rfl ?_
      refine s_getR (pc := 58) dX7_helps_58 fl_X7_54 rfl k_b0 g_4 ?_
      refine s_getI (pc := 61) dX7_helps_61 fl_X7_318 rfl k_b0_9 ?_
      refine r_istore_n (pc := 64) dX7_helps_64 (by decide) ?_
      refine r_iload (pc := 65) (L := [some (.ref b0), some (.int l1), some (.int l2), some (.int (gi y_3 b0_9 4)), some (.int l4)]) dX7_helps_65 rfl ?_
      refine r_istore_n (pc := 67) dX7_helps_67 (by decide) ?_
      refine r_iinc (pc := 68) (L := [some (.ref b0), some (.int l1), some (.int l4), some (.int (gi y_3 b0_9 4)), some (.int l4)]) (v := l4 + 1) dX7_helps_68 rfl rfl (by decide) ?_
      refine r_goto (pc := 71) (L := [some (.ref b0), some (.int l1), some (.int l4), some (.int (gi y_3 b0_9 4)), some (.int (l4 + 1))]) (tgt := 26) dX7_helps_71 (by decide) ?_
      exact r_le (L' := [some (.ref b0), some (.int l1), some (.int l4), some (.int (gi y_3 b0_9 4)), some (.int (l4 + 1))]) ⟨rfl, ⟨rfl, ⟨rfl, ⟨rfl, ⟨rfl, trivial⟩⟩⟩⟩⟩ K0
set_option maxHeartbeats 2000000 in
theorem v_X8_helps_0 {K : Sh} {x : Cn} {Q : Int32 → Cn → Prop} {b0 : Nat} {l1 : Int32} {b0_1 : Nat} {n_b0_1 : Nat} (k_b0 : kk K b0 = some (8, 0)) (g_b0_1 : gr x b0 1 = some b0_1) (k_b0_1 : kk K b0_1 = some (20, n_b0_1)) (K0 : vp_in 0 n_b0_1 ∧ ((¬ (0 < gi x b0_1 0) → (Q (-2) x)) ∧ ((0 < gi x b0_1 0) → (((0 ≤ l1 ∧ l1 ≤ 1) → (GI mX8_helps 27 [some (.ref b0), some (.int l1), some (.int 0), some (.int (-1)), some (.int 0), none] [] K x Q)) ∧ (¬ (0 ≤ l1 ∧ l1 ≤ 1) → (Q (-2) x)))))) : mSI mX8_helps [.ref b0, .int l1] K x Q := by
  refine s_I (by decide) (by simp [Value.category]) (Nat.le_of_ble_eq_true rfl) ?_
  show mGM mX8_helps 0 [some (.ref b0), some (.int l1), none, none, none, none] [] (hp K x) (PI K Q)
  refine r_aload_n (pc := 0) dX8_helps_0 rfl ?_
  obtain ⟨i_1, K0⟩ := K0
  refine s_VI (pc := 1) mX8_isThere (ci := 8) (a := b0) (As := []) dX8_helps_1 lk_X8_49 in_X8_isThere mo_X8_isThere ⟨by decide, rfl⟩ ⟨by decide, by decide⟩ (Nat.le_of_ble_eq_true rfl) k_b0 (sp_X8_isThere k_b0 g_b0_1 k_b0_1 i_1 ?_)
  refine r_if_eq (pc := 4) (tgt := 17) dX8_helps_4 (by decide) (fun q => ?_) (fun q => ?_)
  · have q := (b2i_z _).mp q
    have K0 := K0.1 q
    refine r_bipush (pc := 17) (v := (-2)) dX8_helps_17 (by decide) ?_
    exact s_iret rfl dX8_helps_19 K0
  · have q := b2i_nz q
    have K0 := K0.2 q
    refine r_iload_n (pc := 7) dX8_helps_7 rfl ?_
    refine r_i2l (pc := 8) dX8_helps_8 ?_
    refine r_lconst (pc := 9) (v := 0) dX8_helps_9 (by decide) ?_
    refine r_lconst (pc := 10) (v := 1) dX8_helps_10 (by decide) ?_
    refine s_SI (pc := 11) mX8_in (As := [.long ((l1 : Int32).toInt64), .long 0, .long 1]) dX8_helps_11 lk_X8_45 st_X8_in mo_X8_in ⟨by decide, by decide⟩ (Nat.le_of_ble_eq_true rfl) (sq_X8_in (v := l1) (lo := 0) (hi := 1) rfl (by decide) (by decide) ?_)
    refine r_if_ne (pc := 14) (tgt := 20) dX8_helps_14 (by decide) (fun q => ?_) (fun q => ?_)
    · have q := b2i_nz q
      have K0 := K0.1 q
      refine r_iconst (pc := 20) (v := 0) dX8_helps_20 (by decide) ?_
      refine r_istore_n (pc := 21) dX8_helps_21 (by decide) ?_
      refine r_iconst (pc := 22) (L := [some (.ref b0), some (.int l1), some (.int 0), none, none, none]) (v := (-1)) dX8_helps_22 (by decide) ?_
      refine r_istore_n (pc := 23) dX8_helps_23 (by decide) ?_
      refine r_iconst (pc := 24) (L := [some (.ref b0), some (.int l1), some (.int 0), some (.int (-1)), none, none]) (v := 0) dX8_helps_24 (by decide) ?_
      refine r_istore (pc := 25) dX8_helps_25 (by decide) ?_
      exact r_le (L' := [some (.ref b0), some (.int l1), some (.int 0), some (.int (-1)), some (.int 0), none]) ⟨rfl, ⟨rfl, ⟨rfl, ⟨rfl, ⟨rfl, trivial⟩⟩⟩⟩⟩ K0
    · have q := (b2i_z _).mp q
      have K0 := K0.2 q
      refine r_bipush (pc := 17) (v := (-2)) dX8_helps_17 (by decide) ?_
      exact s_iret rfl dX8_helps_19 K0
set_option maxHeartbeats 2000000 in
theorem v_X8_helps_27 {K : Sh} {x : Cn} {Q : Int32 → Cn → Prop} {b0 : Nat} {l1 : Int32} {l2 : Int32} {l3 : Int32} {l4 : Int32}  (k_b0 : kk K b0 = some (8, 0)) (K0 : (24 ≤ l4 → ((¬ l1 = 0 → (Q l3 x)) ∧ (l1 = 0 → (Q l2 x)))) ∧ (¬ 24 ≤ l4 → (mSI mX8_playsAside [.ref b0, .int l4] K x (fun r_4 y_3 => (l3 < r_4 → (GI mX8_helps 27 [some (.ref b0), some (.int l1), some (.int l4), some (.int r_4), some (.int (l4 + 1)), none] [] K y_3 Q)) ∧ (¬ l3 < r_4 → (GI mX8_helps 27 [some (.ref b0), some (.int l1), some (.int l2), some (.int l3), some (.int (l4 + 1)), none] [] K y_3 Q)))))) : GI mX8_helps 27 [some (.ref b0), some (.int l1), some (.int l2), some (.int l3), some (.int l4), none] [] K x Q := by
  show mGM mX8_helps 27 [some (.ref b0), some (.int l1), some (.int l2), some (.int l3), some (.int l4), none] [] (hp K x) (PI K Q)
  refine r_iload (pc := 27) dX8_helps_27 rfl ?_
  refine r_bipush (pc := 29) (v := 24) dX8_helps_29 (by decide) ?_
  refine r_icmp_ge (pc := 31) (tgt := 63) dX8_helps_31 (by decide) (fun q => ?_) (fun q => ?_)
  · have K0 := K0.1 q
    refine r_iload_n (pc := 63) dX8_helps_63 rfl ?_
    refine r_if_ne (pc := 64) (tgt := 71) dX8_helps_64 (by decide) (fun q => ?_) (fun q => ?_)
    · have K0 := K0.1 q
      refine r_iload_n (pc := 71) dX8_helps_71 rfl ?_
      exact s_iret rfl dX8_helps_72 K0
    · have K0 := K0.2 q
      refine r_iload_n (pc := 67) dX8_helps_67 rfl ?_
      refine r_goto (pc := 68) (tgt := 72) dX8_helps_68 (by decide) ?_
      exact s_iret rfl dX8_helps_72 K0
  · have K0 := K0.2 q
    refine r_aload_n (pc := 34) dX8_helps_34 rfl ?_
    refine r_iload (pc := 35) dX8_helps_35 rfl ?_
    refine s_VI (pc := 37) mX8_playsAside (ci := 8) (a := b0) (As := [.int l4]) dX8_helps_37 lk_X8_354 in_X8_playsAside mo_X8_playsAside ⟨by decide, rfl⟩ ⟨by decide, by decide⟩ (Nat.le_of_ble_eq_true rfl) k_b0 (mSI_mono K0 (fun r_4 y_3 K0 => ?_))
    refine r_istore (pc := 40) dX8_helps_40 (by decide) ?_
    refine r_iload (pc := 42) (L := [some (.ref b0), some (.int l1), some (.int l2), some (.int l3), some (.int l4), some (.int r_4)]) dX8_helps_42 rfl ?_
    refine r_iload_n (pc := 44) dX8_helps_44 rfl ?_
    refine r_icmp_gt (pc := 45) (tgt := 51) dX8_helps_45 (by decide) (fun q => ?_) (fun q => ?_)
    · have K0 := K0.1 q
      refine r_iload (pc := 51) dX8_helps_51 rfl ?_
      refine r_istore_n (pc := 53) dX8_helps_53 (by decide) ?_
      refine r_iload (pc := 54) (L := [some (.ref b0), some (.int l1), some (.int l4), some (.int l3), some (.int l4), some (.int r_4)]) dX8_helps_54 rfl ?_
      refine r_istore_n (pc := 56) dX8_helps_56 (by decide) ?_
      refine r_iinc (pc := 57) (L := [some (.ref b0), some (.int l1), some (.int l4), some (.int r_4), some (.int l4), some (.int r_4)]) (v := l4 + 1) dX8_helps_57 rfl rfl (by decide) ?_
      refine r_goto (pc := 60) (L := [some (.ref b0), some (.int l1), some (.int l4), some (.int r_4), some (.int (l4 + 1)), some (.int r_4)]) (tgt := 27) dX8_helps_60 (by decide) ?_
      exact r_le (L' := [some (.ref b0), some (.int l1), some (.int l4), some (.int r_4), some (.int (l4 + 1)), none]) ⟨rfl, ⟨rfl, ⟨rfl, ⟨rfl, ⟨rfl, trivial⟩⟩⟩⟩⟩ K0
    · have K0 := K0.2 q
      refine r_goto (pc := 48) (tgt := 57) dX8_helps_48 (by decide) ?_
      refine r_iinc (pc := 57) (v := l4 + 1) dX8_helps_57 rfl rfl (by decide) ?_
      refine r_goto (pc := 60) (L := [some (.ref b0), some (.int l1), some (.int l2), some (.int l3), some (.int (l4 + 1)), some (.int r_4)]) (tgt := 27) dX8_helps_60 (by decide) ?_
      exact r_le (L' := [some (.ref b0), some (.int l1), some (.int l2), some (.int l3), some (.int (l4 + 1)), none]) ⟨rfl, ⟨rfl, ⟨rfl, ⟨rfl, ⟨rfl, trivial⟩⟩⟩⟩⟩ K0
set_option maxHeartbeats 2000000 in
theorem v_X7_turn_0 {K : Sh} {x : Cn} {Q : Int32 → Cn → Prop} {b0 : Nat} {l1 : Int32} {b0_2 : Nat} {b0_9 : Nat} (k_b0 : kk K b0 = some (7, 0)) (g_b0_2 : gr x b0 2 = some b0_2) (k_b0_2 : kk K b0_2 = some (4, 0)) (g_b0_9 : gr x b0 9 = some b0_9) (k_b0_9 : kk K b0_9 = some (2, 0)) (K0 : ((0 ≤ l1 ∧ l1 < gi x b0_2 4) → (mSV mX2_serve [.ref b0_9, .ref b0_2, .int (-1)] K x (fun y_2 => gr y_2 b0 9 = some b0_9 ∧ (∃ c_4 : Nat, gr y_2 b0_9 2 = some c_4 ∧ (∃ n_7 : Nat, kk K c_4 = some (20, n_7) ∧ (vp_in l1 n_7 ∧ (Q (gi y_2 c_4 (l1 : Int32).toNatClampNeg) y_2))))))) ∧ (¬ (0 ≤ l1 ∧ l1 < gi x b0_2 4) → (Q (-2) x))) : mSI mX7_turn [.ref b0, .int l1] K x Q := by
  refine s_I (by decide) (by simp [Value.category]) (Nat.le_of_ble_eq_true rfl) ?_
  show mGM mX7_turn 0 [some (.ref b0), some (.int l1)] [] (hp K x) (PI K Q)
  refine r_aload_n (pc := 0) dX7_turn_0 rfl ?_
  refine r_iload_n (pc := 1) dX7_turn_1 rfl ?_
  refine s_VI (pc := 2) mX7_isAsk (ci := 7) (a := b0) (As := [.int l1]) dX7_turn_2 lk_X7_173 in_X7_isAsk mo_X7_isAsk ⟨by decide, rfl⟩ ⟨by decide, by decide⟩ (Nat.le_of_ble_eq_true rfl) k_b0 (sp_X7_isAsk k_b0 g_b0_2 k_b0_2 ?_)
  refine r_if_ne (pc := 5) (tgt := 11) dX7_turn_5 (by decide) (fun q => ?_) (fun q => ?_)
  · have q := b2i_nz q
    have K0 := K0.1 q
    refine r_aload_n (pc := 11) dX7_turn_11 rfl ?_
    refine s_getR (pc := 12) dX7_turn_12 fl_X7_54 rfl k_b0 g_b0_9 ?_
    refine r_aload_n (pc := 15) dX7_turn_15 rfl ?_
    refine s_getR (pc := 16) dX7_turn_16 fl_X7_20 rfl k_b0 g_b0_2 ?_
    refine r_iconst (pc := 19) (v := (-1)) dX7_turn_19 (by decide) ?_
    refine s_VV (pc := 20) mX2_serve (ci := 2) (a := b0_9) (As := [.ref b0_2, .int (-1)]) dX7_turn_20 lk_X7_314 in_X2_serve mo_X2_serve ⟨by decide, rfl⟩ ⟨by decide, by decide⟩ (Nat.le_of_ble_eq_true rfl) k_b0_9 (mSV_mono K0 (fun y_2 K0 => ?_))
    refine r_aload_n (pc := 23) dX7_turn_23 rfl ?_
    obtain ⟨g_3, K0⟩ := K0
    refine s_getR (pc := 24) dX7_turn_24 fl_X7_54 rfl k_b0 g_3 ?_
    obtain ⟨c_4, g_5, K0⟩ := K0
    refine s_getR (pc := 27) dX7_turn_27 fl_X7_321 rfl k_b0_9 g_5 ?_
    refine r_iload_n (pc := 30) dX7_turn_30 rfl ?_
    obtain ⟨n_7, e_6, K0⟩ := K0
    obtain ⟨i_8, K0⟩ := K0
    refine s_iald (pc := 31) dX7_turn_31 e_6 i_8 ?_
    exact s_iret rfl dX7_turn_32 K0
  · have q := (b2i_z _).mp q
    have K0 := K0.2 q
    refine r_bipush (pc := 8) (v := (-2)) dX7_turn_8 (by decide) ?_
    exact s_iret rfl dX7_turn_10 K0
set_option maxHeartbeats 2000000 in
theorem v_X8_turn_0 {K : Sh} {x : Cn} {Q : Int32 → Cn → Prop} {b0 : Nat} {l1 : Int32} {b0_1 : Nat} {n_b0_1 : Nat} (k_b0 : kk K b0 = some (8, 0)) (g_b0_1 : gr x b0 1 = some b0_1) (k_b0_1 : kk K b0_1 = some (20, n_b0_1)) (K0 : vp_in 3 n_b0_1 ∧ (((0 ≤ l1 ∧ l1 ≤ gi x b0_1 3 - 1) → (mSI mX8_playsAside [.ref b0, .int (-1)] K x (fun r_4 y_3 => ∃ c_5 : Nat, gr y_3 b0 16 = some c_5 ∧ (∃ n_8 : Nat, kk K c_5 = some (20, n_8) ∧ (vp_in l1 n_8 ∧ (Q (gi y_3 c_5 (l1 : Int32).toNatClampNeg) y_3)))))) ∧ (¬ (0 ≤ l1 ∧ l1 ≤ gi x b0_1 3 - 1) → (Q (-2) x)))) : mSI mX8_turn [.ref b0, .int l1] K x Q := by
  refine s_I (by decide) (by simp [Value.category]) (Nat.le_of_ble_eq_true rfl) ?_
  show mGM mX8_turn 0 [some (.ref b0), some (.int l1), none] [] (hp K x) (PI K Q)
  refine r_aload_n (pc := 0) dX8_turn_0 rfl ?_
  refine r_iload_n (pc := 1) dX8_turn_1 rfl ?_
  obtain ⟨i_1, K0⟩ := K0
  refine s_VI (pc := 2) mX8_isAsk (ci := 8) (a := b0) (As := [.int l1]) dX8_turn_2 lk_X8_281 in_X8_isAsk mo_X8_isAsk ⟨by decide, rfl⟩ ⟨by decide, by decide⟩ (Nat.le_of_ble_eq_true rfl) k_b0 (sp_X8_isAsk k_b0 g_b0_1 k_b0_1 i_1 ?_)
  refine r_if_ne (pc := 5) (tgt := 11) dX8_turn_5 (by decide) (fun q => ?_) (fun q => ?_)
  · have q := b2i_nz q
    have K0 := K0.1 q
    refine r_aload_n (pc := 11) dX8_turn_11 rfl ?_
    refine r_iconst (pc := 12) (v := (-1)) dX8_turn_12 (by decide) ?_
    refine s_VI (pc := 13) mX8_playsAside (ci := 8) (a := b0) (As := [.int (-1)]) dX8_turn_13 lk_X8_354 in_X8_playsAside mo_X8_playsAside ⟨by decide, rfl⟩ ⟨by decide, by decide⟩ (Nat.le_of_ble_eq_true rfl) k_b0 (mSI_mono K0 (fun r_4 y_3 K0 => ?_))
    refine r_istore_n (pc := 16) dX8_turn_16 (by decide) ?_
    refine r_aload_n (pc := 17) (L := [some (.ref b0), some (.int l1), some (.int r_4)]) dX8_turn_17 rfl ?_
    obtain ⟨c_5, g_6, K0⟩ := K0
    refine s_getR (pc := 18) dX8_turn_18 fl_X8_30 rfl k_b0 g_6 ?_
    refine r_iload_n (pc := 21) dX8_turn_21 rfl ?_
    obtain ⟨n_8, e_7, K0⟩ := K0
    obtain ⟨i_9, K0⟩ := K0
    refine s_iald (pc := 22) dX8_turn_22 e_7 i_9 ?_
    exact s_iret rfl dX8_turn_23 K0
  · have q := (b2i_z _).mp q
    have K0 := K0.2 q
    refine r_bipush (pc := 8) (v := (-2)) dX8_turn_8 (by decide) ?_
    exact s_iret rfl dX8_turn_10 K0
set_option maxHeartbeats 2000000 in
theorem v_X7_granted_0 {K : Sh} {x : Cn} {Q : Int32 → Cn → Prop} {b0 : Nat} {l1 : Int32} {b0_2 : Nat} {b0_9 : Nat} (k_b0 : kk K b0 = some (7, 0)) (g_b0_2 : gr x b0 2 = some b0_2) (k_b0_2 : kk K b0_2 = some (4, 0)) (g_b0_9 : gr x b0 9 = some b0_9) (k_b0_9 : kk K b0_9 = some (2, 0)) (K0 : ((0 ≤ l1 ∧ l1 < gi x b0_2 4) → (mSV mX2_serve [.ref b0_9, .ref b0_2, .int (-1)] K x (fun y_2 => gr y_2 b0 9 = some b0_9 ∧ (∃ c_4 : Nat, gr y_2 b0_9 3 = some c_4 ∧ (∃ n_7 : Nat, kk K c_4 = some (20, n_7) ∧ (vp_in l1 n_7 ∧ (Q (gi y_2 c_4 (l1 : Int32).toNatClampNeg) y_2))))))) ∧ (¬ (0 ≤ l1 ∧ l1 < gi x b0_2 4) → (Q (-2) x))) : mSI mX7_granted [.ref b0, .int l1] K x Q := by
  refine s_I (by decide) (by simp [Value.category]) (Nat.le_of_ble_eq_true rfl) ?_
  show mGM mX7_granted 0 [some (.ref b0), some (.int l1)] [] (hp K x) (PI K Q)
  refine r_aload_n (pc := 0) dX7_granted_0 rfl ?_
  refine r_iload_n (pc := 1) dX7_granted_1 rfl ?_
  refine s_VI (pc := 2) mX7_isAsk (ci := 7) (a := b0) (As := [.int l1]) dX7_granted_2 lk_X7_173 in_X7_isAsk mo_X7_isAsk ⟨by decide, rfl⟩ ⟨by decide, by decide⟩ (Nat.le_of_ble_eq_true rfl) k_b0 (sp_X7_isAsk k_b0 g_b0_2 k_b0_2 ?_)
  refine r_if_ne (pc := 5) (tgt := 11) dX7_granted_5 (by decide) (fun q => ?_) (fun q => ?_)
  · have q := b2i_nz q
    have K0 := K0.1 q
    refine r_aload_n (pc := 11) dX7_granted_11 rfl ?_
    refine s_getR (pc := 12) dX7_granted_12 fl_X7_54 rfl k_b0 g_b0_9 ?_
    refine r_aload_n (pc := 15) dX7_granted_15 rfl ?_
    refine s_getR (pc := 16) dX7_granted_16 fl_X7_20 rfl k_b0 g_b0_2 ?_
    refine r_iconst (pc := 19) (v := (-1)) dX7_granted_19 (by decide) ?_
    refine s_VV (pc := 20) mX2_serve (ci := 2) (a := b0_9) (As := [.ref b0_2, .int (-1)]) dX7_granted_20 lk_X7_314 in_X2_serve mo_X2_serve ⟨by decide, rfl⟩ ⟨by decide, by decide⟩ (Nat.le_of_ble_eq_true rfl) k_b0_9 (mSV_mono K0 (fun y_2 K0 => ?_))
    refine r_aload_n (pc := 23) dX7_granted_23 rfl ?_
    obtain ⟨g_3, K0⟩ := K0
    refine s_getR (pc := 24) dX7_granted_24 fl_X7_54 rfl k_b0 g_3 ?_
    obtain ⟨c_4, g_5, K0⟩ := K0
    refine s_getR (pc := 27) dX7_granted_27 fl_X7_324 rfl k_b0_9 g_5 ?_
    refine r_iload_n (pc := 30) dX7_granted_30 rfl ?_
    obtain ⟨n_7, e_6, K0⟩ := K0
    obtain ⟨i_8, K0⟩ := K0
    refine s_iald (pc := 31) dX7_granted_31 e_6 i_8 ?_
    exact s_iret rfl dX7_granted_32 K0
  · have q := (b2i_z _).mp q
    have K0 := K0.2 q
    refine r_bipush (pc := 8) (v := (-2)) dX7_granted_8 (by decide) ?_
    exact s_iret rfl dX7_granted_10 K0
set_option maxHeartbeats 2000000 in
theorem v_X8_granted_0 {K : Sh} {x : Cn} {Q : Int32 → Cn → Prop} {b0 : Nat} {l1 : Int32} {b0_1 : Nat} {n_b0_1 : Nat} (k_b0 : kk K b0 = some (8, 0)) (g_b0_1 : gr x b0 1 = some b0_1) (k_b0_1 : kk K b0_1 = some (20, n_b0_1)) (K0 : vp_in 3 n_b0_1 ∧ (((0 ≤ l1 ∧ l1 ≤ gi x b0_1 3 - 1) → (mSI mX8_playsAside [.ref b0, .int (-1)] K x (fun r_4 y_3 => ∃ c_5 : Nat, gr y_3 b0 17 = some c_5 ∧ (∃ n_8 : Nat, kk K c_5 = some (20, n_8) ∧ (vp_in l1 n_8 ∧ (Q (gi y_3 c_5 (l1 : Int32).toNatClampNeg) y_3)))))) ∧ (¬ (0 ≤ l1 ∧ l1 ≤ gi x b0_1 3 - 1) → (Q (-2) x)))) : mSI mX8_granted [.ref b0, .int l1] K x Q := by
  refine s_I (by decide) (by simp [Value.category]) (Nat.le_of_ble_eq_true rfl) ?_
  show mGM mX8_granted 0 [some (.ref b0), some (.int l1), none] [] (hp K x) (PI K Q)
  refine r_aload_n (pc := 0) dX8_granted_0 rfl ?_
  refine r_iload_n (pc := 1) dX8_granted_1 rfl ?_
  obtain ⟨i_1, K0⟩ := K0
  refine s_VI (pc := 2) mX8_isAsk (ci := 8) (a := b0) (As := [.int l1]) dX8_granted_2 lk_X8_281 in_X8_isAsk mo_X8_isAsk ⟨by decide, rfl⟩ ⟨by decide, by decide⟩ (Nat.le_of_ble_eq_true rfl) k_b0 (sp_X8_isAsk k_b0 g_b0_1 k_b0_1 i_1 ?_)
  refine r_if_ne (pc := 5) (tgt := 11) dX8_granted_5 (by decide) (fun q => ?_) (fun q => ?_)
  · have q := b2i_nz q
    have K0 := K0.1 q
    refine r_aload_n (pc := 11) dX8_granted_11 rfl ?_
    refine r_iconst (pc := 12) (v := (-1)) dX8_granted_12 (by decide) ?_
    refine s_VI (pc := 13) mX8_playsAside (ci := 8) (a := b0) (As := [.int (-1)]) dX8_granted_13 lk_X8_354 in_X8_playsAside mo_X8_playsAside ⟨by decide, rfl⟩ ⟨by decide, by decide⟩ (Nat.le_of_ble_eq_true rfl) k_b0 (mSI_mono K0 (fun r_4 y_3 K0 => ?_))
    refine r_istore_n (pc := 16) dX8_granted_16 (by decide) ?_
    refine r_aload_n (pc := 17) (L := [some (.ref b0), some (.int l1), some (.int r_4)]) dX8_granted_17 rfl ?_
    obtain ⟨c_5, g_6, K0⟩ := K0
    refine s_getR (pc := 18) dX8_granted_18 fl_X8_33 rfl k_b0 g_6 ?_
    refine r_iload_n (pc := 21) dX8_granted_21 rfl ?_
    obtain ⟨n_8, e_7, K0⟩ := K0
    obtain ⟨i_9, K0⟩ := K0
    refine s_iald (pc := 22) dX8_granted_22 e_7 i_9 ?_
    exact s_iret rfl dX8_granted_23 K0
  · have q := (b2i_z _).mp q
    have K0 := K0.2 q
    refine r_bipush (pc := 8) (v := (-2)) dX8_granted_8 (by decide) ?_
    exact s_iret rfl dX8_granted_10 K0
theorem eq_first : Both mX7_first mX8_first [] := by
  intro x R
  obtain ⟨W, C, S, A, N, E, -, -⟩ := R.sea
  have hn := E.nums
  have hA : A ≤ 24 := hn.2.2.2.2.2.2.2.1
  have I118 : Isea 118 := Or.inr (Or.inr (Or.inl rfl))
  refine v_X7_first_0 k0 R.1.2.1 (ks0 E.1) R.1.c9 k117 ?_
  rw [hn.1]
  refine ⟨fun z => ?_, fun z => v_X8_first_0 km R.2.1.1 km1 ⟨v0 (k := 0) (by decide) rfl rfl, fun u => absurd (by rw [(Rel.t2 E).1] at u; exact u) z, fun _ => ⟨rfl, R⟩⟩⟩
  refine v_X2_firstOf_0 k117 R.1.pl.1 (ks0 I118) (sp_X4_copyFrom I118 R.1.2.2.2.2.2.2.2.2.2.2.2.2.2.2.2.2.2.2.1 E (by decide) (fun v fv Ev => ?_))
  refine sp_X2_countSlots (R.1.pl.keep fv.1) Ev.b (fun w hw lw => ?_)
  have fw : PCr x w := fv.pc.tr (hw.pc (by decide))
  have Ew : SEB w 118 (gi x 718) W C S A N := Ev.b.eqx hw (Or.inr (Or.inr (by decide)))
  refine v_X2_allAsks_0 k117 (R.1.pl.keep fw.1).1 (ks0 I118) ?_
  rw [Ew.nums.2.2.2.1]
  refine sp_X2_chosen (R.1.pl.keep fw.1) Ew lw (u := usd (fun _ => -1)) (fun a ha => by rw [tb_alls A (by omega) a (by omega), decide_eq_true ha, usd_f.mpr rfl]; rfl) ?_
  have Rw := R.keep fw.kp
  have e718 : gi w 718 = gi x 718 := funext (fun i => fw.2 718 i (by omega))
  refine v_X8_first_0 km Rw.2.1.1 km1 ⟨v0 (k := 0) (by decide) rfl rfl, fun _ => ?_, fun u => absurd (by rw [e718, (Rel.t2 E).1]; exact z) u⟩
  refine sp_X8_begins Rw.2.1 (fun u u1 u2 u3 u4 => ?_)
  have fu : PFr w u := ⟨u1, fun a j a1 a2 a3 a4 a5 => u2 a j a3 a4 a5⟩
  have e2 : gi u 718 = gi x 718 := (funext (fun i => u2 718 i (by decide) (by decide) (by omega))).trans e718
  have Fu : WFB (gi u 718) W C S A N := by rw [e2]; exact E.2.2.2.b
  have hu : ∀ a, a < 24 → gi u 722 a = (fun _ => (-1 : Int32)) a := fun a ha => (u4 a ha).1
  have Ru : Rel u := Rw.keep fu.kp
  refine sp_X8_chosen Ru.2.1 km1 Fu hu ?_
  rw [e2]
  unfold chC
  refine ⟨fun z2 => ⟨by rw [if_neg z2], Ru⟩, fun z2 => sp_X8_chosen Ru.2.1 km1 Fu hu ⟨?_, Ru⟩⟩
  rw [if_pos z2, if_neg (by decide), e2]
theorem eq_would : Both mX7_would mX8_would [] := by
  intro x R
  obtain ⟨W, C, S, A, N, E, -, -⟩ := R.sea
  have hn := E.nums
  refine v_X7_would_0 k0 R.1.2.1 (ks0 E.1) R.1.c9 k117 ?_
  rw [hn.1]
  refine ⟨fun z => pl_cls R E (PCr.rf x) (Or.inl ⟨rfl, rfl⟩) (fun y fy cy => ⟨(R.1.keep fy.1).c9, ?_⟩), fun z => v_X8_would_0 km R.2.1.1 km1 ⟨v0 (k := 0) (by decide) rfl rfl, fun _ => ⟨rfl, R⟩, fun u => absurd (by rw [(Rel.t2 E).1] at u; exact u) z⟩⟩
  rw [cy.2.2.1]
  have Ry := R.keep fy.kp
  refine v_X8_would_0 km Ry.2.1.1 km1 ⟨v0 (k := 0) (by decide) rfl rfl, fun u => absurd (by rw [fy.2 718 0 (by omega), (Rel.t2 E).1]; exact z) u, fun _ => ?_⟩
  exact pl_ref R E fy (PFr.rf y) (mix_pc fy) (Or.inl ⟨rfl, rfl⟩) (fun u fu u1 u2 u3 u4 => ⟨rfl, Ry.keep fu.kp⟩)
theorem eq_turn (a : Int32) : Both mX7_turn mX8_turn [.int a] := by
  intro x R
  obtain ⟨W, C, S, A, N, E, -, -⟩ := R.sea
  have hn := E.nums
  have hA : A ≤ 24 := hn.2.2.2.2.2.2.2.1
  have t3 := (Rel.t2 E).2.2.2.1
  refine v_X7_turn_0 k0 R.1.2.1 (ks0 E.1) R.1.c9 k117 ?_
  rw [hn.2.2.2.1]
  refine ⟨fun z => ?_, fun z => v_X8_turn_0 km R.2.1.1 km1 ⟨v0 (k := 3) (by decide) rfl rfl, fun u => absurd (by rw [t3, inN' (by omega)] at u; exact u) z, fun _ => ⟨rfl, R⟩⟩⟩
  obtain ⟨b, hb, rfl⟩ := inN (by omega) z
  refine pl_cls R E (PCr.rf x) (Or.inl ⟨rfl, rfl⟩) (fun y fy cy => ⟨(R.1.keep fy.1).c9, 173, (R.1.pl.keep fy.1).2.2.1, 24, k173, vp_in_nI (by omega) (by decide), ?_⟩)
  have Ry := R.keep fy.kp
  refine v_X8_turn_0 km Ry.2.1.1 km1 ⟨v0 (k := 3) (by decide) rfl rfl, fun _ => ?_, fun u => absurd (by rw [fy.2 718 3 (by omega), t3, inN' (by omega)]; exact ⟨nI_pos' (by omega), nI_lt hb (by omega)⟩) u⟩
  refine pl_ref R E fy (PFr.rf y) (mix_pc fy) (Or.inl ⟨rfl, rfl⟩) (fun u fu u1 u2 u3 u4 => ⟨722, (Ry.2.1.keep fu.1).2.2.2.2.2.1, 24, km722, vp_in_nI (by omega) (by decide), ?_, Ry.keep fu.kp⟩)
  rw [nI_clamp (by omega), u3 b (by omega)]
  exact (cy.end (pl_wf E (Or.inl ⟨rfl, rfl⟩)) hb).1
theorem eq_granted (a : Int32) : Both mX7_granted mX8_granted [.int a] := by
  intro x R
  obtain ⟨W, C, S, A, N, E, -, -⟩ := R.sea
  have hn := E.nums
  have hA : A ≤ 24 := hn.2.2.2.2.2.2.2.1
  have t3 := (Rel.t2 E).2.2.2.1
  refine v_X7_granted_0 k0 R.1.2.1 (ks0 E.1) R.1.c9 k117 ?_
  rw [hn.2.2.2.1]
  refine ⟨fun z => ?_, fun z => v_X8_granted_0 km R.2.1.1 km1 ⟨v0 (k := 3) (by decide) rfl rfl, fun u => absurd (by rw [t3, inN' (by omega)] at u; exact u) z, fun _ => ⟨rfl, R⟩⟩⟩
  obtain ⟨b, hb, rfl⟩ := inN (by omega) z
  refine pl_cls R E (PCr.rf x) (Or.inl ⟨rfl, rfl⟩) (fun y fy cy => ⟨(R.1.keep fy.1).c9, 174, (R.1.pl.keep fy.1).2.2.2, 24, k174, vp_in_nI (by omega) (by decide), ?_⟩)
  have Ry := R.keep fy.kp
  refine v_X8_granted_0 km Ry.2.1.1 km1 ⟨v0 (k := 3) (by decide) rfl rfl, fun _ => ?_, fun u => absurd (by rw [fy.2 718 3 (by omega), t3, inN' (by omega)]; exact ⟨nI_pos' (by omega), nI_lt hb (by omega)⟩) u⟩
  refine pl_ref R E fy (PFr.rf y) (mix_pc fy) (Or.inl ⟨rfl, rfl⟩) (fun u fu u1 u2 u3 u4 => ⟨723, (Ry.2.1.keep fu.1).2.2.2.2.2.2.1, 24, km723, vp_in_nI (by omega) (by decide), ?_, Ry.keep fu.kp⟩)
  rw [nI_clamp (by omega), u4 b (by omega)]
  exact (cy.end (pl_wf E (Or.inl ⟨rfl, rfl⟩)) hb).2
theorem eq_helps (a : Int32) : Both mX7_helps mX8_helps [.int a] := by
  intro x R
  obtain ⟨W, C, S, A, N, E, -, -⟩ := R.sea
  have hn := E.nums
  have t0 := (Rel.t2 E).1
  refine v_X7_helps_0 k0 R.1.2.1 (ks0 E.1) ?_
  rw [hn.1]
  refine ⟨fun z => v_X8_helps_0 km R.2.1.1 km1 ⟨v0 (k := 0) (by decide) rfl rfl, fun _ => ⟨rfl, R⟩, fun u => absurd (by rw [t0] at u; exact u) z⟩, fun z1 => ⟨fun z2 => ?_, fun z2 => v_X8_helps_0 km R.2.1.1 km1 ⟨v0 (k := 0) (by decide) rfl rfl, fun _ => ⟨rfl, R⟩, fun _ => ⟨fun u => absurd u z2, fun _ => ⟨rfl, R⟩⟩⟩⟩⟩
  let gn : Nat → Int32 := fun h => nI (accT (plS A N) A (pl0 (hlT (mixT x) h) S)).2.2.2.2
  let st : Nat → Int32 × Int32 → Int32 × Int32 := fun h t => if t.2 < gn h then (nI h, gn h) else t
  refine lp_acc st (fun h t => ∀ y, PCr x y → GI mX7_helps 26 [some (.ref 0), some (.int a), some (.int t.1), some (.int t.2), some (.int (nI h))] [] KW y _) 24 (0, -1) ?_ (fun h t hh n1 => ?_) x (PCr.rf x)
  · intro y fy
    have Ry := R.keep fy.kp
    have ref : ∀ v, v = (if a = 0 then (accT st 24 (0, -1)).1 else (accT st 24 (0, -1)).2) → mSI mX8_helps [.ref 717, .int a] KW y (fun r' z => v = r' ∧ Rel z) := by
      intro v hv
      refine v_X8_helps_0 km Ry.2.1.1 km1 ⟨v0 (k := 0) (by decide) rfl rfl, fun u => absurd (by rw [fy.2 718 0 (by omega), t0]; exact z1) u, fun _ => ⟨fun _ => ?_, fun u => absurd z2 u⟩⟩
      refine lp_acc st (fun h t => ∀ z, PFr y z → mixT z = mixT x → GI mX8_helps 27 [some (.ref 717), some (.int a), some (.int t.1), some (.int t.2), some (.int (nI h)), none] [] KW z _) 24 (0, -1) ?_ (fun h t hh n1 => ?_) y (PFr.rf y) (mix_pc fy)
      · intro z fz hz
        exact v_X8_helps_27 km ⟨fun _ => ⟨fun u => ⟨by rw [hv, if_neg u], Ry.keep fz.kp⟩, fun u => ⟨by rw [hv, if_pos u], Ry.keep fz.kp⟩⟩, fun u => absurd (Int32.le_refl _) u⟩
      · intro z fz hz
        refine v_X8_helps_27 km ⟨fun u => absurd u (nI_ge (b := 24) hh (by decide)), fun _ => ?_⟩
        rw [nI_1]
        refine pl_ref R E fy fz hz (T0 := hlT (mixT x) h) (Or.inr ⟨h, hh, rfl, rfl⟩) (fun u fu hu u1 u2 u3 => ⟨fun c => n1 (nI h, gn h) (if_pos c) u fu hu, fun c => n1 t (if_neg c) u fu hu⟩)
    exact v_X7_helps_26 k0 (R.1.keep fy.1).c9 (R.1.keep fy.1).2.1 k117 ⟨fun _ => ⟨fun u => ref _ (by rw [if_neg u]), fun u => ref _ (by rw [if_pos u])⟩, fun u => absurd (Int32.le_refl _) u⟩
  · intro y fy
    refine v_X7_helps_26 k0 (R.1.keep fy.1).c9 (R.1.keep fy.1).2.1 k117 ⟨fun u => absurd u (nI_ge (b := 24) hh (by decide)), fun _ => ?_⟩
    rw [nI_1]
    refine pl_cls R E fy (T0 := hlT (mixT x) h) (Or.inr ⟨h, hh, rfl, rfl⟩) (fun z fz cz => ⟨(R.1.keep fz.1).c9, ?_⟩)
    rw [cz.2.2.1]
    exact ⟨fun c => n1 t (if_neg (Int32.not_lt.mpr c)) z fz, fun c => n1 (nI h, gn h) (if_pos (Int32.not_le.mp c)) z fz⟩
end
/-! 58.pool5.lean.txt -/
section
theorem AC.pc {x y z : Cn} {W C S A N n : Nat} {T : TT} {H : Nat → TT} (a : AC x y W C S A N n T H) (f : PCr y z) : AC x z W C S A N n T H :=
  ⟨fun b k b1 b2 b3 b4 => (f.2 b k (by omega)).trans (a.1 b k b1 b2 b3 b4), a.2.1.keep f.1, a.2.2.1.keep f.1, a.2.2.2.1.mv a.2.1 (f.2 0 5 (by omega)) (fun b k g1 g2 => f.2 b k (by omega)) (fun b k _ => by unfold gr; rw [f.1]) (fun _ _ => rfl), a.2.2.2.2.keep f.1 (fun b k g1 g2 _ => f.2 b k (by omega))⟩
theorem AC.rem2 {x y : Cn} {Q : Cn → Prop} {W C S A N n : Nat} {T : TT} {H : Nat → TT} (a : AC x y W C S A N n T H) (hT : ∀ c, c < C → T (54 + c) = gi x 718 (54 + c)) (k : ∀ z, AC x z W C S A N (pn n) T (push H n T) → (∀ b j, ¬ (177 ≤ b ∧ b < 717) → ¬ (b = 0 ∧ j = 5) → gi z b j = gi y b j) → (∀ b j, b ≠ 58 → gr z b j = gr y b j) → Q z) : mSV mX7_remember [.ref 0] KW y Q := by
  obtain ⟨a1, a2, a3, a4, a5⟩ := a
  have a4' : Hs y C T n H := ⟨a4.1, a4.2.1, fun j hj => by
    obtain ⟨q, W2, S2, A2, N2, q1, q2, q3⟩ := a4.2.2 j hj
    exact ⟨q, W2, S2, A2, N2, q1, q2, fun c hc => (q3 c hc).trans (hT c hc).symm⟩⟩
  refine sp_X7_remember a2 a5 a4' (fun z z1 z2 z3 z4 => k z ⟨fun b j b1 b2 b3 b4 => (z2 b j b3 b4).trans (a1 b j b1 b2 b3 b4), z1, ?_, ?_, a5.mv (fun b j g1 g2 => z3 b j (by omega)) (fun b j g1 g2 _ => z2 b j (by omega) (by omega)) (fun _ _ => rfl)⟩ z2 z3)
  · unfold MRf at a3 ⊢
    simp only [z3 717 _ (by decide)]
    exact a3
  · exact ⟨z4.1, z4.2.1, fun j hj => by
      obtain ⟨q, W2, S2, A2, N2, q1, q2, q3⟩ := z4.2.2 j hj
      exact ⟨q, W2, S2, A2, N2, q1, q2, fun c hc => (q3 c hc).trans (hT c hc)⟩⟩
theorem RS.pf {x y : Cn} {n : Nat} {T : TT} {H : Nat → TT} (r : RS x T n H) (f : PFr x y) : RS y T n H :=
  ⟨r.1.keep f.1, (funext (fun i => f.2 718 i (by decide) (by decide) (by decide) (by decide) (by omega))).trans r.2.1, (f.2 717 19 (by decide) (by decide) (by decide) (by decide) (by omega)).trans r.2.2.1, r.2.2.2.1, fun j hj i hi => (f.2 724 _ (by decide) (by decide) (by decide) (by decide) (by omega)).trans (r.2.2.2.2 j hj i hi)⟩
theorem PFr.rfr {x y : Cn} (f : PFr x y) : RFr x y := ⟨f.1, fun a k _ a2 a3 a4 a5 _ a7 => f.2 a k a2 a3 a4 a5 (fun u => a7 (by omega))⟩
theorem RS.keeps2 {x : Cn} {Q : Cn → Prop} {n : Nat} {T : TT} {H : Nat → TT} (r : RS x T n H) (k : ∀ y, RFr x y → (∀ a j, a ≠ 724 → ¬ (a = 717 ∧ j = 19) → gi y a j = gi x a j) → RS y T (pn n) (push H n T) → Q y) : mSV mX8_keeps [.ref 717] KW x Q := by
  refine sp_X8_keeps r.1 r.2.2.2.1 r.2.2.1 (fun y f1 f2 f3 f4 => k y f1 f2 ⟨r.1.keep f1.1, (funext (fun i => f2 718 i (by decide) (by omega))).trans r.2.1, f3, by unfold pn; split <;> have := r.2.2.2.1 <;> omega, fun j hj i hi => ?_⟩)
  rw [f4 j hj i hi, r.2.1]
  have hn := r.2.2.2.1
  have h2 := r.2.2.2.2
  unfold push pn at *
  by_cases c : n = 10
  · rw [if_pos c] at hj ⊢
    rw [if_pos c]
    by_cases c9 : j = 9
    · rw [if_pos c9, if_pos c9]
    · rw [if_neg c9, if_neg c9]; exact h2 (j + 1) (by omega) i hi
  · rw [if_neg c] at hj ⊢
    rw [if_neg c]
    by_cases c9 : j = n
    · rw [if_pos c9, if_pos c9]
    · rw [if_neg c9, if_neg c9]; exact h2 j (by omega) i hi
/-- the asks that were granted go, from the last on -/
def dpF (hr : TT) : Nat → TT × Nat → TT × Nat
  | 0, t => t
  | m + 1, t => dpF hr m (if hr m = -1 then t else (drT t.1 m t.2, t.2 - 1))
theorem dp_skip {hr : TT} {A : Nat} (h : ∀ a, A ≤ a → hr a = -1) : ∀ m, A ≤ m → ∀ t, dpF hr m t = dpF hr A t := by
  intro m
  induction m with
  | zero => intro hA t; rw [show A = 0 by omega]
  | succ m ih =>
    intro hA t
    by_cases c : A = m + 1
    · rw [c]
    · show dpF hr m (if hr m = -1 then t else (drT t.1 m t.2, t.2 - 1)) = _
      rw [if_pos (h m (by omega))]
      exact ih (by omega) t
theorem dp_off {hr : TT} : ∀ m t i, i < 350 → i ≠ 3 → (dpF hr m t).1 i = t.1 i := by
  intro m
  induction m with
  | zero => intro t i _ _; rfl
  | succ m ih =>
    intro t i hi h3
    show (dpF hr m (if hr m = -1 then t else (drT t.1 m t.2, t.2 - 1))).1 i = t.1 i
    rw [ih _ i hi h3]
    by_cases c : hr m = -1
    · rw [if_pos c]
    · rw [if_neg c]; exact drT_off h3 hi
set_option maxHeartbeats 2000000 in
theorem v_X2_carryOver_0 {K : Sh} {x : Cn} {Q : Cn → Prop} {b0 : Nat} {b1 : Nat} {b0_0 : Nat} (k_b0 : kk K b0 = some (2, 0)) (g_b0_0 : gr x b0 0 = some b0_0) (k_b1 : kk K b1 = some (4, 0)) (k_b0_0 : kk K b0_0 = some (4, 0)) (K0 : mSV mX4_copyFrom [.ref b1, .ref b0_0] K x (fun y_1 => gr y_1 b0 0 = some b0_0 ∧ (GV mX2_carryOver 18 [some (.ref b0), some (.ref b1), some (.int ((gi y_1 b0_0 4) - 1))] [] K y_1 Q))) : mSV mX2_carryOver [.ref b0, .ref b1] K x Q := by
  refine s_V (by decide) (by simp [Value.category]) (Nat.le_of_ble_eq_true rfl) ?_
  show mGM mX2_carryOver 0 [some (.ref b0), some (.ref b1), none] [] (hp K x) (PV K Q)
  refine r_aload_n (pc := 0) dX2_carryOver_0 rfl ?_
  refine r_aload_n (pc := 1) dX2_carryOver_1 rfl ?_
  refine s_getR (pc := 2) dX2_carryOver_2 fl_X2_12 rfl k_b0 g_b0_0 ?_
  refine s_VV (pc := 5) mX4_copyFrom (ci := 4) (a := b1) (As := [.ref b0_0]) dX2_carryOver_5 lk_X2_32 in_X4_copyFrom mo_X4_copyFrom ⟨by decide, rfl⟩ ⟨by decide, by decide⟩ (Nat.le_of_ble_eq_true rfl) k_b1 (mSV_mono K0 (fun y_1 K0 => ?_))
  refine r_aload_n (pc := 8) dX2_carryOver_8 rfl ?_
  obtain ⟨g_2, K0⟩ := K0
  refine s_getR (pc := 9) dX2_carryOver_9 fl_X2_12 rfl k_b0 g_2 ?_
  refine s_getI (pc := 12) dX2_carryOver_12 fl_X2_53 rfl k_b0_0 ?_
  refine r_iconst (pc := 15) (v := 1) dX2_carryOver_15 (by decide) ?_
  refine r_isub (pc := 16) dX2_carryOver_16 ?_
  refine r_istore_n (pc := 17) dX2_carryOver_17 (by decide) ?_
  exact r_le (L' := [some (.ref b0), some (.ref b1), some (.int ((gi y_1 b0_0 4) - 1))]) ⟨rfl, ⟨rfl, ⟨rfl, trivial⟩⟩⟩ K0
set_option maxHeartbeats 2000000 in
theorem v_X2_carryOver_18 {K : Sh} {x : Cn} {Q : Cn → Prop} {b0 : Nat} {b1 : Nat} {l2 : Int32} {b0_3 : Nat} {n_b0_3 : Nat} (k_b0 : kk K b0 = some (2, 0)) (g_b0_3 : gr x b0 3 = some b0_3) (k_b0_3 : kk K b0_3 = some (20, n_b0_3)) (k_b1 : kk K b1 = some (4, 0)) (K0 : (l2 < 0 → (Q x)) ∧ (¬ l2 < 0 → (vp_in l2 n_b0_3 ∧ (((gi x b0_3 (l2 : Int32).toNatClampNeg) = (-1) → (GV mX2_carryOver 18 [some (.ref b0), some (.ref b1), some (.int (l2 + (-1)))] [] K x Q)) ∧ (¬ (gi x b0_3 (l2 : Int32).toNatClampNeg) = (-1) → (mSV mX4_removeAsk [.ref b1, .int l2] K x (fun y_4 => GV mX2_carryOver 18 [some (.ref b0), some (.ref b1), some (.int (l2 + (-1)))] [] K y_4 Q))))))) : GV mX2_carryOver 18 [some (.ref b0), some (.ref b1), some (.int l2)] [] K x Q := by
  show mGM mX2_carryOver 18 [some (.ref b0), some (.ref b1), some (.int l2)] [] (hp K x) (PV K Q)
  refine r_iload_n (pc := 18) dX2_carryOver_18 rfl ?_
  refine r_if_lt (pc := 19) (tgt := 43) dX2_carryOver_19 (by decide) (fun q => ?_) (fun q => ?_)
  · have K0 := K0.1 q
    exact s_ret rfl dX2_carryOver_43 K0
  · have K0 := K0.2 q
    refine r_aload_n (pc := 22) dX2_carryOver_22 rfl ?_
    refine s_getR (pc := 23) dX2_carryOver_23 fl_X2_25 rfl k_b0 g_b0_3 ?_
    refine r_iload_n (pc := 26) dX2_carryOver_26 rfl ?_
    obtain ⟨i_2, K0⟩ := K0
    refine s_iald (pc := 27) dX2_carryOver_27 k_b0_3 i_2 ?_
    refine r_iconst (pc := 28) (v := (-1)) dX2_carryOver_28 (by decide) ?_
    refine r_icmp_eq (pc := 29) (tgt := 37) dX2_carryOver_29 (by decide) (fun q => ?_) (fun q => ?_)
    · have K0 := K0.1 q
      refine r_iinc (pc := 37) (v := l2 + (-1)) dX2_carryOver_37 rfl rfl (by decide) ?_
      refine r_goto (pc := 40) (L := [some (.ref b0), some (.ref b1), some (.int (l2 + (-1)))]) (tgt := 18) dX2_carryOver_40 (by decide) ?_
      exact r_le (L' := [some (.ref b0), some (.ref b1), some (.int (l2 + (-1)))]) ⟨rfl, ⟨rfl, ⟨rfl, trivial⟩⟩⟩ K0
    · have K0 := K0.2 q
      refine r_aload_n (pc := 32) dX2_carryOver_32 rfl ?_
      refine r_iload_n (pc := 33) dX2_carryOver_33 rfl ?_
      refine s_VV (pc := 34) mX4_removeAsk (ci := 4) (a := b1) (As := [.int l2]) dX2_carryOver_34 lk_X2_60 in_X4_removeAsk mo_X4_removeAsk ⟨by decide, rfl⟩ ⟨by decide, by decide⟩ (Nat.le_of_ble_eq_true rfl) k_b1 (mSV_mono K0 (fun y_4 K0 => ?_))
      refine r_iinc (pc := 37) (v := l2 + (-1)) dX2_carryOver_37 rfl rfl (by decide) ?_
      refine r_goto (pc := 40) (L := [some (.ref b0), some (.ref b1), some (.int (l2 + (-1)))]) (tgt := 18) dX2_carryOver_40 (by decide) ?_
      exact r_le (L' := [some (.ref b0), some (.ref b1), some (.int (l2 + (-1)))]) ⟨rfl, ⟨rfl, ⟨rfl, trivial⟩⟩⟩ K0
section
theorem sp_X2_carryOver_lp {x : Cn} {Q : Cn → Prop} {hr : TT} {W C S N n : Nat} {H : Nat → TT} : ∀ m (t : TT × Nat) v, m ≤ 24 → (∀ a, a < m → ¬ hr a = -1 → a < t.2) → AC x v W C S t.2 N n t.1 H → PLf v → (∀ a, a < m → gi v 174 a = hr a) → (∀ w, AC x w W C S (dpF hr m t).2 N n (dpF hr m t).1 H → (∀ a j, ¬ (2 ≤ a ∧ a < 56) → gi w a j = gi v a j) → (∀ a j, ¬ (2 ≤ a ∧ a < 56) → gr w a j = gr v a j) → Q w) → GV mX2_carryOver 18 [some (.ref 117), some (.ref 2), some (.int (nI m - 1))] [] KW v Q := by
  intro m
  induction m with
  | zero =>
    intro t v hm h1 av P h2 k
    exact v_X2_carryOver_18 k117 P.2.2.2 k174 (ks0 av.2.2.2.2.1) ⟨fun _ => k v av (fun _ _ _ => rfl) (fun _ _ _ => rfl), fun z => absurd (by decide) z⟩
  | succ m ih =>
    intro t v hm h1 av P h2 k
    have em : nI (m + 1) - 1 = nI m := pk_sub (b := 1) (by omega)
    have em2 : nI m + (-1) = nI m - 1 := (Int32.sub_eq_add_neg _ _).symm
    rw [em]
    refine v_X2_carryOver_18 k117 P.2.2.2 k174 (ks0 av.2.2.2.2.1) ⟨fun z => absurd z (nI_pos (by omega)), fun _ => ⟨vp_in_nI (by omega) (by decide), ?_⟩⟩
    rw [nI_clamp (by omega), h2 m (by omega), em2]
    refine ⟨fun z => ?_, fun z => ?_⟩
    · have e : dpF hr (m + 1) t = dpF hr m t := by
        show dpF hr m (if hr m = -1 then t else (drT t.1 m t.2, t.2 - 1)) = _
        rw [if_pos z]
      rw [e] at k
      exact ih t v (by omega) (fun a ha => h1 a (by omega)) av P (fun a ha => h2 a (by omega)) k
    · have e : dpF hr (m + 1) t = dpF hr m (drT t.1 m t.2, t.2 - 1) := by
        show dpF hr m (if hr m = -1 then t else (drT t.1 m t.2, t.2 - 1)) = _
        rw [if_neg z]
      rw [e] at k
      have hlt := h1 m (by omega) z
      refine sp_X4_removeAsk av.2.2.2.2 hlt (fun w w1 w2 w3 w4 => ?_)
      have aw : AC x w W C S (t.2 - 1) N n (drT t.1 m t.2) H := av.up2 (fun d i hd => w1 d i (by omega)) (fun d i hd => w3 d i (by omega)) (av.2.2.2.2.drop hlt w1 w2 w3 w4)
      have Pw : PLf w := ⟨(w3 117 0 (by decide)).trans P.1, (w3 117 1 (by decide)).trans P.2.1, (w3 117 2 (by decide)).trans P.2.2.1, (w3 117 3 (by decide)).trans P.2.2.2⟩
      exact ih (drT t.1 m t.2, t.2 - 1) w (by omega) (fun a ha _ => show a < t.2 - 1 by omega) aw Pw (fun a ha => by rw [w1 174 a (by omega)]; exact h2 a (by omega)) (fun u au u1 u2 => k u au (fun a j ha => (u1 a j ha).trans (w1 a j (by omega))) (fun a j ha => (u2 a j ha).trans (w3 a j (by omega))))
end
set_option maxHeartbeats 2000000 in
theorem v_X7_pool_0 {K : Sh} {x : Cn} {Q : Int32 → Cn → Prop} {b0 : Nat} {b0_2 : Nat} {b0_9 : Nat} (k_b0 : kk K b0 = some (7, 0)) (g_b0_2 : gr x b0 2 = some b0_2) (k_b0_2 : kk K b0_2 = some (4, 0)) (g_b0_9 : gr x b0 9 = some b0_9) (k_b0_9 : kk K b0_9 = some (2, 0)) (K0 : ((0 < gi x b0_2 0) → (mSV mX2_serve [.ref b0_9, .ref b0_2, .int (-1)] K x (fun y_2 => gr y_2 b0 9 = some b0_9 ∧ (((gi y_2 b0_9 4) ≤ 0 → (Q (gi y_2 b0_9 4) y_2)) ∧ (¬ (gi y_2 b0_9 4) ≤ 0 → (mSV mX7_remember [.ref b0] K y_2 (fun y_5 => gr y_5 b0 9 = some b0_9 ∧ (gr y_5 b0 2 = some b0_2 ∧ (mSV mX2_carryOver [.ref b0_9, .ref b0_2] K y_5 (fun y_8 => gr y_8 b0 9 = some b0_9 ∧ (Q (gi y_8 b0_9 4) y_8))))))))))) ∧ (¬ (0 < gi x b0_2 0) → (Q (-2) x))) : mSI mX7_pool [.ref b0] K x Q := by
  refine s_I (by decide) (by simp [Value.category]) (Nat.le_of_ble_eq_true rfl) ?_
  show mGM mX7_pool 0 [some (.ref b0)] [] (hp K x) (PI K Q)
  refine r_aload_n (pc := 0) dX7_pool_0 rfl ?_
  refine s_VI (pc := 1) mX7_hasText (ci := 7) (a := b0) (As := []) dX7_pool_1 lk_X7_121 in_X7_hasText mo_X7_hasText ⟨by decide, rfl⟩ ⟨by decide, by decide⟩ (Nat.le_of_ble_eq_true rfl) k_b0 (sp_X7_hasText k_b0 g_b0_2 k_b0_2 ?_)
  refine r_if_ne (pc := 4) (tgt := 10) dX7_pool_4 (by decide) (fun q => ?_) (fun q => ?_)
  · have q := b2i_nz q
    have K0 := K0.1 q
    refine r_aload_n (pc := 10) dX7_pool_10 rfl ?_
    refine s_getR (pc := 11) dX7_pool_11 fl_X7_54 rfl k_b0 g_b0_9 ?_
    refine r_aload_n (pc := 14) dX7_pool_14 rfl ?_
    refine s_getR (pc := 15) dX7_pool_15 fl_X7_20 rfl k_b0 g_b0_2 ?_
    refine r_iconst (pc := 18) (v := (-1)) dX7_pool_18 (by decide) ?_
    refine s_VV (pc := 19) mX2_serve (ci := 2) (a := b0_9) (As := [.ref b0_2, .int (-1)]) dX7_pool_19 lk_X7_314 in_X2_serve mo_X2_serve ⟨by decide, rfl⟩ ⟨by decide, by decide⟩ (Nat.le_of_ble_eq_true rfl) k_b0_9 (mSV_mono K0 (fun y_2 K0 => ?_))
    refine r_aload_n (pc := 22) dX7_pool_22 rfl ?_
    obtain ⟨g_3, K0⟩ := K0
    refine s_getR (pc := 23) dX7_pool_23 fl_X7_54 rfl k_b0 g_3 ?_
    refine s_getI (pc := 26) dX7_pool_26 fl_X7_318 rfl k_b0_9 ?_
    refine r_if_le (pc := 29) (tgt := 47) dX7_pool_29 (by decide) (fun q => ?_) (fun q => ?_)
    · have K0 := K0.1 q
      refine r_aload_n (pc := 47) dX7_pool_47 rfl ?_
      refine s_getR (pc := 48) dX7_pool_48 fl_X7_54 rfl k_b0 g_3 ?_
      refine s_getI (pc := 51) dX7_pool_51 fl_X7_318 rfl k_b0_9 ?_
      exact s_iret rfl dX7_pool_54 K0
    · have K0 := K0.2 q
      refine r_aload_n (pc := 32) dX7_pool_32 rfl ?_
      refine s_VV (pc := 33) mX7_remember (ci := 7) (a := b0) (As := []) dX7_pool_33 lk_X7_333 in_X7_remember mo_X7_remember ⟨by decide, rfl⟩ ⟨by decide, by decide⟩ (Nat.le_of_ble_eq_true rfl) k_b0 (mSV_mono K0 (fun y_5 K0 => ?_))
      refine r_aload_n (pc := 36) dX7_pool_36 rfl ?_
      obtain ⟨g_6, K0⟩ := K0
      refine s_getR (pc := 37) dX7_pool_37 fl_X7_54 rfl k_b0 g_6 ?_
      refine r_aload_n (pc := 40) dX7_pool_40 rfl ?_
      obtain ⟨g_7, K0⟩ := K0
      refine s_getR (pc := 41) dX7_pool_41 fl_X7_20 rfl k_b0 g_7 ?_
      refine s_VV (pc := 44) mX2_carryOver (ci := 2) (a := b0_9) (As := [.ref b0_2]) dX7_pool_44 lk_X7_351 in_X2_carryOver mo_X2_carryOver ⟨by decide, rfl⟩ ⟨by decide, by decide⟩ (Nat.le_of_ble_eq_true rfl) k_b0_9 (mSV_mono K0 (fun y_8 K0 => ?_))
      refine r_aload_n (pc := 47) dX7_pool_47 rfl ?_
      obtain ⟨g_9, K0⟩ := K0
      refine s_getR (pc := 48) dX7_pool_48 fl_X7_54 rfl k_b0 g_9 ?_
      refine s_getI (pc := 51) dX7_pool_51 fl_X7_318 rfl k_b0_9 ?_
      exact s_iret rfl dX7_pool_54 K0
  · have q := (b2i_z _).mp q
    have K0 := K0.2 q
    refine r_bipush (pc := 7) (v := (-2)) dX7_pool_7 (by decide) ?_
    exact s_iret rfl dX7_pool_9 K0
set_option maxHeartbeats 2000000 in
theorem v_X8_pool_0 {K : Sh} {x : Cn} {Q : Int32 → Cn → Prop} {b0 : Nat} {b0_1 : Nat} {n_b0_1 : Nat} (k_b0 : kk K b0 = some (8, 0)) (g_b0_1 : gr x b0 1 = some b0_1) (k_b0_1 : kk K b0_1 = some (20, n_b0_1)) (K0 : vp_in 0 n_b0_1 ∧ (((0 < gi x b0_1 0) → (mSI mX8_playsAside [.ref b0, .int (-1)] K x (fun r_4 y_3 => (¬ r_4 = 0 → (mSV mX8_keeps [.ref b0] K y_3 (fun y_6 => GI mX8_pool 28 [some (.ref b0), some (.int r_4), some (.int 0)] [] K y_6 Q))) ∧ (r_4 = 0 → (Q 0 y_3))))) ∧ (¬ (0 < gi x b0_1 0) → (Q (-2) x)))) : mSI mX8_pool [.ref b0] K x Q := by
  refine s_I (by decide) (by simp [Value.category]) (Nat.le_of_ble_eq_true rfl) ?_
  show mGM mX8_pool 0 [some (.ref b0), none, none] [] (hp K x) (PI K Q)
  refine r_aload_n (pc := 0) dX8_pool_0 rfl ?_
  obtain ⟨i_1, K0⟩ := K0
  refine s_VI (pc := 1) mX8_isThere (ci := 8) (a := b0) (As := []) dX8_pool_1 lk_X8_49 in_X8_isThere mo_X8_isThere ⟨by decide, rfl⟩ ⟨by decide, by decide⟩ (Nat.le_of_ble_eq_true rfl) k_b0 (sp_X8_isThere k_b0 g_b0_1 k_b0_1 i_1 ?_)
  refine r_if_ne (pc := 4) (tgt := 10) dX8_pool_4 (by decide) (fun q => ?_) (fun q => ?_)
  · have q := b2i_nz q
    have K0 := K0.1 q
    refine r_aload_n (pc := 10) dX8_pool_10 rfl ?_
    refine r_iconst (pc := 11) (v := (-1)) dX8_pool_11 (by decide) ?_
    refine s_VI (pc := 12) mX8_playsAside (ci := 8) (a := b0) (As := [.int (-1)]) dX8_pool_12 lk_X8_354 in_X8_playsAside mo_X8_playsAside ⟨by decide, rfl⟩ ⟨by decide, by decide⟩ (Nat.le_of_ble_eq_true rfl) k_b0 (mSI_mono K0 (fun r_4 y_3 K0 => ?_))
    refine r_istore_n (pc := 15) dX8_pool_15 (by decide) ?_
    refine r_iload_n (pc := 16) (L := [some (.ref b0), some (.int r_4), none]) dX8_pool_16 rfl ?_
    refine r_if_ne (pc := 17) (tgt := 22) dX8_pool_17 (by decide) (fun q => ?_) (fun q => ?_)
    · have K0 := K0.1 q
      refine r_aload_n (pc := 22) dX8_pool_22 rfl ?_
      refine s_VV (pc := 23) mX8_keeps (ci := 8) (a := b0) (As := []) dX8_pool_23 lk_X8_366 in_X8_keeps mo_X8_keeps ⟨by decide, rfl⟩ ⟨by decide, by decide⟩ (Nat.le_of_ble_eq_true rfl) k_b0 (mSV_mono K0 (fun y_6 K0 => ?_))
      refine r_iconst (pc := 26) (v := 0) dX8_pool_26 (by decide) ?_
      refine r_istore_n (pc := 27) dX8_pool_27 (by decide) ?_
      exact r_le (L' := [some (.ref b0), some (.int r_4), some (.int 0)]) ⟨rfl, ⟨rfl, ⟨rfl, trivial⟩⟩⟩ K0
    · have K0 := K0.2 q
      refine r_iconst (pc := 20) (v := 0) dX8_pool_20 (by decide) ?_
      exact s_iret rfl dX8_pool_21 K0
  · have q := (b2i_z _).mp q
    have K0 := K0.2 q
    refine r_bipush (pc := 7) (v := (-2)) dX8_pool_7 (by decide) ?_
    exact s_iret rfl dX8_pool_9 K0
set_option maxHeartbeats 2000000 in
theorem v_X8_pool_28 {K : Sh} {x : Cn} {Q : Int32 → Cn → Prop} {b0 : Nat} {l1 : Int32} {l2 : Int32} {b0_1 : Nat} {b0_2 : Nat} {n_b0_2 : Nat} {n_b0_1 : Nat} (k_b0 : kk K b0 = some (8, 0)) (g_b0_1 : gr x b0 1 = some b0_1) (g_b0_2 : gr x b0 2 = some b0_2) (k_b0_2 : kk K b0_2 = some (20, n_b0_2)) (k_b0_1 : kk K b0_1 = some (20, n_b0_1)) (K0 : (518 ≤ l2 → (GI mX8_pool 56 [some (.ref b0), some (.int l1), some (.int 23)] [] K x Q)) ∧ (¬ 518 ≤ l2 → (vp_in l2 n_b0_2 ∧ (vp_in l2 n_b0_1 ∧ (GI mX8_pool 28 [some (.ref b0), some (.int l1), some (.int (l2 + 1))] [] K (ui x b0_1 (l2 : Int32).toNatClampNeg (gi x b0_2 (l2 : Int32).toNatClampNeg)) Q))))) : GI mX8_pool 28 [some (.ref b0), some (.int l1), some (.int l2)] [] K x Q := by
  show mGM mX8_pool 28 [some (.ref b0), some (.int l1), some (.int l2)] [] (hp K x) (PI K Q)
  refine r_iload_n (pc := 28) dX8_pool_28 rfl ?_
  refine r_sipush (pc := 29) (v := 518) dX8_pool_29 (by decide) ?_
  refine r_icmp_ge (pc := 32) (tgt := 53) dX8_pool_32 (by decide) (fun q => ?_) (fun q => ?_)
  · have K0 := K0.1 q
    refine r_bipush (pc := 53) (v := 23) dX8_pool_53 (by decide) ?_
    refine r_istore_n (pc := 55) dX8_pool_55 (by decide) ?_
    exact r_le (L' := [some (.ref b0), some (.int l1), some (.int 23)]) ⟨rfl, ⟨rfl, ⟨rfl, trivial⟩⟩⟩ K0
  · have K0 := K0.2 q
    refine r_aload_n (pc := 35) dX8_pool_35 rfl ?_
    refine s_getR (pc := 36) dX8_pool_36 fl_X8_9 rfl k_b0 g_b0_1 ?_
    refine r_iload_n (pc := 39) dX8_pool_39 rfl ?_
    refine r_aload_n (pc := 40) dX8_pool_40 rfl ?_
    refine s_getR (pc := 41) dX8_pool_41 fl_X8_13 rfl k_b0 g_b0_2 ?_
    refine r_iload_n (pc := 44) dX8_pool_44 rfl ?_
    obtain ⟨i_2, K0⟩ := K0
    refine s_iald (pc := 45) dX8_pool_45 k_b0_2 i_2 ?_
    obtain ⟨i_3, K0⟩ := K0
    refine s_iast (pc := 46) dX8_pool_46 k_b0_1 i_3 ?_
    refine r_iinc (pc := 47) (v := l2 + 1) dX8_pool_47 rfl rfl (by decide) ?_
    refine r_goto (pc := 50) (L := [some (.ref b0), some (.int l1), some (.int (l2 + 1))]) (tgt := 28) dX8_pool_50 (by decide) ?_
    exact r_le (L' := [some (.ref b0), some (.int l1), some (.int (l2 + 1))]) ⟨rfl, ⟨rfl, ⟨rfl, trivial⟩⟩⟩ K0
set_option maxHeartbeats 2000000 in
theorem v_X8_pool_56 {K : Sh} {x : Cn} {Q : Int32 → Cn → Prop} {b0 : Nat} {l1 : Int32} {l2 : Int32} {b0_17 : Nat} {n_b0_17 : Nat} (k_b0 : kk K b0 = some (8, 0)) (g_b0_17 : gr x b0 17 = some b0_17) (k_b0_17 : kk K b0_17 = some (20, n_b0_17)) (K0 : (l2 < 0 → (Q l1 x)) ∧ (¬ l2 < 0 → (vp_in l2 n_b0_17 ∧ (((gi x b0_17 (l2 : Int32).toNatClampNeg) = (-1) → (GI mX8_pool 56 [some (.ref b0), some (.int l1), some (.int (l2 + (-1)))] [] K x Q)) ∧ (¬ (gi x b0_17 (l2 : Int32).toNatClampNeg) = (-1) → (mSV mX8_dropsAsk [.ref b0, .int l2] K x (fun y_4 => GI mX8_pool 56 [some (.ref b0), some (.int l1), some (.int (l2 + (-1)))] [] K y_4 Q))))))) : GI mX8_pool 56 [some (.ref b0), some (.int l1), some (.int l2)] [] K x Q := by
  show mGM mX8_pool 56 [some (.ref b0), some (.int l1), some (.int l2)] [] (hp K x) (PI K Q)
  refine r_iload_n (pc := 56) dX8_pool_56 rfl ?_
  refine r_if_lt (pc := 57) (tgt := 81) dX8_pool_57 (by decide) (fun q => ?_) (fun q => ?_)
  · have K0 := K0.1 q
    refine r_iload_n (pc := 81) dX8_pool_81 rfl ?_
    exact s_iret rfl dX8_pool_82 K0
  · have K0 := K0.2 q
    refine r_aload_n (pc := 60) dX8_pool_60 rfl ?_
    refine s_getR (pc := 61) dX8_pool_61 fl_X8_33 rfl k_b0 g_b0_17 ?_
    refine r_iload_n (pc := 64) dX8_pool_64 rfl ?_
    obtain ⟨i_2, K0⟩ := K0
    refine s_iald (pc := 65) dX8_pool_65 k_b0_17 i_2 ?_
    refine r_iconst (pc := 66) (v := (-1)) dX8_pool_66 (by decide) ?_
    refine r_icmp_eq (pc := 67) (tgt := 75) dX8_pool_67 (by decide) (fun q => ?_) (fun q => ?_)
    · have K0 := K0.1 q
      refine r_iinc (pc := 75) (v := l2 + (-1)) dX8_pool_75 rfl rfl (by decide) ?_
      refine r_goto (pc := 78) (L := [some (.ref b0), some (.int l1), some (.int (l2 + (-1)))]) (tgt := 56) dX8_pool_78 (by decide) ?_
      exact r_le (L' := [some (.ref b0), some (.int l1), some (.int (l2 + (-1)))]) ⟨rfl, ⟨rfl, ⟨rfl, trivial⟩⟩⟩ K0
    · have K0 := K0.2 q
      refine r_aload_n (pc := 70) dX8_pool_70 rfl ?_
      refine r_iload_n (pc := 71) dX8_pool_71 rfl ?_
      refine s_VV (pc := 72) mX8_dropsAsk (ci := 8) (a := b0) (As := [.int l2]) dX8_pool_72 lk_X8_376 in_X8_dropsAsk mo_X8_dropsAsk ⟨by decide, rfl⟩ ⟨by decide, by decide⟩ (Nat.le_of_ble_eq_true rfl) k_b0 (mSV_mono K0 (fun y_4 K0 => ?_))
      refine r_iinc (pc := 75) (v := l2 + (-1)) dX8_pool_75 rfl rfl (by decide) ?_
      refine r_goto (pc := 78) (L := [some (.ref b0), some (.int l1), some (.int (l2 + (-1)))]) (tgt := 56) dX8_pool_78 (by decide) ?_
      exact r_le (L' := [some (.ref b0), some (.int l1), some (.int (l2 + (-1)))]) ⟨rfl, ⟨rfl, ⟨rfl, trivial⟩⟩⟩ K0
section
theorem sp_X8_pool_56 {x : Cn} {Q : Int32 → Cn → Prop} {hr : TT} {n : Nat} {H : Nat → TT} {g : Int32} : ∀ m (t : TT × Nat) v, m ≤ 24 → t.2 ≤ 24 → t.1 3 = nI t.2 → (∀ a, a < m → ¬ hr a = -1 → a < t.2) → RS v t.1 n H → (∀ a, a < m → gi v 723 a = hr a) → (∀ w, EQx v w 718 → RS w (dpF hr m t).1 n H → Q g w) → GI mX8_pool 56 [some (.ref 717), some (.int g), some (.int (nI m - 1))] [] KW v Q := by
  intro m
  induction m with
  | zero =>
    intro t v hm ht h3 h1 rv h2 k
    exact v_X8_pool_56 km rv.1.2.2.2.2.2.2.1 km723 ⟨fun _ => k v (EQx.rf v _) rv, fun z => absurd (by decide) z⟩
  | succ m ih =>
    intro t v hm ht h3 h1 rv h2 k
    have em : nI (m + 1) - 1 = nI m := pk_sub (b := 1) (by omega)
    have em2 : nI m + (-1) = nI m - 1 := (Int32.sub_eq_add_neg _ _).symm
    rw [em]
    refine v_X8_pool_56 km rv.1.2.2.2.2.2.2.1 km723 ⟨fun z => absurd z (nI_pos (by omega)), fun _ => ⟨vp_in_nI (by omega) (by decide), ?_⟩⟩
    rw [nI_clamp (by omega), h2 m (by omega), em2]
    refine ⟨fun z => ?_, fun z => ?_⟩
    · have e : dpF hr (m + 1) t = dpF hr m t := by
        show dpF hr m (if hr m = -1 then t else (drT t.1 m t.2, t.2 - 1)) = _
        rw [if_pos z]
      rw [e] at k
      exact ih t v (by omega) ht h3 (fun a ha => h1 a (by omega)) rv (fun a ha => h2 a (by omega)) k
    · have e : dpF hr (m + 1) t = dpF hr m (drT t.1 m t.2, t.2 - 1) := by
        show dpF hr m (if hr m = -1 then t else (drT t.1 m t.2, t.2 - 1)) = _
        rw [if_neg z]
      rw [e] at k
      have hlt := h1 m (by omega) z
      refine sp_X8_dropsAsk rv h3 hlt ht (fun w f1 r1 => ?_)
      exact ih (drT t.1 m t.2, t.2 - 1) w (by omega) (show t.2 - 1 ≤ 24 by omega) (show drT t.1 m t.2 3 = nI (t.2 - 1) from if_pos rfl) (fun a ha _ => show a < t.2 - 1 by omega) r1 (fun a ha => by rw [f1.2 723 a (by decide)]; exact h2 a (by omega)) (fun u f2 r2 => k u (f1.tr f2) r2)
theorem sp_X8_pool_28 {x : Cn} {Q : Int32 → Cn → Prop} {T p : TT} {n : Nat} {H : Nat → TT} {g : Int32} (r : RS x T n H) (hp : gi x 719 = p) (k : ∀ w, EQx x w 718 → RS w (fun i => if i < 518 then p i else T i) n H → GI mX8_pool 56 [some (.ref 717), some (.int g), some (.int 23)] [] KW w Q) : GI mX8_pool 28 [some (.ref 717), some (.int g), some (.int 0)] [] KW x Q := by
  have key : ∀ c m y, m + c = 518 → EQx x y 718 → RS y (fun i => if i < m then p i else T i) n H → GI mX8_pool 28 [some (.ref 717), some (.int g), some (.int (nI m))] [] KW y Q := by
    intro c
    induction c with
    | zero =>
      intro m y hm f1 r1
      have : m = 518 := by omega
      subst this
      exact v_X8_pool_28 km r1.1.1 r1.1.2.1 km2 km1 ⟨fun _ => k y f1 r1, fun z => absurd (Int32.le_refl _) z⟩
    | succ c ih =>
      intro m y hm f1 r1
      refine v_X8_pool_28 km r1.1.1 r1.1.2.1 km2 km1 ⟨fun z => absurd z (nI_ge (b := 518) (by omega) (by decide)), fun _ => ⟨vp_in_nI (by omega) (by decide), vp_in_nI (by omega) (by decide), ?_⟩⟩
      rw [nI_1, nI_clamp (by omega), show gi y 719 m = p m by rw [f1.2 719 m (by decide), hp]]
      refine ih (m + 1) _ (by omega) f1.ui ?_
      have := r1.u8 (k := m) (v := p m)
      have e : uT (fun i => if i < m then p i else T i) m (p m) = (fun i => if i < m + 1 then p i else T i) := by
        funext i
        show (if i = m then p m else if i < m then p i else T i) = (if i < m + 1 then p i else T i)
        by_cases c1 : i = m
        · rw [if_pos c1, if_pos (by omega), c1]
        · rw [if_neg c1]
          by_cases c2 : i < m
          · rw [if_pos c2, if_pos (show i < m + 1 by omega)]
          · rw [if_neg c2, if_neg (show ¬ i < m + 1 by omega)]
      rw [e] at this
      exact this
  refine key 518 0 x (by omega) (EQx.rf x _) ?_
  have e : (fun i => if i < 0 then p i else T i) = T := by
    funext i
    rw [if_neg (by omega)]
  rw [e]
  exact r
end
theorem eq_pool : Both mX7_pool mX8_pool [] := by
  intro x R
  obtain ⟨W, C, S, A, N, n, H, ac, rs, nm⟩ := R.ac
  have E := ac.2.2.2.2
  have hn := E.nums
  have hA : A ≤ 24 := hn.2.2.2.2.2.2.2.1
  have hC : C ≤ 8 := hn.2.2.2.2.2.1
  have t0 := (Rel.t2 E).1
  have hh : ((-1 : Int32) = -1 ∧ mixT x = mixT x) ∨ ∃ h, h < 24 ∧ (-1 : Int32) = nI h ∧ mixT x = hlT (mixT x) h := Or.inl ⟨rfl, rfl⟩
  have iv := PIV.run (pl_wf E hh) A (Nat.le_refl _)
  refine v_X7_pool_0 k0 R.1.2.1 (ks0 E.1) R.1.c9 k117 ?_
  rw [hn.1]
  refine ⟨fun z1 => pl_cls R E (PCr.rf x) hh (fun y fy cy => ⟨(R.1.keep fy.1).c9, ?_⟩), fun z => v_X8_pool_0 km R.2.1.1 km1 ⟨v0 (k := 0) (by decide) rfl rfl, fun u => absurd (by rw [t0] at u; exact u) z, fun _ => ⟨rfl, R⟩⟩⟩
  have ce : ∀ a, a < A → gi y 173 a = (accT (plS A N) A (pl0 (mixT x) S)).2.2.1 a ∧ gi y 174 a = (accT (plS A N) A (pl0 (mixT x) S)).2.2.2.1 a := fun a ha => cy.end (pl_wf E hh) ha
  have Ry := R.keep fy.kp
  have ay := ac.pc fy
  rw [cy.2.2.1]
  have pr : ∀ {v : Cn} {Q : Int32 → Cn → Prop}, MRf v 718 → (∀ i, gi v 718 i = gi x 718 i) → (∀ i, gi v 719 i = gi x 719 i) → (∀ u, PFr v u → gi u 719 = (accT (plS A N) A (pl0 (mixT x) S)).1 → (∀ a, a < 24 → gi u 723 a = (accT (plS A N) A (pl0 (mixT x) S)).2.2.2.1 a) → Q (nI (accT (plS A N) A (pl0 (mixT x) S)).2.2.2.2) u) → mSI mX8_playsAside [.ref 717, .int (-1)] KW v Q := by
    intro v Q Mv v1 v2 k
    have hm : mixT v = mixT x := by
      funext i
      unfold mixT
      rw [v1, v2]
    exact sp_X8_playsAside Mv (T0 := mixT x) (Or.inl ⟨rfl, hm.symm⟩) (pl_wf E hh) (fun u fu u1 u2 u3 => k u fu u1 u3)
  generalize hp : accT (plS A N) A (pl0 (mixT x) S) = p at cy ce iv pr ⊢
  have hg : p.2.2.2.2 ≤ A := iv.2.2.2.2.1
  rw [show nI p.2.2.2.2 ≤ 0 ↔ p.2.2.2.2 ≤ 0 from nI_leI (b := 0) (by omega) (by decide)]
  refine ⟨fun z2 => ?_, fun z2 => ?_⟩
  · refine v_X8_pool_0 km Ry.2.1.1 km1 ⟨v0 (k := 0) (by decide) rfl rfl, fun _ => ?_, fun u => absurd (by rw [fy.2 718 0 (by omega), t0]; exact z1) u⟩
    have g0 : p.2.2.2.2 = 0 := by omega
    refine pr Ry.2.1 (fun i => fy.2 718 i (by omega)) (fun i => fy.2 719 i (by omega)) (fun u fu u1 u2 => ⟨fun c => absurd (by rw [g0]; rfl) c, fun c => ⟨by rw [g0]; rfl, Ry.keep fu.kp⟩⟩)
  · refine ay.rem2 (fun _ _ => rfl) (fun z az z3 z4 => ⟨az.2.1.c9, az.2.1.2.1, ?_⟩)
    have I118 : Isea 118 := Or.inr (Or.inr (Or.inl rfl))
    have lm : LM9 p.1 := fun h h24 => by
      rw [iv.2.2.2.1 (6 + 2 * h) (by omega) (by omega), iv.2.2.2.1 (7 + 2 * h) (by omega) (by omega), mix_lt (by omega), mix_lt (by omega)]
      exact E.2.2.2.2.2.2.2.2.2.2.2.2.2.2.1 h h24
    have Ez : SEA z 118 p.1 W C p.2.1 A N := (cy.1.w lm).mv (fun a j a1 a2 => z4 a j (by omega)) (fun a j a1 a2 _ => z3 a j (by omega) (by omega)) (fun _ _ => rfl)
    refine v_X2_carryOver_0 k117 az.2.1.pl.1 (ks0 E.1) (ks0 I118) (sp_X4_copyFrom E.1 az.2.2.2.2.2.1 Ez (by decide) (fun v fv Ev => ⟨(az.2.1.pl.keep fv.1).1, ?_⟩))
    have e4 : gi v 118 4 = nI A := (fv.2 118 4 (by omega)).trans Ez.nums.2.2.2.1
    rw [e4]
    have av : AC x v W C p.2.1 A N (pn n) (fun i => if i < 518 then p.1 i else gi x 718 i) (push H n (gi x 718)) := az.up (fun b k hb => fv.2 b k (by omega)) fv.1 (Ev.mv (fun _ _ _ _ => rfl) (fun _ _ _ _ _ => rfl) (fun i hi => if_pos hi))
    have hA3 : (fun i => if i < 518 then p.1 i else gi x 718 i : TT) 3 = nI A := (if_pos (by decide)).trans iv.1.2.2.2.2.2.2.2.1
    refine sp_X2_carryOver_lp (hr := p.2.2.2.1) A (fun i => if i < 518 then p.1 i else gi x 718 i, A) v hA (fun a ha _ => ha) av (az.2.1.pl.keep fv.1) (fun a ha => ?_) (fun w aw w1 w2 => ⟨aw.2.1.c9, ?_⟩)
    · rw [fv.2 174 a (by omega), z3 174 a (by omega) (by omega)]; exact (ce a ha).2
    · have w4 : gi w 117 4 = nI p.2.2.2.2 := by
        rw [w1 117 4 (by omega), fv.2 117 4 (by omega), z3 117 4 (by omega) (by omega)]; exact cy.2.2.1
      rw [w4]
      have rw0 := aw.rs rs
      have b8 : ∀ b i, 717 ≤ b → gi w b i = gi x b i := fun b i hb => aw.1 b i (by omega) (by omega) (by omega) (by omega)
      refine v_X8_pool_0 km rw0.1.1 km1 ⟨v0 (k := 0) (by decide) rfl rfl, fun _ => ?_, fun u => absurd (by rw [b8 718 0 (by decide), t0]; exact z1) u⟩
      refine pr rw0.1 (fun i => b8 718 i (by decide)) (fun i => b8 719 i (by decide)) (fun u fu u1 u2 => ⟨fun _ => ?_, fun c => absurd ((nI_z (by omega)).mp c) (by omega)⟩)
      have ru := rw0.pf fu
      refine ru.keeps2 (fun u3 f3 f4 r3 => sp_X8_pool_28 (p := p.1) r3 (by rw [← u1]; exact funext (fun i => f4 719 i (by decide) (by omega))) (fun u5 f5 r5 => ?_))
      have sk := dp_skip (hr := p.2.2.2.1) (A := A) (fun a ha => (iv.2.2.1 a ha).2) 24 hA (fun i => if i < 518 then p.1 i else gi x 718 i, A)
      refine sp_X8_pool_56 (x := x) (hr := p.2.2.2.1) 24 (fun i => if i < 518 then p.1 i else gi x 718 i, A) u5 (Nat.le_refl _) hA hA3 (fun a ha hne => ?_) r5 (fun a ha => ?_) (fun u6 f6 r6 => ⟨rfl, ?_⟩)
      · by_cases c : a < A
        · exact c
        · exact absurd (iv.2.2.1 a (by omega)).2 hne
      · rw [f5.2 723 a (by decide), f4 723 a (by decide) (by omega)]; exact u2 a ha
      · rw [sk] at r6
        refine aw.fin R nm (fun c hc => ?_) (fu.rfr.tr (f3.tr (f5.rfr.tr f6.rfr))) r6
        rw [dp_off _ _ _ (by omega) (by omega)]
        show (if 54 + c < 518 then p.1 (54 + c) else gi x 718 (54 + c)) = _
        rw [if_pos (by omega), iv.2.2.2.1 (54 + c) (by omega) (by omega), mix_lt (by omega)]
end
/-! 59.tell1.lean.txt -/
section
/-! what is told -/
def mSq (k : Nat) : String × Nat × String × List Int32 := mS.getD k ("", 0, "", [])
theorem mSq_at {k : Nat} (h : k < 37) : mS[k]? = some (mSq k) := by
  have hl : k < mS.length := h
  unfold mSq
  rw [List.getD_eq_getElem?_getD, List.getElem?_eq_getElem hl]
  rfl
theorem sp_chv {K : Sh} {x : Cn} {Q : Int32 → Cn → Prop} {j n : Nat} {q : String × Nat × String × List Int32} {v : Int32} (hj : mS[j]? = some q) (ev : v = nI n) (hn : n < q.2.2.2.length) (k : Q (q.2.2.2.getD n 0) x) : mSI mJ0_charAt_5068e [.ref (mSB + j), .int v] K x Q := by
  subst ev
  exact sp_ch hj hn k
def wq (q : String × Nat × String × List Int32) : List Nat := q.2.2.2.map Int32.toNatClampNeg
abbrev wd (k : Nat) : List Nat := wq (mSq k)
theorem wq_len (q : String × Nat × String × List Int32) : (wq q).length = q.2.2.2.length := List.length_map _
theorem wq_at {j n : Nat} {q : String × Nat × String × List Int32} (hj : mS[j]? = some q) (hn : n < q.2.2.2.length) : q.2.2.2.getD n 0 = nI ((wq q).getD n 0) ∧ (wq q).getD n 0 < 128 := by
  have hb := (mS_ok q (List.mem_of_getElem? hj)).2 (q.2.2.2.getD n 0) (by rw [List.getD_eq_getElem?_getD, List.getElem?_eq_getElem hn]; exact List.getElem_mem hn)
  have e : (wq q).getD n 0 = (q.2.2.2.getD n 0).toNatClampNeg := by
    unfold wq
    rw [List.getD_eq_getElem?_getD, List.getD_eq_getElem?_getD, List.getElem?_map, List.getElem?_eq_getElem hn]
    rfl
  obtain ⟨m, h1, h2⟩ := nI_of2 (M := 127) (n := 127) (by decide) (Int32.not_lt.mpr hb.2.1) hb.2.2
  rw [e, h2, nI_clamp (by omega)]
  exact ⟨rfl, by omega⟩
theorem gD_l {l m : List Nat} {i : Nat} (h : i < l.length) : (l ++ m).getD i 0 = l.getD i 0 := by
  rw [List.getD_eq_getElem?_getD, List.getD_eq_getElem?_getD, List.getElem?_append_left h]
theorem gD_r {l m : List Nat} {i : Nat} (h : l.length ≤ i) : (l ++ m).getD i 0 = m.getD (i - l.length) 0 := by
  rw [List.getD_eq_getElem?_getD, List.getD_eq_getElem?_getD, List.getElem?_append_right h]
theorem b8 : ∀ n, n < 128 → (nI n).toInt8.toInt32 = nI n := by decide
theorem b16 : ∀ n, n < 128 → ((nI n).toUInt32 % 65536).toInt32 = nI n := by decide
theorem k175 : kk KW 175 = some (6, 0) := by decide
/-- the landed one's told bytes, at most B of them -/
def WR (y : Cn) (l : List Nat) (B : Nat) : Prop := gi y 175 1 = nI l.length ∧ (∀ i, i < l.length → gi y 176 i = nI (l.getD i 0) ∧ l.getD i 0 < 128) ∧ l.length ≤ B
def OR (y : Cn) (l : List Nat) (B : Nat) : Prop := gi y 717 22 = nI l.length ∧ (∀ i, i < l.length → gi y 725 i = nI (l.getD i 0) ∧ l.getD i 0 < 128) ∧ l.length ≤ B
def WFr (x y : Cn) : Prop := y.2 = x.2 ∧ ∀ a k, a ≠ 176 → ¬ (a = 175 ∧ k = 1) → gi y a k = gi x a k
def OFr (x y : Cn) : Prop := y.2 = x.2 ∧ ∀ a k, a ≠ 725 → ¬ (a = 717 ∧ k = 22) → gi y a k = gi x a k
theorem WFr.rf (x : Cn) : WFr x x := ⟨rfl, fun _ _ _ _ => rfl⟩
theorem OFr.rf (x : Cn) : OFr x x := ⟨rfl, fun _ _ _ _ => rfl⟩
theorem WFr.tr {x y z : Cn} (h : WFr x y) (g : WFr y z) : WFr x z := ⟨g.1.trans h.1, fun a k a1 a2 => (g.2 a k a1 a2).trans (h.2 a k a1 a2)⟩
theorem OFr.tr {x y z : Cn} (h : OFr x y) (g : OFr y z) : OFr x z := ⟨g.1.trans h.1, fun a k a1 a2 => (g.2 a k a1 a2).trans (h.2 a k a1 a2)⟩
theorem WR.le {y : Cn} {l : List Nat} {B B' : Nat} (h : WR y l B) (c : B ≤ B') : WR y l B' := ⟨h.1, h.2.1, by have := h.2.2; omega⟩
theorem OR.le {y : Cn} {l : List Nat} {B B' : Nat} (h : OR y l B) (c : B ≤ B') : OR y l B' := ⟨h.1, h.2.1, by have := h.2.2; omega⟩
def lst (l : List Nat) : Nat := l.getD (l.length - 1) 0
abbrev aln (b : Nat) : Prop := (97 ≤ b ∧ b ≤ 122) ∨ (48 ≤ b ∧ b ≤ 57)
def bl (l : List Nat) : List Nat := if aln (lst l) then [32] else []
theorem lst_1 (l : List Nat) (b : Nat) : lst (l ++ [b]) = b := by
  unfold lst
  rw [gD_r (by simp)]
  simp
theorem lst_a (l : List Nat) {w : List Nat} (h : w ≠ []) : lst (l ++ w) = lst w := by
  have hp : 0 < w.length := List.length_pos_iff.mpr h
  unfold lst
  rw [List.length_append, gD_r (by omega)]
  congr 1
  omega
theorem bl_1 (l : List Nat) {b : Nat} (h : ¬ aln b) : bl (l ++ [b]) = [] := by
  unfold bl
  rw [lst_1, if_neg h]
theorem bl_a (l : List Nat) {w : List Nat} (h : w ≠ []) (h2 : aln (lst w)) : bl (l ++ w) = [32] := by
  unfold bl
  rw [lst_a l h, if_pos h2]
theorem bl_le (l : List Nat) : (bl l).length ≤ 1 := by
  unfold bl
  split <;> simp
def numL (n : Nat) : List Nat := if n < 10 then [48 + n] else [48 + n / 10, 48 + n % 10]
theorem bl_num (l : List Nat) {n : Nat} (h : n < 100) : bl (l ++ numL n) = [32] := by
  unfold numL
  by_cases c : n < 10
  · rw [if_pos c]
    exact bl_a l (by simp) (Or.inr (by show 48 ≤ 48 + n ∧ 48 + n ≤ 57; omega))
  · rw [if_neg c]
    exact bl_a l (by simp) (Or.inr (by show 48 ≤ 48 + n % 10 ∧ 48 + n % 10 ≤ 57; omega))
def dg (v i : Nat) : Nat := v / 27 ^ (5 - i) % 27
def nmS (v : Nat) : Nat → List Nat → List Nat := fun i l => if dg v i = 0 then l else l ++ [96 + dg v i]
def nmL (v : Nat) : List Nat := accT (nmS v) 6 []
theorem nm_acc (v : Nat) (l : List Nat) : ∀ i, accT (nmS v) i l = l ++ accT (nmS v) i [] := by
  intro i
  induction i with
  | zero => show l = l ++ []; simp
  | succ i ih =>
    simp only [accT]
    rw [ih]
    unfold nmS
    by_cases c : dg v i = 0
    · rw [if_pos c, if_pos c]
    · rw [if_neg c, if_neg c, List.append_assoc]
theorem dg_lt (v i : Nat) : dg v i < 27 := Nat.mod_lt _ (by decide)
theorem nm_al (v : Nat) : ∀ i, accT (nmS v) i [] = [] ∨ aln (lst (accT (nmS v) i [])) := by
  intro i
  induction i with
  | zero => exact Or.inl rfl
  | succ i ih =>
    simp only [accT]
    generalize accT (nmS v) i [] = l at ih ⊢
    unfold nmS
    by_cases c : dg v i = 0
    · rw [if_pos c]; exact ih
    · rw [if_neg c, lst_1]
      have := dg_lt v i
      exact Or.inr (Or.inl (by omega))
theorem nm_ne {v : Nat} (h0 : 0 < v) (h1 : v < 387420489) : nmL v ≠ [] := by
  have key : ∀ i, accT (nmS v) i [] = [] → ∀ j, j < i → dg v j = 0 := by
    intro i
    induction i with
    | zero => intro _ j hj; omega
    | succ i ih =>
      intro h j hj
      simp only [accT] at h
      generalize hl : accT (nmS v) i [] = l at h ih
      unfold nmS at h
      by_cases c : dg v i = 0
      · rw [if_pos c] at h
        by_cases c2 : j = i
        · rw [c2]; exact c
        · exact ih h j (by omega)
      · rw [if_neg c] at h
        simp at h
  intro hn
  have d := key 6 hn
  have d0 := d 0 (by decide)
  have d1 := d 1 (by decide)
  have d2 := d 2 (by decide)
  have d3 := d 3 (by decide)
  have d4 := d 4 (by decide)
  have d5 := d 5 (by decide)
  have e0 : v / 14348907 % 27 = 0 := d0
  have e1 : v / 531441 % 27 = 0 := d1
  have e2 : v / 19683 % 27 = 0 := d2
  have e3 : v / 729 % 27 = 0 := d3
  have e4 : v / 27 % 27 = 0 := d4
  have e5 : v / 1 % 27 = 0 := d5
  omega
theorem bl_nm (l : List Nat) {v : Nat} (h0 : 0 < v) (h1 : v < 387420489) : bl (l ++ nmL v) = [32] := bl_a l (nm_ne h0 h1) ((nm_al v 6).resolve_left (nm_ne h0 h1))
def dc (d i : Nat) : Nat := ((mSq 6).2.2.2.getD (4 * d + i) 0).toNatClampNeg
def dayL (d : Nat) : List Nat := [dc d 0, dc d 1, dc d 2]
theorem dc_ok : ∀ d, d < 7 → ∀ i, i < 3 → (mSq 6).2.2.2.getD (4 * d + i) 0 = nI (dc d i) ∧ 97 ≤ dc d i ∧ dc d i ≤ 122 := by decide +kernel
theorem day_wd : ∀ d, d < 7 → wd (15 + d) = dayL d := by decide +kernel
theorem bl_day (l : List Nat) {d : Nat} (h : d < 7) : bl (l ++ dayL d) = [32] := bl_a l (by simp [dayL]) (Or.inl (dc_ok d h 2 (by decide)).2)
theorem wd_27 : wd 27 = wd 1 ++ [32] := by decide +kernel
theorem wd_28 : wd 28 = wd 2 ++ [32] := by decide +kernel
theorem wd_29 : wd 29 = [32] ++ wd 3 ++ [32] := by decide +kernel
theorem wd_30 : wd 30 = wd 4 ++ [32] := by decide +kernel
theorem wd_31 : wd 31 = wd 5 ++ [32] := by decide +kernel
theorem wd_32 : wd 32 = [32] ++ wd 7 ++ [32] := by decide +kernel
theorem wd_33 : wd 33 = [32] ++ wd 8 ++ [59] := by decide +kernel
theorem wd_34 : wd 34 = [59] := by decide +kernel
theorem wd_35 : wd 35 = wd 9 ++ [32] := by decide +kernel
theorem wd_36 : wd 36 = [32] ++ wd 10 ++ [32] := by decide +kernel
theorem wd_al : ∀ k, k < 11 → k ≠ 0 → k ≠ 6 → wd k ≠ [] ∧ aln (lst (wd k)) := by decide +kernel
theorem bl_wd (l : List Nat) {k : Nat} (h1 : k < 11) (h2 : k ≠ 0) (h3 : k ≠ 6) : bl (l ++ wd k) = [32] := bl_a l (wd_al k h1 h2 h3).1 (wd_al k h1 h2 h3).2
set_option maxHeartbeats 2000000 in
theorem v_X6_putSign_0 {K : Sh} {x : Cn} {Q : Cn → Prop} {b0 : Nat} {l1 : Int32} {b0_0 : Nat} {n_b0_0 : Nat} (k_b0 : kk K b0 = some (6, 0)) (g_b0_0 : gr x b0 0 = some b0_0) (k_b0_0 : kk K b0_0 = some (21, n_b0_0)) (K0 : (2400 ≤ (gi x b0 1) → (Q x)) ∧ (¬ 2400 ≤ (gi x b0 1) → (vp_in (gi x b0 1) n_b0_0 ∧ (∀ r_3 : Int32, r_3 = gi (ui x b0_0 ((gi x b0 1) : Int32).toNatClampNeg (((l1 : Int32).toInt8.toInt32 : Int32).toInt8.toInt32)) b0 1 → (Q (ui (ui x b0_0 ((gi x b0 1) : Int32).toNatClampNeg (((l1 : Int32).toInt8.toInt32 : Int32).toInt8.toInt32)) b0 1 (r_3 + 1))))))) : mSV mX6_putSign [.ref b0, .int l1] K x Q := by
  refine s_V (by decide) (by simp [Value.category]) (Nat.le_of_ble_eq_true rfl) ?_
  show mGM mX6_putSign 0 [some (.ref b0), some (.int l1)] [] (hp K x) (PV K Q)
  refine r_aload_n (pc := 0) dX6_putSign_0 rfl ?_
  refine s_getI (pc := 1) dX6_putSign_1 fl_X6_15 rfl k_b0 ?_
  refine r_sipush (pc := 4) (v := 2400) dX6_putSign_4 (by decide) ?_
  refine r_icmp_ge (pc := 7) (tgt := 31) dX6_putSign_7 (by decide) (fun q => ?_) (fun q => ?_)
  · have K0 := K0.1 q
    exact s_ret rfl dX6_putSign_31 K0
  · have K0 := K0.2 q
    refine r_aload_n (pc := 10) dX6_putSign_10 rfl ?_
    refine s_getR (pc := 11) dX6_putSign_11 fl_X6_9 rfl k_b0 g_b0_0 ?_
    refine r_aload_n (pc := 14) dX6_putSign_14 rfl ?_
    refine s_getI (pc := 15) dX6_putSign_15 fl_X6_15 rfl k_b0 ?_
    refine r_iload_n (pc := 18) dX6_putSign_18 rfl ?_
    refine r_i2b (pc := 19) dX6_putSign_19 ?_
    obtain ⟨i_2, K0⟩ := K0
    refine s_bast (pc := 20) dX6_putSign_20 k_b0_0 i_2 ?_
    refine r_aload_n (pc := 21) dX6_putSign_21 rfl ?_
    refine r_dup (pc := 22) dX6_putSign_22 rfl ?_
    refine s_getI (pc := 23) dX6_putSign_23 fl_X6_15 rfl k_b0 ?_
    obtain ⟨r_3, w_4⟩ : ∃ z : Int32, z = gi (ui x b0_0 ((gi x b0 1) : Int32).toNatClampNeg (((l1 : Int32).toInt8.toInt32 : Int32).toInt8.toInt32)) b0 1 := ⟨_, rfl⟩
    rw [← w_4]
    have K0 := K0 r_3 w_4
    refine r_iconst (pc := 26) (v := 1) dX6_putSign_26 (by decide) ?_
    refine r_iadd (pc := 27) dX6_putSign_27 ?_
    refine s_putI (pc := 28) dX6_putSign_28 fl_X6_15 rfl rfl k_b0 ?_
    exact s_ret rfl dX6_putSign_31 K0
section
variable {x : Cn} {Q : Cn → Prop} {l : List Nat} {B : Nat}
theorem sp_X6_putSign {n : Nat} (hn : n < 128) (c : gr x 175 0 = some 176) (w : WR x l B) (hB : B < 2400) (k : ∀ y, WFr x y → WR y (l ++ [n]) (B + 1) → Q y) : mSV mX6_putSign [.ref 175, .int (nI n)] KW x Q := by
  have hl := w.2.2
  refine v_X6_putSign_0 k175 c k176 ⟨fun z => absurd (by rw [w.1] at z; exact z) (nI_ge (b := 2400) (by omega) (by decide)), fun _ => ?_⟩
  rw [w.1, nI_clamp (by omega), b8 n hn, b8 n hn]
  refine ⟨vp_in_nI (by omega) (by decide), fun r hr => ?_⟩
  have er : r = nI l.length := by rw [hr, gi_ui, if_neg (by omega)]; exact w.1
  rw [er, nI_1]
  refine k _ ⟨rfl, fun a j a1 a2 => by rw [gi_ui, if_neg a2, gi_ui, if_neg (fun u => a1 u.1)]⟩ ⟨?_, fun i hi => ?_, ?_⟩
  · rw [gi_ui, if_pos ⟨rfl, rfl⟩, List.length_append]; rfl
  · rw [List.length_append] at hi
    have hi : i < l.length + 1 := hi
    rw [gi_ui, if_neg (by omega), gi_ui]
    by_cases c1 : i = l.length
    · rw [if_pos ⟨rfl, c1⟩, gD_r (by omega), c1, Nat.sub_self]; exact ⟨rfl, hn⟩
    · rw [if_neg (fun u => c1 u.2), gD_l (by omega)]; exact w.2.1 i (by omega)
  · rw [List.length_append]; show l.length + 1 ≤ B + 1; omega
end
set_option maxHeartbeats 2000000 in
theorem v_X6_putBlank_0 {K : Sh} {x : Cn} {Q : Cn → Prop} {b0 : Nat} {b0_0 : Nat} {n_b0_0 : Nat} (k_b0 : kk K b0 = some (6, 0)) (g_b0_0 : gr x b0 0 = some b0_0) (k_b0_0 : kk K b0_0 = some (21, n_b0_0)) (K0 : ((gi x b0 1) ≤ 0 → (Q x)) ∧ (¬ (gi x b0 1) ≤ 0 → (vp_in ((gi x b0 1) - 1) n_b0_0 ∧ (((97 ≤ (gi x b0_0 (((gi x b0 1) - 1) : Int32).toNatClampNeg) ∧ (gi x b0_0 (((gi x b0 1) - 1) : Int32).toNatClampNeg) ≤ 122) → (mSV mX6_putSign [.ref b0, .int 32] K x (fun y_4 => Q y_4))) ∧ (¬ (97 ≤ (gi x b0_0 (((gi x b0 1) - 1) : Int32).toNatClampNeg) ∧ (gi x b0_0 (((gi x b0 1) - 1) : Int32).toNatClampNeg) ≤ 122) → ((¬ (48 ≤ (gi x b0_0 (((gi x b0 1) - 1) : Int32).toNatClampNeg) ∧ (gi x b0_0 (((gi x b0 1) - 1) : Int32).toNatClampNeg) ≤ 57) → (Q x)) ∧ ((48 ≤ (gi x b0_0 (((gi x b0 1) - 1) : Int32).toNatClampNeg) ∧ (gi x b0_0 (((gi x b0 1) - 1) : Int32).toNatClampNeg) ≤ 57) → (mSV mX6_putSign [.ref b0, .int 32] K x (fun y_6 => Q y_6))))))))) : mSV mX6_putBlank [.ref b0] K x Q := by
  refine s_V (by decide) (by simp [Value.category]) (Nat.le_of_ble_eq_true rfl) ?_
  show mGM mX6_putBlank 0 [some (.ref b0)] [] (hp K x) (PV K Q)
  refine r_aload_n (pc := 0) dX6_putBlank_0 rfl ?_
  refine s_getI (pc := 1) dX6_putBlank_1 fl_X6_15 rfl k_b0 ?_
  refine r_if_le (pc := 4) (tgt := 47) dX6_putBlank_4 (by decide) (fun q => ?_) (fun q => ?_)
  · have K0 := K0.1 q
    exact s_ret rfl dX6_putBlank_47 K0
  · have K0 := K0.2 q
    refine r_aload_n (pc := 7) dX6_putBlank_7 rfl ?_
    refine s_getR (pc := 8) dX6_putBlank_8 fl_X6_9 rfl k_b0 g_b0_0 ?_
    refine r_aload_n (pc := 11) dX6_putBlank_11 rfl ?_
    refine s_getI (pc := 12) dX6_putBlank_12 fl_X6_15 rfl k_b0 ?_
    refine r_iconst (pc := 15) (v := 1) dX6_putBlank_15 (by decide) ?_
    refine r_isub (pc := 16) dX6_putBlank_16 ?_
    obtain ⟨i_2, K0⟩ := K0
    refine s_bald (pc := 17) dX6_putBlank_17 k_b0_0 i_2 ?_
    refine s_SNI (pc := 18) mX7_isLetter (As := [.int (gi x b0_0 (((gi x b0 1) - 1) : Int32).toNatClampNeg)]) dX6_putBlank_18 nl_X6_151 st_X7_isLetter mo_X7_isLetter ⟨by decide, by decide⟩ (Nat.le_of_ble_eq_true rfl) (sp_X7_isLetter  ?_)
    refine r_if_ne (pc := 21) (tgt := 41) dX6_putBlank_21 (by decide) (fun q => ?_) (fun q => ?_)
    · have q := b2i_nz q
      have K0 := K0.1 q
      refine r_aload_n (pc := 41) dX6_putBlank_41 rfl ?_
      refine r_bipush (pc := 42) (v := 32) dX6_putBlank_42 (by decide) ?_
      refine s_VV (pc := 44) mX6_putSign (ci := 6) (a := b0) (As := [.int 32]) dX6_putBlank_44 lk_X6_32 in_X6_putSign mo_X6_putSign ⟨by decide, rfl⟩ ⟨by decide, by decide⟩ (Nat.le_of_ble_eq_true rfl) k_b0 (mSV_mono K0 (fun y_4 K0 => ?_))
      exact s_ret rfl dX6_putBlank_47 K0
    · have q := (b2i_z _).mp q
      have K0 := K0.2 q
      refine r_aload_n (pc := 24) dX6_putBlank_24 rfl ?_
      refine s_getR (pc := 25) dX6_putBlank_25 fl_X6_9 rfl k_b0 g_b0_0 ?_
      refine r_aload_n (pc := 28) dX6_putBlank_28 rfl ?_
      refine s_getI (pc := 29) dX6_putBlank_29 fl_X6_15 rfl k_b0 ?_
      refine r_iconst (pc := 32) (v := 1) dX6_putBlank_32 (by decide) ?_
      refine r_isub (pc := 33) dX6_putBlank_33 ?_
      refine s_bald (pc := 34) dX6_putBlank_34 k_b0_0 i_2 ?_
      refine s_SNI (pc := 35) mX7_isDigit (As := [.int (gi x b0_0 (((gi x b0 1) - 1) : Int32).toNatClampNeg)]) dX6_putBlank_35 nl_X6_155 st_X7_isDigit mo_X7_isDigit ⟨by decide, by decide⟩ (Nat.le_of_ble_eq_true rfl) (sp_X7_isDigit  ?_)
      refine r_if_eq (pc := 38) (tgt := 47) dX6_putBlank_38 (by decide) (fun q => ?_) (fun q => ?_)
      · have q := (b2i_z _).mp q
        have K0 := K0.1 q
        exact s_ret rfl dX6_putBlank_47 K0
      · have q := b2i_nz q
        have K0 := K0.2 q
        refine r_aload_n (pc := 41) dX6_putBlank_41 rfl ?_
        refine r_bipush (pc := 42) (v := 32) dX6_putBlank_42 (by decide) ?_
        refine s_VV (pc := 44) mX6_putSign (ci := 6) (a := b0) (As := [.int 32]) dX6_putBlank_44 lk_X6_32 in_X6_putSign mo_X6_putSign ⟨by decide, rfl⟩ ⟨by decide, by decide⟩ (Nat.le_of_ble_eq_true rfl) k_b0 (mSV_mono K0 (fun y_6 K0 => ?_))
        exact s_ret rfl dX6_putBlank_47 K0
section
variable {x : Cn} {Q : Cn → Prop} {l : List Nat} {B : Nat}
theorem sp_X6_putBlank (c : gr x 175 0 = some 176) (w : WR x l B) (hB : B < 2400) (k : ∀ y, WFr x y → WR y (l ++ bl l) (B + 1) → Q y) : mSV mX6_putBlank [.ref 175] KW x Q := by
  have hl := w.2.2
  have no : ¬ aln (lst l) → Q x := fun h => by
    refine k x (WFr.rf x) ?_
    unfold bl
    rw [if_neg h, List.append_nil]
    exact w.le (by omega)
  have yes : aln (lst l) → mSV mX6_putSign [.ref 175, .int 32] KW x (fun y => Q y) := fun h => by
    refine sp_X6_putSign (n := 32) (by decide) c w hB (fun y fy wy => k y fy ?_)
    unfold bl
    rw [if_pos h]
    exact wy
  refine v_X6_putBlank_0 k175 c k176 ?_
  rw [w.1]
  by_cases c0 : l.length = 0
  · refine ⟨fun _ => no ?_, fun z => absurd (by rw [c0]; decide) z⟩
    have : l = [] := List.eq_nil_of_length_eq_zero c0
    rw [this]
    decide
  · rw [show nI l.length - 1 = nI (l.length - 1) from pk_sub (b := 1) (by omega), nI_clamp (by omega)]
    have hb := w.2.1 (l.length - 1) (by omega)
    rw [hb.1]
    have hb2 : lst l < 128 := hb.2
    have e1 : (97 ≤ nI (l.getD (l.length - 1) 0) ∧ nI (l.getD (l.length - 1) 0) ≤ 122) ↔ (97 ≤ lst l ∧ lst l ≤ 122) := by
      rw [show (97 ≤ nI (l.getD (l.length - 1) 0)) ↔ 97 ≤ lst l from nI_leI (a := 97) (by decide) (by omega), show (nI (l.getD (l.length - 1) 0) ≤ 122) ↔ lst l ≤ 122 from nI_leI (b := 122) (by omega) (by decide)]
    have e2 : (48 ≤ nI (l.getD (l.length - 1) 0) ∧ nI (l.getD (l.length - 1) 0) ≤ 57) ↔ (48 ≤ lst l ∧ lst l ≤ 57) := by
      rw [show (48 ≤ nI (l.getD (l.length - 1) 0)) ↔ 48 ≤ lst l from nI_leI (a := 48) (by decide) (by omega), show (nI (l.getD (l.length - 1) 0) ≤ 57) ↔ lst l ≤ 57 from nI_leI (b := 57) (by omega) (by decide)]
    rw [e1, e2]
    exact ⟨fun z => absurd ((nI_leI (b := 0) (by omega) (by decide)).mp z) (by omega), fun _ => ⟨vp_in_nI (by omega) (by decide), fun z => yes (Or.inl z), fun z => ⟨fun z2 => no (fun u => u.elim z z2), fun z2 => yes (Or.inr z2)⟩⟩⟩
theorem n48 (m : Nat) : (48 : Int32) + nI m = nI (48 + m) := nI_add 48 m
end
set_option maxHeartbeats 2000000 in
theorem v_X6_putNumber_0 {K : Sh} {x : Cn} {Q : Cn → Prop} {b0 : Nat} {l1 : Int32}  (k_b0 : kk K b0 = some (6, 0)) (K0 : mSV mX6_putBlank [.ref b0] K x (fun y_1 => (l1 < 10 → (mSV mX6_putSign [.ref b0, .int ((((48 + (l1 - l1 / 10 * 10)) : Int32).toUInt32 % 65536).toInt32)] K y_1 (fun y_3 => Q y_3))) ∧ (¬ l1 < 10 → (mSV mX6_putSign [.ref b0, .int ((((48 + ((l1 / 10) - (l1 / 10) / 10 * 10)) : Int32).toUInt32 % 65536).toInt32)] K y_1 (fun y_4 => mSV mX6_putSign [.ref b0, .int ((((48 + (l1 - l1 / 10 * 10)) : Int32).toUInt32 % 65536).toInt32)] K y_4 (fun y_5 => Q y_5)))))) : mSV mX6_putNumber [.ref b0, .int l1] K x Q := by
  refine s_V (by decide) (by simp [Value.category]) (Nat.le_of_ble_eq_true rfl) ?_
  show mGM mX6_putNumber 0 [some (.ref b0), some (.int l1)] [] (hp K x) (PV K Q)
  refine r_aload_n (pc := 0) dX6_putNumber_0 rfl ?_
  refine s_VV (pc := 1) mX6_putBlank (ci := 6) (a := b0) (As := []) dX6_putNumber_1 lk_X6_132 in_X6_putBlank mo_X6_putBlank ⟨by decide, rfl⟩ ⟨by decide, by decide⟩ (Nat.le_of_ble_eq_true rfl) k_b0 (mSV_mono K0 (fun y_1 K0 => ?_))
  refine r_iload_n (pc := 4) dX6_putNumber_4 rfl ?_
  refine r_bipush (pc := 5) (v := 10) dX6_putNumber_5 (by decide) ?_
  refine r_icmp_lt (pc := 7) (tgt := 25) dX6_putNumber_7 (by decide) (fun q => ?_) (fun q => ?_)
  · have K0 := K0.1 q
    refine r_aload_n (pc := 25) dX6_putNumber_25 rfl ?_
    refine r_bipush (pc := 26) (v := 48) dX6_putNumber_26 (by decide) ?_
    refine r_iload_n (pc := 28) dX6_putNumber_28 rfl ?_
    refine r_bipush (pc := 29) (v := 10) dX6_putNumber_29 (by decide) ?_
    refine r_irem (pc := 31) dX6_putNumber_31 (by decide) ?_
    refine r_iadd (pc := 32) dX6_putNumber_32 ?_
    refine r_i2c (pc := 33) dX6_putNumber_33 ?_
    refine s_VV (pc := 34) mX6_putSign (ci := 6) (a := b0) (As := [.int ((((48 + (l1 - l1 / 10 * 10)) : Int32).toUInt32 % 65536).toInt32)]) dX6_putNumber_34 lk_X6_32 in_X6_putSign mo_X6_putSign ⟨by decide, rfl⟩ ⟨by decide, by decide⟩ (Nat.le_of_ble_eq_true rfl) k_b0 (mSV_mono K0 (fun y_3 K0 => ?_))
    exact s_ret rfl dX6_putNumber_37 K0
  · have K0 := K0.2 q
    refine r_aload_n (pc := 10) dX6_putNumber_10 rfl ?_
    refine r_bipush (pc := 11) (v := 48) dX6_putNumber_11 (by decide) ?_
    refine r_iload_n (pc := 13) dX6_putNumber_13 rfl ?_
    refine r_bipush (pc := 14) (v := 10) dX6_putNumber_14 (by decide) ?_
    refine r_idiv (pc := 16) dX6_putNumber_16 (by decide) ?_
    refine r_bipush (pc := 17) (v := 10) dX6_putNumber_17 (by decide) ?_
    refine r_irem (pc := 19) dX6_putNumber_19 (by decide) ?_
    refine r_iadd (pc := 20) dX6_putNumber_20 ?_
    refine r_i2c (pc := 21) dX6_putNumber_21 ?_
    refine s_VV (pc := 22) mX6_putSign (ci := 6) (a := b0) (As := [.int ((((48 + ((l1 / 10) - (l1 / 10) / 10 * 10)) : Int32).toUInt32 % 65536).toInt32)]) dX6_putNumber_22 lk_X6_32 in_X6_putSign mo_X6_putSign ⟨by decide, rfl⟩ ⟨by decide, by decide⟩ (Nat.le_of_ble_eq_true rfl) k_b0 (mSV_mono K0 (fun y_4 K0 => ?_))
    refine r_aload_n (pc := 25) dX6_putNumber_25 rfl ?_
    refine r_bipush (pc := 26) (v := 48) dX6_putNumber_26 (by decide) ?_
    refine r_iload_n (pc := 28) dX6_putNumber_28 rfl ?_
    refine r_bipush (pc := 29) (v := 10) dX6_putNumber_29 (by decide) ?_
    refine r_irem (pc := 31) dX6_putNumber_31 (by decide) ?_
    refine r_iadd (pc := 32) dX6_putNumber_32 ?_
    refine r_i2c (pc := 33) dX6_putNumber_33 ?_
    refine s_VV (pc := 34) mX6_putSign (ci := 6) (a := b0) (As := [.int ((((48 + (l1 - l1 / 10 * 10)) : Int32).toUInt32 % 65536).toInt32)]) dX6_putNumber_34 lk_X6_32 in_X6_putSign mo_X6_putSign ⟨by decide, rfl⟩ ⟨by decide, by decide⟩ (Nat.le_of_ble_eq_true rfl) k_b0 (mSV_mono K0 (fun y_5 K0 => ?_))
    exact s_ret rfl dX6_putNumber_37 K0
section
variable {x : Cn} {Q : Cn → Prop} {l : List Nat} {B : Nat}
theorem sp_X6_putNumber {n : Nat} (hn : n < 100) (c : gr x 175 0 = some 176) (w : WR x l B) (hB : B + 3 ≤ 2400) (k : ∀ y, WFr x y → WR y (l ++ bl l ++ numL n) (B + 3) → Q y) : mSV mX6_putNumber [.ref 175, .int (nI n)] KW x Q := by
  refine v_X6_putNumber_0 k175 (sp_X6_putBlank c w (by omega) (fun y fy wy => ?_))
  have cy : gr y 175 0 = some 176 := by unfold gr; rw [fy.1]; exact c
  have e1 : nI n - nI n / 10 * 10 = nI (n % 10) := pk_rem (d := 10) (by omega) (by decide) (by decide)
  have e2 : nI n / 10 = nI (n / 10) := pk_div (d := 10) (by omega) (by decide) (by decide)
  have e3 : nI (n / 10) - nI (n / 10) / 10 * 10 = nI (n / 10 % 10) := pk_rem (d := 10) (by omega) (by decide) (by decide)
  rw [e1, e2, e3, n48, n48, b16 _ (by omega), b16 _ (by omega), show nI n < 10 ↔ n < 10 from nI_ltI (b := 10) (by omega) (by decide)]
  refine ⟨fun z => sp_X6_putSign (by omega) cy wy (by omega) (fun v fv wv => k v (fy.tr fv) ?_), fun z => sp_X6_putSign (by omega) cy wy (by omega) (fun v fv wv => sp_X6_putSign (by omega) (by unfold gr; rw [fv.1]; exact cy) wv (by omega) (fun u fu wu => k u (fy.tr (fv.tr fu)) ?_))⟩
  · unfold numL
    rw [if_pos z]
    rw [show n % 10 = n by omega] at wv
    exact wv.le (by omega)
  · unfold numL
    rw [if_neg z]
    rw [show n / 10 % 10 = n / 10 by omega, List.append_assoc] at wu
    exact wu
end
set_option maxHeartbeats 2000000 in
theorem v_X6_putWord_0 {K : Sh} {x : Cn} {Q : Cn → Prop} {b0 : Nat} {j1 : Nat} {q1 : String × Nat × String × List Int32} (hj1 : mS[j1]? = some q1)  (k_b0 : kk K b0 = some (6, 0)) (K0 : mSV mX6_putBlank [.ref b0] K x (fun y_1 => GV mX6_putWord 6 [some (.ref b0), some (.ref (mSB + j1)), some (.int 0)] [] K y_1 Q)) : mSV mX6_putWord [.ref b0, .ref (mSB + j1)] K x Q := by
  refine s_V (by decide) (by simp [Value.category]) (Nat.le_of_ble_eq_true rfl) ?_
  show mGM mX6_putWord 0 [some (.ref b0), some (.ref (mSB + j1)), none] [] (hp K x) (PV K Q)
  refine r_aload_n (pc := 0) dX6_putWord_0 rfl ?_
  refine s_VV (pc := 1) mX6_putBlank (ci := 6) (a := b0) (As := []) dX6_putWord_1 lk_X6_132 in_X6_putBlank mo_X6_putBlank ⟨by decide, rfl⟩ ⟨by decide, by decide⟩ (Nat.le_of_ble_eq_true rfl) k_b0 (mSV_mono K0 (fun y_1 K0 => ?_))
  refine r_iconst (pc := 4) (v := 0) dX6_putWord_4 (by decide) ?_
  refine r_istore_n (pc := 5) dX6_putWord_5 (by decide) ?_
  exact r_le (L' := [some (.ref b0), some (.ref (mSB + j1)), some (.int 0)]) ⟨rfl, ⟨rfl, ⟨rfl, trivial⟩⟩⟩ K0
set_option maxHeartbeats 2000000 in
theorem v_X6_putWord_6 {K : Sh} {x : Cn} {Q : Cn → Prop} {b0 : Nat} {j1 : Nat} {q1 : String × Nat × String × List Int32} (hj1 : mS[j1]? = some q1) {l2 : Int32}  (k_b0 : kk K b0 = some (6, 0)) (K0 : ((nI q1.2.2.2.length) ≤ l2 → (Q x)) ∧ (¬ (nI q1.2.2.2.length) ≤ l2 → (∃ n_2 : Nat, l2 = nI n_2 ∧ (n_2 < q1.2.2.2.length ∧ (mSV mX6_putSign [.ref b0, .int (q1.2.2.2.getD n_2 0)] K x (fun y_3 => GV mX6_putWord 6 [some (.ref b0), some (.ref (mSB + j1)), some (.int (l2 + 1))] [] K y_3 Q)))))) : GV mX6_putWord 6 [some (.ref b0), some (.ref (mSB + j1)), some (.int l2)] [] K x Q := by
  show mGM mX6_putWord 6 [some (.ref b0), some (.ref (mSB + j1)), some (.int l2)] [] (hp K x) (PV K Q)
  refine r_iload_n (pc := 6) dX6_putWord_6 rfl ?_
  refine r_aload_n (pc := 7) dX6_putWord_7 rfl ?_
  refine s_VIs (pc := 8) mJ0_length_8abf5 (j := j1) (q := q1) (As := []) dX6_putWord_8 lk_X6_148 in_J0_length_8abf5 mo_J0_length_8abf5 hj1 rfl ⟨by decide, by decide⟩ (Nat.le_of_ble_eq_true rfl) (sp_len hj1 ?_)
  refine r_icmp_ge (pc := 11) (tgt := 29) dX6_putWord_11 (by decide) (fun q => ?_) (fun q => ?_)
  · have K0 := K0.1 q
    exact s_ret rfl dX6_putWord_29 K0
  · have K0 := K0.2 q
    refine r_aload_n (pc := 14) dX6_putWord_14 rfl ?_
    refine r_aload_n (pc := 15) dX6_putWord_15 rfl ?_
    refine r_iload_n (pc := 16) dX6_putWord_16 rfl ?_
    obtain ⟨n_2, en_2, un_2, K0⟩ := K0
    refine s_VIs (pc := 17) mJ0_charAt_5068e (j := j1) (q := q1) (As := [.int l2]) dX6_putWord_17 lk_X6_137 in_J0_charAt_5068e mo_J0_charAt_5068e hj1 rfl ⟨by decide, by decide⟩ (Nat.le_of_ble_eq_true rfl) (sp_chv hj1 en_2 un_2 ?_)
    refine s_VV (pc := 20) mX6_putSign (ci := 6) (a := b0) (As := [.int (q1.2.2.2.getD n_2 0)]) dX6_putWord_20 lk_X6_32 in_X6_putSign mo_X6_putSign ⟨by decide, rfl⟩ ⟨by decide, by decide⟩ (Nat.le_of_ble_eq_true rfl) k_b0 (mSV_mono K0 (fun y_3 K0 => ?_))
    refine r_iinc (pc := 23) (v := l2 + 1) dX6_putWord_23 rfl rfl (by decide) ?_
    refine r_goto (pc := 26) (L := [some (.ref b0), some (.ref (mSB + j1)), some (.int (l2 + 1))]) (tgt := 6) dX6_putWord_26 (by decide) ?_
    exact r_le (L' := [some (.ref b0), some (.ref (mSB + j1)), some (.int (l2 + 1))]) ⟨rfl, ⟨rfl, ⟨rfl, trivial⟩⟩⟩ K0
section
variable {x : Cn} {Q : Cn → Prop} {l : List Nat} {B : Nat}
theorem sp_X6_putWord {j m : Nat} {q : String × Nat × String × List Int32} (hj : mS[j]? = some q) (hm : q.2.2.2.length ≤ m) (c : gr x 175 0 = some 176) (w : WR x l B) (hB : B + 1 + m ≤ 2400) (k : ∀ y, WFr x y → WR y (l ++ bl l ++ wq q) (B + 1 + m) → Q y) : mSV mX6_putWord [.ref 175, .ref (mSB + j)] KW x Q := by
  refine v_X6_putWord_0 hj k175 (sp_X6_putBlank c w (by omega) (fun y fy wy => ?_))
  have key : ∀ r n v, n + r = q.2.2.2.length → WFr x v → WR v (l ++ bl l ++ (wq q).take n) (B + 1 + n) → GV mX6_putWord 6 [some (.ref 175), some (.ref (mSB + j)), some (.int (nI n))] [] KW v Q := by
    intro r
    induction r with
    | zero =>
      intro n v hn fv wv
      refine v_X6_putWord_6 hj k175 ⟨fun _ => k v fv ?_, fun z => absurd (nI_le (by omega) (by omega)) z⟩
      rw [List.take_of_length_le (by rw [wq_len]; omega)] at wv
      exact wv.le (by omega)
    | succ r ih =>
      intro n v hn fv wv
      have ha := wq_at hj (n := n) (by omega)
      refine v_X6_putWord_6 hj k175 ⟨fun z => absurd z (nI_ge (by omega) (by omega)), fun _ => ⟨n, rfl, by omega, ?_⟩⟩
      rw [ha.1, nI_1]
      refine sp_X6_putSign ha.2 (by unfold gr; rw [fv.1]; exact c) wv (by omega) (fun u fu wu => ih (n + 1) u (by omega) (fv.tr fu) ?_)
      have e : (wq q).take (n + 1) = (wq q).take n ++ [(wq q).getD n 0] := by
        rw [List.take_add_one, List.getD_eq_getElem?_getD, List.getElem?_eq_getElem (by rw [wq_len]; omega)]
        rfl
      rw [e, ← List.append_assoc]
      exact wu
  exact key q.2.2.2.length 0 y (by omega) fy (by rw [List.take_zero, List.append_nil]; exact wy)
end
set_option maxHeartbeats 2000000 in
theorem v_X6_putName_0 {K : Sh} {x : Cn} {Q : Cn → Prop} {b0 : Nat} {b1 : Nat} {l2 : Int32}  (k_b0 : kk K b0 = some (6, 0)) (K0 : mSV mX6_putBlank [.ref b0] K x (fun y_1 => GV mX6_putName 6 [some (.ref b0), some (.ref b1), some (.int l2), some (.int 0), none] [] K y_1 Q)) : mSV mX6_putName [.ref b0, .ref b1, .int l2] K x Q := by
  refine s_V (by decide) (by simp [Value.category]) (Nat.le_of_ble_eq_true rfl) ?_
  show mGM mX6_putName 0 [some (.ref b0), some (.ref b1), some (.int l2), none, none] [] (hp K x) (PV K Q)
  refine r_aload_n (pc := 0) dX6_putName_0 rfl ?_
  refine s_VV (pc := 1) mX6_putBlank (ci := 6) (a := b0) (As := []) dX6_putName_1 lk_X6_132 in_X6_putBlank mo_X6_putBlank ⟨by decide, rfl⟩ ⟨by decide, by decide⟩ (Nat.le_of_ble_eq_true rfl) k_b0 (mSV_mono K0 (fun y_1 K0 => ?_))
  refine r_iconst (pc := 4) (v := 0) dX6_putName_4 (by decide) ?_
  refine r_istore_n (pc := 5) dX6_putName_5 (by decide) ?_
  exact r_le (L' := [some (.ref b0), some (.ref b1), some (.int l2), some (.int 0), none]) ⟨rfl, ⟨rfl, ⟨rfl, ⟨rfl, trivial⟩⟩⟩⟩ K0
set_option maxHeartbeats 2000000 in
theorem v_X6_putName_6 {K : Sh} {x : Cn} {Q : Cn → Prop} {b0 : Nat} {b1 : Nat} {l2 : Int32} {l3 : Int32}  (k_b1 : kk K b1 = some (1, 0)) (k_b0 : kk K b0 = some (6, 0)) (K0 : (6 ≤ l3 → (Q x)) ∧ (¬ 6 ≤ l3 → (mSI mX1_letterOf [.ref b1, .int l2, .int l3] K x (fun r_3 y_2 => (r_3 ≤ 0 → (GV mX6_putName 6 [some (.ref b0), some (.ref b1), some (.int l2), some (.int (l3 + 1)), none] [] K y_2 Q)) ∧ (¬ r_3 ≤ 0 → (mSV mX6_putSign [.ref b0, .int (((((97 + r_3) - 1) : Int32).toUInt32 % 65536).toInt32)] K y_2 (fun y_5 => GV mX6_putName 6 [some (.ref b0), some (.ref b1), some (.int l2), some (.int (l3 + 1)), none] [] K y_5 Q))))))) : GV mX6_putName 6 [some (.ref b0), some (.ref b1), some (.int l2), some (.int l3), none] [] K x Q := by
  show mGM mX6_putName 6 [some (.ref b0), some (.ref b1), some (.int l2), some (.int l3), none] [] (hp K x) (PV K Q)
  refine r_iload_n (pc := 6) dX6_putName_6 rfl ?_
  refine r_bipush (pc := 7) (v := 6) dX6_putName_7 (by decide) ?_
  refine r_icmp_ge (pc := 9) (tgt := 43) dX6_putName_9 (by decide) (fun q => ?_) (fun q => ?_)
  · have K0 := K0.1 q
    exact s_ret rfl dX6_putName_43 K0
  · have K0 := K0.2 q
    refine r_aload_n (pc := 12) dX6_putName_12 rfl ?_
    refine r_iload_n (pc := 13) dX6_putName_13 rfl ?_
    refine r_iload_n (pc := 14) dX6_putName_14 rfl ?_
    refine s_VI (pc := 15) mX1_letterOf (ci := 1) (a := b1) (As := [.int l2, .int l3]) dX6_putName_15 lk_X6_144 in_X1_letterOf mo_X1_letterOf ⟨by decide, rfl⟩ ⟨by decide, by decide⟩ (Nat.le_of_ble_eq_true rfl) k_b1 (mSI_mono K0 (fun r_3 y_2 K0 => ?_))
    refine r_istore (pc := 18) dX6_putName_18 (by decide) ?_
    refine r_iload (pc := 20) (L := [some (.ref b0), some (.ref b1), some (.int l2), some (.int l3), some (.int r_3)]) dX6_putName_20 rfl ?_
    refine r_if_le (pc := 22) (tgt := 37) dX6_putName_22 (by decide) (fun q => ?_) (fun q => ?_)
    · have K0 := K0.1 q
      refine r_iinc (pc := 37) (v := l3 + 1) dX6_putName_37 rfl rfl (by decide) ?_
      refine r_goto (pc := 40) (L := [some (.ref b0), some (.ref b1), some (.int l2), some (.int (l3 + 1)), some (.int r_3)]) (tgt := 6) dX6_putName_40 (by decide) ?_
      exact r_le (L' := [some (.ref b0), some (.ref b1), some (.int l2), some (.int (l3 + 1)), none]) ⟨rfl, ⟨rfl, ⟨rfl, ⟨rfl, trivial⟩⟩⟩⟩ K0
    · have K0 := K0.2 q
      refine r_aload_n (pc := 25) dX6_putName_25 rfl ?_
      refine r_bipush (pc := 26) (v := 97) dX6_putName_26 (by decide) ?_
      refine r_iload (pc := 28) dX6_putName_28 rfl ?_
      refine r_iadd (pc := 30) dX6_putName_30 ?_
      refine r_iconst (pc := 31) (v := 1) dX6_putName_31 (by decide) ?_
      refine r_isub (pc := 32) dX6_putName_32 ?_
      refine r_i2c (pc := 33) dX6_putName_33 ?_
      refine s_VV (pc := 34) mX6_putSign (ci := 6) (a := b0) (As := [.int (((((97 + r_3) - 1) : Int32).toUInt32 % 65536).toInt32)]) dX6_putName_34 lk_X6_32 in_X6_putSign mo_X6_putSign ⟨by decide, rfl⟩ ⟨by decide, by decide⟩ (Nat.le_of_ble_eq_true rfl) k_b0 (mSV_mono K0 (fun y_5 K0 => ?_))
      refine r_iinc (pc := 37) (v := l3 + 1) dX6_putName_37 rfl rfl (by decide) ?_
      refine r_goto (pc := 40) (L := [some (.ref b0), some (.ref b1), some (.int l2), some (.int (l3 + 1)), some (.int r_3)]) (tgt := 6) dX6_putName_40 (by decide) ?_
      exact r_le (L' := [some (.ref b0), some (.ref b1), some (.int l2), some (.int (l3 + 1)), none]) ⟨rfl, ⟨rfl, ⟨rfl, ⟨rfl, trivial⟩⟩⟩⟩ K0
section
variable {x : Cn} {Q : Cn → Prop} {l : List Nat} {B : Nat}
theorem sp_X6_putName {cr v : Nat} (hc : cr < 8) (hv : ∀ i, i < 6 → gi x 57 (6 * cr + i) = nI (dg v i)) (c : gr x 175 0 = some 176) (c2 : gr x 56 1 = some 57) (w : WR x l B) (hB : B + 7 ≤ 2400) (k : ∀ y, WFr x y → WR y (l ++ bl l ++ nmL v) (B + 7) → Q y) : mSV mX6_putName [.ref 175, .ref 56, .int (nI cr)] KW x Q := by
  refine v_X6_putName_0 k175 (sp_X6_putBlank c w (by omega) (fun y fy wy => ?_))
  have kn : kk KW 56 = some (1, 0) := by decide
  have key : GV mX6_putName 6 [some (.ref 175), some (.ref 56), some (.int (nI cr)), some (.int (nI 0)), none] [] KW y Q := by
    refine lp_acc (nmS v) (fun i l' => ∀ z, WFr x z → WR z l' (B + 1 + i) → GV mX6_putName 6 [some (.ref 175), some (.ref 56), some (.int (nI cr)), some (.int (nI i)), none] [] KW z Q) 6 (l ++ bl l) ?_ (fun i l' hi n1 => ?_) y fy wy
    · intro z fz wz
      refine v_X6_putName_6 kn k175 ⟨fun _ => k z fz ?_, fun u => absurd (by decide) u⟩
      rw [nm_acc] at wz
      exact wz
    · intro z fz wz
      have hd := dg_lt v i
      refine v_X6_putName_6 kn k175 ⟨fun u => absurd u (nI_ge (b := 6) hi (by decide)), fun _ => sp_X1_letterOf kn (by unfold gr; rw [fz.1]; exact c2) (by decide) hc hi ?_⟩
      rw [fz.2 57 _ (by decide) (by omega), hv i hi, nI_1, show nI (dg v i) ≤ 0 ↔ dg v i ≤ 0 from nI_leI (b := 0) (by omega) (by decide), show (97 + nI (dg v i)) - 1 = nI (96 + dg v i) from (by rw [show (97 : Int32) + nI (dg v i) = nI (97 + dg v i) from nI_add 97 _, show nI (97 + dg v i) - 1 = nI (97 + dg v i - 1) from pk_sub (b := 1) (by omega)]; congr 1; omega), b16 _ (by omega)]
      refine ⟨fun u => n1 l' ?_ z fz (wz.le (by omega)), fun u => sp_X6_putSign (by omega) (by unfold gr; rw [fz.1]; exact c) wz (by omega) (fun z2 f2 w2 => n1 _ ?_ z2 (fz.tr f2) w2)⟩
      · unfold nmS; rw [if_pos (by omega)]
      · unfold nmS; rw [if_neg (by omega)]
  exact key
end
set_option maxHeartbeats 2000000 in
theorem v_X6_putSpan_0 {K : Sh} {x : Cn} {Q : Cn → Prop} {b0 : Nat} {l1 : Int32} {l2 : Int32}  (k_b0 : kk K b0 = some (6, 0)) (K0 : mSV mX6_putNumber [.ref b0, .int l1] K x (fun y_1 => mSV mX6_putSign [.ref b0, .int 45] K y_1 (fun y_2 => mSV mX6_putNumber [.ref b0, .int l2] K y_2 (fun y_3 => Q y_3)))) : mSV mX6_putSpan [.ref b0, .int l1, .int l2] K x Q := by
  refine s_V (by decide) (by simp [Value.category]) (Nat.le_of_ble_eq_true rfl) ?_
  show mGM mX6_putSpan 0 [some (.ref b0), some (.int l1), some (.int l2)] [] (hp K x) (PV K Q)
  refine r_aload_n (pc := 0) dX6_putSpan_0 rfl ?_
  refine r_iload_n (pc := 1) dX6_putSpan_1 rfl ?_
  refine s_VV (pc := 2) mX6_putNumber (ci := 6) (a := b0) (As := [.int l1]) dX6_putSpan_2 lk_X6_28 in_X6_putNumber mo_X6_putNumber ⟨by decide, rfl⟩ ⟨by decide, by decide⟩ (Nat.le_of_ble_eq_true rfl) k_b0 (mSV_mono K0 (fun y_1 K0 => ?_))
  refine r_aload_n (pc := 5) dX6_putSpan_5 rfl ?_
  refine r_bipush (pc := 6) (v := 45) dX6_putSpan_6 (by decide) ?_
  refine s_VV (pc := 8) mX6_putSign (ci := 6) (a := b0) (As := [.int 45]) dX6_putSpan_8 lk_X6_32 in_X6_putSign mo_X6_putSign ⟨by decide, rfl⟩ ⟨by decide, by decide⟩ (Nat.le_of_ble_eq_true rfl) k_b0 (mSV_mono K0 (fun y_2 K0 => ?_))
  refine r_aload_n (pc := 11) dX6_putSpan_11 rfl ?_
  refine r_iload_n (pc := 12) dX6_putSpan_12 rfl ?_
  refine s_VV (pc := 13) mX6_putNumber (ci := 6) (a := b0) (As := [.int l2]) dX6_putSpan_13 lk_X6_28 in_X6_putNumber mo_X6_putNumber ⟨by decide, rfl⟩ ⟨by decide, by decide⟩ (Nat.le_of_ble_eq_true rfl) k_b0 (mSV_mono K0 (fun y_3 K0 => ?_))
  exact s_ret rfl dX6_putSpan_16 K0
section
variable {x : Cn} {Q : Cn → Prop} {l : List Nat} {B : Nat}
theorem sp_X6_putSpan {a b : Nat} (ha : a < 100) (hb : b < 100) (c : gr x 175 0 = some 176) (w : WR x l B) (hB : B + 7 ≤ 2400) (k : ∀ y, WFr x y → WR y (l ++ bl l ++ numL a ++ [45] ++ numL b) (B + 7) → Q y) : mSV mX6_putSpan [.ref 175, .int (nI a), .int (nI b)] KW x Q := by
  have cg : ∀ y : Cn, WFr x y → gr y 175 0 = some 176 := fun y fy => by unfold gr; rw [fy.1]; exact c
  refine v_X6_putSpan_0 k175 (sp_X6_putNumber ha c w (by omega) (fun y fy wy => sp_X6_putSign (n := 45) (by decide) (cg y fy) wy (by omega) (fun u fu wu => sp_X6_putNumber hb (cg u (fy.tr fu)) wu (by omega) (fun v fv wv => k v (fy.tr (fu.tr fv)) ?_))))
  rw [bl_1 _ (by decide), List.append_nil] at wv
  exact wv
end
set_option maxHeartbeats 2000000 in
theorem v_X6_putPlace_0 {K : Sh} {x : Cn} {Q : Cn → Prop} {b0 : Nat} {l1 : Int32} {l2 : Int32} {l3 : Int32}  (k_b0 : kk K b0 = some (6, 0)) (K0 : mSV mX6_putBlank [.ref b0] K x (fun y_1 => GV mX6_putPlace 7 [some (.ref b0), some (.int l1), some (.int l2), some (.int l3), some (.int 0)] [] K y_1 Q)) : mSV mX6_putPlace [.ref b0, .int l1, .int l2, .int l3] K x Q := by
  refine s_V (by decide) (by simp [Value.category]) (Nat.le_of_ble_eq_true rfl) ?_
  show mGM mX6_putPlace 0 [some (.ref b0), some (.int l1), some (.int l2), some (.int l3), none] [] (hp K x) (PV K Q)
  refine r_aload_n (pc := 0) dX6_putPlace_0 rfl ?_
  refine s_VV (pc := 1) mX6_putBlank (ci := 6) (a := b0) (As := []) dX6_putPlace_1 lk_X6_132 in_X6_putBlank mo_X6_putBlank ⟨by decide, rfl⟩ ⟨by decide, by decide⟩ (Nat.le_of_ble_eq_true rfl) k_b0 (mSV_mono K0 (fun y_1 K0 => ?_))
  refine r_iconst (pc := 4) (v := 0) dX6_putPlace_4 (by decide) ?_
  refine r_istore (pc := 5) dX6_putPlace_5 (by decide) ?_
  exact r_le (L' := [some (.ref b0), some (.int l1), some (.int l2), some (.int l3), some (.int 0)]) ⟨rfl, ⟨rfl, ⟨rfl, ⟨rfl, ⟨rfl, trivial⟩⟩⟩⟩⟩ K0
set_option maxHeartbeats 2000000 in
theorem v_X6_putPlace_7 {K : Sh} {x : Cn} {Q : Cn → Prop} {b0 : Nat} {l1 : Int32} {l2 : Int32} {l3 : Int32} {l4 : Int32}  (k_b0 : kk K b0 = some (6, 0)) (K0 : (3 ≤ l4 → (mSV mX6_putNumber [.ref b0, .int l2] K x (fun y_2 => (¬ l3 = 0 → (mSV mX6_putWord [.ref b0, .ref (mSB + 7)] K y_2 (fun y_4 => Q y_4))) ∧ (l3 = 0 → (mSV mX6_putWord [.ref b0, .ref (mSB + 3)] K y_2 (fun y_5 => Q y_5)))))) ∧ (¬ 3 ≤ l4 → (∃ n_6 : Nat, ((l1 * 4) + l4) = nI n_6 ∧ (n_6 < (mSq 6).2.2.2.length ∧ (mSV mX6_putSign [.ref b0, .int ((mSq 6).2.2.2.getD n_6 0)] K x (fun y_7 => GV mX6_putPlace 7 [some (.ref b0), some (.int l1), some (.int l2), some (.int l3), some (.int (l4 + 1))] [] K y_7 Q)))))) : GV mX6_putPlace 7 [some (.ref b0), some (.int l1), some (.int l2), some (.int l3), some (.int l4)] [] K x Q := by
  show mGM mX6_putPlace 7 [some (.ref b0), some (.int l1), some (.int l2), some (.int l3), some (.int l4)] [] (hp K x) (PV K Q)
  refine r_iload (pc := 7) dX6_putPlace_7 rfl ?_
  refine r_iconst (pc := 9) (v := 3) dX6_putPlace_9 (by decide) ?_
  refine r_icmp_ge (pc := 10) (tgt := 34) dX6_putPlace_10 (by decide) (fun q => ?_) (fun q => ?_)
  · have K0 := K0.1 q
    refine r_aload_n (pc := 34) dX6_putPlace_34 rfl ?_
    refine r_iload_n (pc := 35) dX6_putPlace_35 rfl ?_
    refine s_VV (pc := 36) mX6_putNumber (ci := 6) (a := b0) (As := [.int l2]) dX6_putPlace_36 lk_X6_28 in_X6_putNumber mo_X6_putNumber ⟨by decide, rfl⟩ ⟨by decide, by decide⟩ (Nat.le_of_ble_eq_true rfl) k_b0 (mSV_mono K0 (fun y_2 K0 => ?_))
    refine r_aload_n (pc := 39) dX6_putPlace_39 rfl ?_
    refine r_iload_n (pc := 40) dX6_putPlace_40 rfl ?_
    refine r_if_ne (pc := 41) (tgt := 49) dX6_putPlace_41 (by decide) (fun q => ?_) (fun q => ?_)
    · have K0 := K0.1 q
      refine r_ldcS (pc := 49) (j := 7) dX6_putPlace_49 rfl ?_
      refine s_VV (pc := 51) mX6_putWord (ci := 6) (a := b0) (As := [.ref (mSB + 7)]) dX6_putPlace_51 lk_X6_21 in_X6_putWord mo_X6_putWord ⟨by decide, rfl⟩ ⟨by decide, by decide⟩ (Nat.le_of_ble_eq_true rfl) k_b0 (mSV_mono K0 (fun y_4 K0 => ?_))
      exact s_ret rfl dX6_putPlace_54 K0
    · have K0 := K0.2 q
      refine r_ldcS (pc := 44) (j := 3) dX6_putPlace_44 rfl ?_
      refine r_goto (pc := 46) (tgt := 51) dX6_putPlace_46 (by decide) ?_
      refine s_VV (pc := 51) mX6_putWord (ci := 6) (a := b0) (As := [.ref (mSB + 3)]) dX6_putPlace_51 lk_X6_21 in_X6_putWord mo_X6_putWord ⟨by decide, rfl⟩ ⟨by decide, by decide⟩ (Nat.le_of_ble_eq_true rfl) k_b0 (mSV_mono K0 (fun y_5 K0 => ?_))
      exact s_ret rfl dX6_putPlace_54 K0
  · have K0 := K0.2 q
    refine r_aload_n (pc := 13) dX6_putPlace_13 rfl ?_
    refine r_ldcS (pc := 14) (j := 6) dX6_putPlace_14 rfl ?_
    refine r_iload_n (pc := 16) dX6_putPlace_16 rfl ?_
    refine r_iconst (pc := 17) (v := 4) dX6_putPlace_17 (by decide) ?_
    refine r_imul (pc := 18) dX6_putPlace_18 ?_
    refine r_iload (pc := 19) dX6_putPlace_19 rfl ?_
    refine r_iadd (pc := 21) dX6_putPlace_21 ?_
    obtain ⟨n_6, en_6, un_6, K0⟩ := K0
    refine s_VIs (pc := 22) mJ0_charAt_5068e (j := 6) (q := (mSq 6)) (As := [.int ((l1 * 4) + l4)]) dX6_putPlace_22 lk_X6_137 in_J0_charAt_5068e mo_J0_charAt_5068e (mSq_at (k := 6) (by decide)) rfl ⟨by decide, by decide⟩ (Nat.le_of_ble_eq_true rfl) (sp_chv (mSq_at (k := 6) (by decide)) en_6 un_6 ?_)
    refine s_VV (pc := 25) mX6_putSign (ci := 6) (a := b0) (As := [.int ((mSq 6).2.2.2.getD n_6 0)]) dX6_putPlace_25 lk_X6_32 in_X6_putSign mo_X6_putSign ⟨by decide, rfl⟩ ⟨by decide, by decide⟩ (Nat.le_of_ble_eq_true rfl) k_b0 (mSV_mono K0 (fun y_7 K0 => ?_))
    refine r_iinc (pc := 28) (v := l4 + 1) dX6_putPlace_28 rfl rfl (by decide) ?_
    refine r_goto (pc := 31) (L := [some (.ref b0), some (.int l1), some (.int l2), some (.int l3), some (.int (l4 + 1))]) (tgt := 7) dX6_putPlace_31 (by decide) ?_
    exact r_le (L' := [some (.ref b0), some (.int l1), some (.int l2), some (.int l3), some (.int (l4 + 1))]) ⟨rfl, ⟨rfl, ⟨rfl, ⟨rfl, ⟨rfl, trivial⟩⟩⟩⟩⟩ K0
section
variable {x : Cn} {Q : Cn → Prop} {l : List Nat} {B : Nat}
theorem sp_X6_putPlace {d h : Nat} {way : Int32} (hd : d < 7) (hh : h < 100) (c : gr x 175 0 = some 176) (w : WR x l B) (hB : B + 11 ≤ 2400) (k : ∀ y, WFr x y → WR y (l ++ bl l ++ dayL d ++ [32] ++ numL h ++ [32] ++ (if way = 0 then wd 3 else wd 7)) (B + 11) → Q y) : mSV mX6_putPlace [.ref 175, .int (nI d), .int (nI h), .int way] KW x Q := by
  have cg : ∀ y : Cn, WFr x y → gr y 175 0 = some 176 := fun y fy => by unfold gr; rw [fy.1]; exact c
  have ix : ∀ i, (nI d * 4) + nI i = nI (4 * d + i) := fun i => by rw [show (4 : Int32) = nI 4 by decide, pk_mul, nI_add, Nat.mul_comm]
  have step : ∀ i (v : Cn) (G : Cn → Prop) l' B', i < 3 → WFr x v → WR v l' B' → B' < 2400 → (∀ u, WFr x u → WR u (l' ++ [dc d i]) (B' + 1) → G u) → ∃ n_6 : Nat, ((nI d * 4) + nI i) = nI n_6 ∧ (n_6 < (mSq 6).2.2.2.length ∧ mSV mX6_putSign [.ref 175, .int ((mSq 6).2.2.2.getD n_6 0)] KW v G) := by
    intro i v G l' B' hi fv wv hB' k'
    have ho := dc_ok d hd i hi
    refine ⟨4 * d + i, ix i, by show 4 * d + i < 73; omega, ?_⟩
    rw [ho.1]
    exact sp_X6_putSign (by omega) (cg v fv) wv hB' (fun u fu wu => k' u (fv.tr fu) wu)
  refine v_X6_putPlace_0 k175 (sp_X6_putBlank c w (by omega) (fun y fy wy => ?_))
  refine v_X6_putPlace_7 k175 ⟨fun z => absurd z (by decide), fun _ => step 0 y _ _ _ (by decide) fy wy (by omega) (fun y1 f1 w1 => ?_)⟩
  refine v_X6_putPlace_7 k175 ⟨fun z => absurd z (by decide), fun _ => step 1 y1 _ _ _ (by decide) f1 w1 (by omega) (fun y2 f2 w2 => ?_)⟩
  refine v_X6_putPlace_7 k175 ⟨fun z => absurd z (by decide), fun _ => step 2 y2 _ _ _ (by decide) f2 w2 (by omega) (fun y3 f3 w3 => ?_)⟩
  have e3 : l ++ bl l ++ [dc d 0] ++ [dc d 1] ++ [dc d 2] = l ++ bl l ++ dayL d := by simp [dayL, List.append_assoc]
  rw [e3] at w3
  refine v_X6_putPlace_7 k175 ⟨fun _ => sp_X6_putNumber hh (cg y3 f3) w3 (by omega) (fun y4 f4 w4 => ?_), fun z => absurd (by decide) z⟩
  rw [bl_day _ hd] at w4
  refine ⟨fun z => sp_X6_putWord (j := 7) (m := 3) (mSq_at (by decide)) (by decide) (cg y4 (f3.tr f4)) w4 (by omega) (fun y5 f5 w5 => k y5 (f3.tr (f4.tr f5)) ?_), fun z => sp_X6_putWord (j := 3) (m := 2) (mSq_at (by decide)) (by decide) (cg y4 (f3.tr f4)) w4 (by omega) (fun y5 f5 w5 => k y5 (f3.tr (f4.tr f5)) ?_)⟩
  · rw [bl_num _ hh] at w5
    rw [if_neg z]
    exact w5.le (by omega)
  · rw [bl_num _ hh] at w5
    rw [if_pos z]
    exact w5.le (by omega)
end
end
/-! 60.tell2.lean.txt -/
section
def limP (h a b : Nat) : List Nat := wd 28 ++ numL h ++ [32] ++ numL a ++ wd 29 ++ numL b ++ [59]
def comP (w : List Nat) (v d h : Nat) (way : Int32) (f t : Nat) : List Nat := w ++ nmL v ++ [32] ++ dayL d ++ [32] ++ numL h ++ (if way = 0 then wd 29 else wd 32) ++ numL f ++ [45] ++ numL t
def serP (v d h : Nat) (way : Int32) (f t : Nat) (nw : Int32) : List Nat := comP (wd 31) v d h way f t ++ (if nw = 1 then wd 33 else wd 34)
def askP (v d h : Nat) (way : Int32) (f t b : Nat) : List Nat := comP (wd 35) v d h way f t ++ (if b = 0 then [] else wd 36 ++ numL b) ++ [59]
def carP (v : Nat) : List Nat := wd 30 ++ nmL v ++ [59]
theorem bl_e (l X : List Nat) : bl (l ++ (X ++ [59])) = [] := by
  rw [← List.append_assoc]
  exact bl_1 _ (by decide)
theorem ser_e (l : List Nat) (v d h : Nat) (way : Int32) (f t : Nat) (nw : Int32) : bl (l ++ serP v d h way f t nw) = [] := by
  unfold serP
  by_cases c : nw = 1
  · rw [if_pos c, wd_33, ← List.append_assoc]; exact bl_e _ _
  · rw [if_neg c, wd_34]; exact bl_e _ _
set_option maxHeartbeats 2000000 in
theorem v_X6_putLimit_0 {K : Sh} {x : Cn} {Q : Cn → Prop} {b0 : Nat} {l1 : Int32} {l2 : Int32} {l3 : Int32}  (k_b0 : kk K b0 = some (6, 0)) (K0 : mSV mX6_putWord [.ref b0, .ref (mSB + 2)] K x (fun y_1 => mSV mX6_putNumber [.ref b0, .int l1] K y_1 (fun y_2 => mSV mX6_putNumber [.ref b0, .int l2] K y_2 (fun y_3 => mSV mX6_putWord [.ref b0, .ref (mSB + 3)] K y_3 (fun y_4 => mSV mX6_putNumber [.ref b0, .int l3] K y_4 (fun y_5 => mSV mX6_putSign [.ref b0, .int 59] K y_5 (fun y_6 => Q y_6))))))) : mSV mX6_putLimit [.ref b0, .int l1, .int l2, .int l3] K x Q := by
  refine s_V (by decide) (by simp [Value.category]) (Nat.le_of_ble_eq_true rfl) ?_
  show mGM mX6_putLimit 0 [some (.ref b0), some (.int l1), some (.int l2), some (.int l3)] [] (hp K x) (PV K Q)
  refine r_aload_n (pc := 0) dX6_putLimit_0 rfl ?_
  refine r_ldcS (pc := 1) (j := 2) dX6_putLimit_1 rfl ?_
  refine s_VV (pc := 3) mX6_putWord (ci := 6) (a := b0) (As := [.ref (mSB + 2)]) dX6_putLimit_3 lk_X6_21 in_X6_putWord mo_X6_putWord ⟨by decide, rfl⟩ ⟨by decide, by decide⟩ (Nat.le_of_ble_eq_true rfl) k_b0 (mSV_mono K0 (fun y_1 K0 => ?_))
  refine r_aload_n (pc := 6) dX6_putLimit_6 rfl ?_
  refine r_iload_n (pc := 7) dX6_putLimit_7 rfl ?_
  refine s_VV (pc := 8) mX6_putNumber (ci := 6) (a := b0) (As := [.int l1]) dX6_putLimit_8 lk_X6_28 in_X6_putNumber mo_X6_putNumber ⟨by decide, rfl⟩ ⟨by decide, by decide⟩ (Nat.le_of_ble_eq_true rfl) k_b0 (mSV_mono K0 (fun y_2 K0 => ?_))
  refine r_aload_n (pc := 11) dX6_putLimit_11 rfl ?_
  refine r_iload_n (pc := 12) dX6_putLimit_12 rfl ?_
  refine s_VV (pc := 13) mX6_putNumber (ci := 6) (a := b0) (As := [.int l2]) dX6_putLimit_13 lk_X6_28 in_X6_putNumber mo_X6_putNumber ⟨by decide, rfl⟩ ⟨by decide, by decide⟩ (Nat.le_of_ble_eq_true rfl) k_b0 (mSV_mono K0 (fun y_3 K0 => ?_))
  refine r_aload_n (pc := 16) dX6_putLimit_16 rfl ?_
  refine r_ldcS (pc := 17) (j := 3) dX6_putLimit_17 rfl ?_
  refine s_VV (pc := 19) mX6_putWord (ci := 6) (a := b0) (As := [.ref (mSB + 3)]) dX6_putLimit_19 lk_X6_21 in_X6_putWord mo_X6_putWord ⟨by decide, rfl⟩ ⟨by decide, by decide⟩ (Nat.le_of_ble_eq_true rfl) k_b0 (mSV_mono K0 (fun y_4 K0 => ?_))
  refine r_aload_n (pc := 22) dX6_putLimit_22 rfl ?_
  refine r_iload_n (pc := 23) dX6_putLimit_23 rfl ?_
  refine s_VV (pc := 24) mX6_putNumber (ci := 6) (a := b0) (As := [.int l3]) dX6_putLimit_24 lk_X6_28 in_X6_putNumber mo_X6_putNumber ⟨by decide, rfl⟩ ⟨by decide, by decide⟩ (Nat.le_of_ble_eq_true rfl) k_b0 (mSV_mono K0 (fun y_5 K0 => ?_))
  refine r_aload_n (pc := 27) dX6_putLimit_27 rfl ?_
  refine r_bipush (pc := 28) (v := 59) dX6_putLimit_28 (by decide) ?_
  refine s_VV (pc := 30) mX6_putSign (ci := 6) (a := b0) (As := [.int 59]) dX6_putLimit_30 lk_X6_32 in_X6_putSign mo_X6_putSign ⟨by decide, rfl⟩ ⟨by decide, by decide⟩ (Nat.le_of_ble_eq_true rfl) k_b0 (mSV_mono K0 (fun y_6 K0 => ?_))
  exact s_ret rfl dX6_putLimit_33 K0
section
theorem sp_X6_putLimit {x : Cn} {Q : Cn → Prop} {l : List Nat} {B h a b : Nat} (hh : h < 100) (ha : a < 100) (hb : b < 100) (c : gr x 175 0 = some 176) (h0 : bl l = []) (w : WR x l B) (hB : B + 19 ≤ 2400) (k : ∀ y, WFr x y → WR y (l ++ limP h a b) (B + 19) → Q y) : mSV mX6_putLimit [.ref 175, .int (nI h), .int (nI a), .int (nI b)] KW x Q := by
  have cg : ∀ y : Cn, WFr x y → gr y 175 0 = some 176 := fun y fy => by unfold gr; rw [fy.1]; exact c
  refine v_X6_putLimit_0 k175 (sp_X6_putWord (j := 2) (m := 5) (mSq_at (by decide)) (by decide) c w (by omega) (fun y1 f1 w1 => ?_))
  rw [h0, List.append_nil] at w1
  refine sp_X6_putNumber hh (cg y1 f1) w1 (by omega) (fun y2 f2 w2 => ?_)
  rw [bl_wd _ (by decide) (by decide) (by decide)] at w2
  refine sp_X6_putNumber ha (cg y2 (f1.tr f2)) w2 (by omega) (fun y3 f3 w3 => ?_)
  rw [bl_num _ hh] at w3
  refine sp_X6_putWord (j := 3) (m := 2) (mSq_at (by decide)) (by decide) (cg y3 (f1.tr (f2.tr f3))) w3 (by omega) (fun y4 f4 w4 => ?_)
  rw [bl_num _ ha] at w4
  refine sp_X6_putNumber hb (cg y4 (f1.tr (f2.tr (f3.tr f4)))) w4 (by omega) (fun y5 f5 w5 => ?_)
  rw [bl_wd _ (by decide) (by decide) (by decide)] at w5
  refine sp_X6_putSign (n := 59) (by decide) (cg y5 (f1.tr (f2.tr (f3.tr (f4.tr f5))))) w5 (by omega) (fun y6 f6 w6 => k y6 (f1.tr (f2.tr (f3.tr (f4.tr (f5.tr f6))))) ?_)
  have e : l ++ wq (mSq 2) ++ [32] ++ numL h ++ [32] ++ numL a ++ [32] ++ wq (mSq 3) ++ [32] ++ numL b ++ [59] = l ++ limP h a b := by
    simp only [limP, wd_28, wd_29, List.append_assoc]
  rw [e] at w6
  exact w6.le (by omega)
theorem com_c {x : Cn} {Q : Cn → Prop} {l : List Nat} {B cr v d h f t j m : Nat} {way : Int32} (a0 a1 a2 a3 a5 a6 : Cn → Int32) (e0 : ∀ y, WFr x y → a0 y = nI cr) (e1 : ∀ y, WFr x y → a1 y = nI d) (e2 : ∀ y, WFr x y → a2 y = nI h) (e3 : ∀ y, WFr x y → a3 y = way) (e5 : ∀ y, WFr x y → a5 y = nI f) (e6 : ∀ y, WFr x y → a6 y = nI t) (hc : cr < 8) (hv0 : 0 < v) (hv1 : v < 387420489) (hv : ∀ i, i < 6 → gi x 57 (6 * cr + i) = nI (dg v i)) (hd : d < 7) (hh : h < 100) (hf : f < 100) (ht : t < 100) (hj : j < 11) (hj0 : j ≠ 0) (hj6 : j ≠ 6) (hm : (mSq j).2.2.2.length ≤ m) (c : gr x 175 0 = some 176) (c2 : gr x 56 1 = some 57) (h0 : bl l = []) (w : WR x l B) (hB : B + 26 + m ≤ 2400) (k : ∀ y, WFr x y → WR y (l ++ comP (wd j ++ [32]) v d h way f t) (B + 26 + m) → bl (l ++ comP (wd j ++ [32]) v d h way f t) = [32] → Q y) : mSV mX6_putWord [.ref 175, .ref (mSB + j)] KW x (fun y_1 => mSV mX6_putName [.ref 175, .ref 56, .int (a0 y_1)] KW y_1 (fun y_2 => mSV mX6_putPlace [.ref 175, .int (a1 y_2), .int (a2 y_2), .int (a3 y_2)] KW y_2 (fun y_3 => mSV mX6_putSpan [.ref 175, .int (a5 y_3), .int (a6 y_3)] KW y_3 Q))) := by
  have cg : ∀ y : Cn, WFr x y → gr y 175 0 = some 176 := fun y fy => by unfold gr; rw [fy.1]; exact c
  refine sp_X6_putWord (m := m) (mSq_at (by omega)) hm c w (by omega) (fun y1 f1 w1 => ?_)
  rw [h0, List.append_nil] at w1
  rw [e0 y1 f1]
  refine sp_X6_putName hc (v := v) (fun i hi => by rw [f1.2 57 _ (by decide) (by omega)]; exact hv i hi) (cg y1 f1) (by unfold gr; rw [f1.1]; exact c2) w1 (by omega) (fun y2 f2 w2 => ?_)
  rw [bl_wd _ hj hj0 hj6] at w2
  rw [e1 y2 (f1.tr f2), e2 y2 (f1.tr f2), e3 y2 (f1.tr f2)]
  refine sp_X6_putPlace hd hh (cg y2 (f1.tr f2)) w2 (by omega) (fun y3 f3 w3 => ?_)
  rw [bl_nm _ hv0 hv1] at w3
  rw [e5 y3 (f1.tr (f2.tr f3)), e6 y3 (f1.tr (f2.tr f3))]
  refine sp_X6_putSpan hf ht (cg y3 (f1.tr (f2.tr f3))) w3 (by omega) (fun y4 f4 w4 => ?_)
  have eb : ∀ X : List Nat, bl (X ++ (if way = 0 then wd 3 else wd 7)) = [32] := fun X => by
    by_cases cw : way = 0
    · rw [if_pos cw]; exact bl_wd _ (by decide) (by decide) (by decide)
    · rw [if_neg cw]; exact bl_wd _ (by decide) (by decide) (by decide)
  rw [eb] at w4
  have e : l ++ wq (mSq j) ++ [32] ++ nmL v ++ [32] ++ dayL d ++ [32] ++ numL h ++ [32] ++ (if way = 0 then wd 3 else wd 7) ++ [32] ++ numL f ++ [45] ++ numL t = l ++ comP (wd j ++ [32]) v d h way f t := by
    unfold comP
    by_cases cw : way = 0
    · rw [if_pos cw, if_pos cw, wd_29]; simp only [List.append_assoc]
    · rw [if_neg cw, if_neg cw, wd_32]; simp only [List.append_assoc]
  have eb2 : bl (l ++ comP (wd j ++ [32]) v d h way f t) = [32] := by
    rw [← e]; exact bl_num _ ht
  rw [e] at w4
  exact k y4 (f1.tr (f2.tr (f3.tr f4))) (w4.le (by omega)) eb2
end
set_option maxHeartbeats 2000000 in
theorem v_X6_putSeries_0 {K : Sh} {x : Cn} {Q : Cn → Prop} {b0 : Nat} {b1 : Nat} {b2 : Nat}  (k_b0 : kk K b0 = some (6, 0)) (k_b1 : kk K b1 = some (5, 0)) (K0 : mSV mX6_putWord [.ref b0, .ref (mSB + 5)] K x (fun y_1 => mSV mX6_putName [.ref b0, .ref b2, .int (gi y_1 b1 0)] K y_1 (fun y_2 => mSV mX6_putPlace [.ref b0, .int (gi y_2 b1 1), .int (gi y_2 b1 2), .int (gi y_2 b1 3)] K y_2 (fun y_3 => mSV mX6_putSpan [.ref b0, .int (gi y_3 b1 5), .int (gi y_3 b1 6)] K y_3 (fun y_4 => ((gi y_4 b1 4) = 0 → (mSV mX6_putSign [.ref b0, .int 59] K y_4 (fun y_6 => Q y_6))) ∧ (¬ (gi y_4 b1 4) = 0 → (mSV mX6_putWord [.ref b0, .ref (mSB + 8)] K y_4 (fun y_7 => mSV mX6_putSign [.ref b0, .int 59] K y_7 (fun y_8 => Q y_8))))))))) : mSV mX6_putSeries [.ref b0, .ref b1, .ref b2] K x Q := by
  refine s_V (by decide) (by simp [Value.category]) (Nat.le_of_ble_eq_true rfl) ?_
  show mGM mX6_putSeries 0 [some (.ref b0), some (.ref b1), some (.ref b2)] [] (hp K x) (PV K Q)
  refine r_aload_n (pc := 0) dX6_putSeries_0 rfl ?_
  refine r_ldcS (pc := 1) (j := 5) dX6_putSeries_1 rfl ?_
  refine s_VV (pc := 3) mX6_putWord (ci := 6) (a := b0) (As := [.ref (mSB + 5)]) dX6_putSeries_3 lk_X6_21 in_X6_putWord mo_X6_putWord ⟨by decide, rfl⟩ ⟨by decide, by decide⟩ (Nat.le_of_ble_eq_true rfl) k_b0 (mSV_mono K0 (fun y_1 K0 => ?_))
  refine r_aload_n (pc := 6) dX6_putSeries_6 rfl ?_
  refine r_aload_n (pc := 7) dX6_putSeries_7 rfl ?_
  refine r_aload_n (pc := 8) dX6_putSeries_8 rfl ?_
  refine s_getI (pc := 9) dX6_putSeries_9 fl_X6_86 rfl k_b1 ?_
  refine s_VV (pc := 12) mX6_putName (ci := 6) (a := b0) (As := [.ref b2, .int (gi y_1 b1 0)]) dX6_putSeries_12 lk_X6_54 in_X6_putName mo_X6_putName ⟨by decide, rfl⟩ ⟨by decide, by decide⟩ (Nat.le_of_ble_eq_true rfl) k_b0 (mSV_mono K0 (fun y_2 K0 => ?_))
  refine r_aload_n (pc := 15) dX6_putSeries_15 rfl ?_
  refine r_aload_n (pc := 16) dX6_putSeries_16 rfl ?_
  refine s_getI (pc := 17) dX6_putSeries_17 fl_X6_90 rfl k_b1 ?_
  refine r_aload_n (pc := 20) dX6_putSeries_20 rfl ?_
  refine s_getI (pc := 21) dX6_putSeries_21 fl_X6_93 rfl k_b1 ?_
  refine r_aload_n (pc := 24) dX6_putSeries_24 rfl ?_
  refine s_getI (pc := 25) dX6_putSeries_25 fl_X6_96 rfl k_b1 ?_
  refine s_VV (pc := 28) mX6_putPlace (ci := 6) (a := b0) (As := [.int (gi y_2 b1 1), .int (gi y_2 b1 2), .int (gi y_2 b1 3)]) dX6_putSeries_28 lk_X6_99 in_X6_putPlace mo_X6_putPlace ⟨by decide, rfl⟩ ⟨by decide, by decide⟩ (Nat.le_of_ble_eq_true rfl) k_b0 (mSV_mono K0 (fun y_3 K0 => ?_))
  refine r_aload_n (pc := 31) dX6_putSeries_31 rfl ?_
  refine r_aload_n (pc := 32) dX6_putSeries_32 rfl ?_
  refine s_getI (pc := 33) dX6_putSeries_33 fl_X6_102 rfl k_b1 ?_
  refine r_aload_n (pc := 36) dX6_putSeries_36 rfl ?_
  refine s_getI (pc := 37) dX6_putSeries_37 fl_X6_105 rfl k_b1 ?_
  refine s_VV (pc := 40) mX6_putSpan (ci := 6) (a := b0) (As := [.int (gi y_3 b1 5), .int (gi y_3 b1 6)]) dX6_putSeries_40 lk_X6_108 in_X6_putSpan mo_X6_putSpan ⟨by decide, rfl⟩ ⟨by decide, by decide⟩ (Nat.le_of_ble_eq_true rfl) k_b0 (mSV_mono K0 (fun y_4 K0 => ?_))
  refine r_aload_n (pc := 43) dX6_putSeries_43 rfl ?_
  refine s_getI (pc := 44) dX6_putSeries_44 fl_X6_112 rfl k_b1 ?_
  refine r_if_eq (pc := 47) (tgt := 56) dX6_putSeries_47 (by decide) (fun q => ?_) (fun q => ?_)
  · have K0 := K0.1 q
    refine r_aload_n (pc := 56) dX6_putSeries_56 rfl ?_
    refine r_bipush (pc := 57) (v := 59) dX6_putSeries_57 (by decide) ?_
    refine s_VV (pc := 59) mX6_putSign (ci := 6) (a := b0) (As := [.int 59]) dX6_putSeries_59 lk_X6_32 in_X6_putSign mo_X6_putSign ⟨by decide, rfl⟩ ⟨by decide, by decide⟩ (Nat.le_of_ble_eq_true rfl) k_b0 (mSV_mono K0 (fun y_6 K0 => ?_))
    exact s_ret rfl dX6_putSeries_62 K0
  · have K0 := K0.2 q
    refine r_aload_n (pc := 50) dX6_putSeries_50 rfl ?_
    refine r_ldcS (pc := 51) (j := 8) dX6_putSeries_51 rfl ?_
    refine s_VV (pc := 53) mX6_putWord (ci := 6) (a := b0) (As := [.ref (mSB + 8)]) dX6_putSeries_53 lk_X6_21 in_X6_putWord mo_X6_putWord ⟨by decide, rfl⟩ ⟨by decide, by decide⟩ (Nat.le_of_ble_eq_true rfl) k_b0 (mSV_mono K0 (fun y_7 K0 => ?_))
    refine r_aload_n (pc := 56) dX6_putSeries_56 rfl ?_
    refine r_bipush (pc := 57) (v := 59) dX6_putSeries_57 (by decide) ?_
    refine s_VV (pc := 59) mX6_putSign (ci := 6) (a := b0) (As := [.int 59]) dX6_putSeries_59 lk_X6_32 in_X6_putSign mo_X6_putSign ⟨by decide, rfl⟩ ⟨by decide, by decide⟩ (Nat.le_of_ble_eq_true rfl) k_b0 (mSV_mono K0 (fun y_8 K0 => ?_))
    exact s_ret rfl dX6_putSeries_62 K0
section
theorem sp_X6_putSeries {x : Cn} {Q : Cn → Prop} {l : List Nat} {B cr v d h f t p : Nat} {way nw : Int32} (hp : 2 ≤ p ∧ p < 56) (kp : kk KW p = some (5, 0)) (p0 : gi x p 0 = nI cr) (p1 : gi x p 1 = nI d) (p2 : gi x p 2 = nI h) (p3 : gi x p 3 = way) (p4 : gi x p 4 = nw) (p5 : gi x p 5 = nI f) (p6 : gi x p 6 = nI t) (hn : nw = 0 ∨ nw = 1) (hc : cr < 8) (hv0 : 0 < v) (hv1 : v < 387420489) (hv : ∀ i, i < 6 → gi x 57 (6 * cr + i) = nI (dg v i)) (hd : d < 7) (hh : h < 100) (hf : f < 100) (ht : t < 100) (c : gr x 175 0 = some 176) (c2 : gr x 56 1 = some 57) (h0 : bl l = []) (w : WR x l B) (hB : B + 37 ≤ 2400) (k : ∀ y, WFr x y → WR y (l ++ serP v d h way f t nw) (B + 37) → Q y) : mSV mX6_putSeries [.ref 175, .ref p, .ref 56] KW x Q := by
  have cg : ∀ y : Cn, WFr x y → gr y 175 0 = some 176 := fun y fy => by unfold gr; rw [fy.1]; exact c
  have pg : ∀ (y : Cn) i, WFr x y → gi y p i = gi x p i := fun y i fy => fy.2 p i (by omega) (by omega)
  refine v_X6_putSeries_0 k175 kp (com_c (x := x) (l := l) (B := B) (cr := cr) (v := v) (d := d) (h := h) (f := f) (t := t) (j := 5) (m := 6) (way := way) (fun y => gi y p 0) (fun y => gi y p 1) (fun y => gi y p 2) (fun y => gi y p 3) (fun y => gi y p 5) (fun y => gi y p 6) (fun y fy => (pg y 0 fy).trans p0) (fun y fy => (pg y 1 fy).trans p1) (fun y fy => (pg y 2 fy).trans p2) (fun y fy => (pg y 3 fy).trans p3) (fun y fy => (pg y 5 fy).trans p5) (fun y fy => (pg y 6 fy).trans p6) hc hv0 hv1 hv hd hh hf ht (by decide) (by decide) (by decide) (by decide) c c2 h0 w (by omega) (fun y fy wy hb => ?_))
  rw [pg y 4 fy, p4]
  refine ⟨fun z => sp_X6_putSign (n := 59) (by decide) (cg y fy) wy (by omega) (fun u fu wu => k u (fy.tr fu) ?_), fun z => sp_X6_putWord (j := 8) (m := 3) (mSq_at (by decide)) (by decide) (cg y fy) wy (by omega) (fun u fu wu => sp_X6_putSign (n := 59) (by decide) (cg u (fy.tr fu)) wu (by omega) (fun v' fv wv => k v' (fy.tr (fu.tr fv)) ?_))⟩
  · unfold serP
    rw [if_neg (by rw [z]; decide), wd_34, wd_31, ← List.append_assoc]
    exact wu.le (by omega)
  · unfold serP
    rw [if_pos (hn.resolve_left z), wd_33, wd_31]
    rw [hb] at wv
    have e : l ++ (comP (wd 5 ++ [32]) v d h way f t ++ ([32] ++ wd 8 ++ [59])) = l ++ comP (wd 5 ++ [32]) v d h way f t ++ [32] ++ wq (mSq 8) ++ [59] := by simp only [List.append_assoc]
    rw [e]
    exact wv.le (by omega)
end
set_option maxHeartbeats 2000000 in
theorem v_X6_putAsk_0 {K : Sh} {x : Cn} {Q : Cn → Prop} {b0 : Nat} {b1 : Nat} {b2 : Nat}  (k_b0 : kk K b0 = some (6, 0)) (k_b1 : kk K b1 = some (0, 0)) (K0 : mSV mX6_putWord [.ref b0, .ref (mSB + 9)] K x (fun y_1 => mSV mX6_putName [.ref b0, .ref b2, .int (gi y_1 b1 0)] K y_1 (fun y_2 => mSV mX6_putPlace [.ref b0, .int (gi y_2 b1 1), .int (gi y_2 b1 2), .int (gi y_2 b1 3)] K y_2 (fun y_3 => mSV mX6_putSpan [.ref b0, .int (gi y_3 b1 4), .int (gi y_3 b1 5)] K y_3 (fun y_4 => ((gi y_4 b1 6) ≤ 0 → (mSV mX6_putSign [.ref b0, .int 59] K y_4 (fun y_6 => Q y_6))) ∧ (¬ (gi y_4 b1 6) ≤ 0 → (mSV mX6_putWord [.ref b0, .ref (mSB + 10)] K y_4 (fun y_7 => mSV mX6_putNumber [.ref b0, .int (gi y_7 b1 6)] K y_7 (fun y_8 => mSV mX6_putSign [.ref b0, .int 59] K y_8 (fun y_9 => Q y_9)))))))))) : mSV mX6_putAsk [.ref b0, .ref b1, .ref b2] K x Q := by
  refine s_V (by decide) (by simp [Value.category]) (Nat.le_of_ble_eq_true rfl) ?_
  show mGM mX6_putAsk 0 [some (.ref b0), some (.ref b1), some (.ref b2)] [] (hp K x) (PV K Q)
  refine r_aload_n (pc := 0) dX6_putAsk_0 rfl ?_
  refine r_ldcS (pc := 1) (j := 9) dX6_putAsk_1 rfl ?_
  refine s_VV (pc := 3) mX6_putWord (ci := 6) (a := b0) (As := [.ref (mSB + 9)]) dX6_putAsk_3 lk_X6_21 in_X6_putWord mo_X6_putWord ⟨by decide, rfl⟩ ⟨by decide, by decide⟩ (Nat.le_of_ble_eq_true rfl) k_b0 (mSV_mono K0 (fun y_1 K0 => ?_))
  refine r_aload_n (pc := 6) dX6_putAsk_6 rfl ?_
  refine r_aload_n (pc := 7) dX6_putAsk_7 rfl ?_
  refine r_aload_n (pc := 8) dX6_putAsk_8 rfl ?_
  refine s_getI (pc := 9) dX6_putAsk_9 fl_X6_120 rfl k_b1 ?_
  refine s_VV (pc := 12) mX6_putName (ci := 6) (a := b0) (As := [.ref b2, .int (gi y_1 b1 0)]) dX6_putAsk_12 lk_X6_54 in_X6_putName mo_X6_putName ⟨by decide, rfl⟩ ⟨by decide, by decide⟩ (Nat.le_of_ble_eq_true rfl) k_b0 (mSV_mono K0 (fun y_2 K0 => ?_))
  refine r_aload_n (pc := 15) dX6_putAsk_15 rfl ?_
  refine r_aload_n (pc := 16) dX6_putAsk_16 rfl ?_
  refine s_getI (pc := 17) dX6_putAsk_17 fl_X6_123 rfl k_b1 ?_
  refine r_aload_n (pc := 20) dX6_putAsk_20 rfl ?_
  refine s_getI (pc := 21) dX6_putAsk_21 fl_X6_124 rfl k_b1 ?_
  refine r_aload_n (pc := 24) dX6_putAsk_24 rfl ?_
  refine s_getI (pc := 25) dX6_putAsk_25 fl_X6_125 rfl k_b1 ?_
  refine s_VV (pc := 28) mX6_putPlace (ci := 6) (a := b0) (As := [.int (gi y_2 b1 1), .int (gi y_2 b1 2), .int (gi y_2 b1 3)]) dX6_putAsk_28 lk_X6_99 in_X6_putPlace mo_X6_putPlace ⟨by decide, rfl⟩ ⟨by decide, by decide⟩ (Nat.le_of_ble_eq_true rfl) k_b0 (mSV_mono K0 (fun y_3 K0 => ?_))
  refine r_aload_n (pc := 31) dX6_putAsk_31 rfl ?_
  refine r_aload_n (pc := 32) dX6_putAsk_32 rfl ?_
  refine s_getI (pc := 33) dX6_putAsk_33 fl_X6_126 rfl k_b1 ?_
  refine r_aload_n (pc := 36) dX6_putAsk_36 rfl ?_
  refine s_getI (pc := 37) dX6_putAsk_37 fl_X6_127 rfl k_b1 ?_
  refine s_VV (pc := 40) mX6_putSpan (ci := 6) (a := b0) (As := [.int (gi y_3 b1 4), .int (gi y_3 b1 5)]) dX6_putAsk_40 lk_X6_108 in_X6_putSpan mo_X6_putSpan ⟨by decide, rfl⟩ ⟨by decide, by decide⟩ (Nat.le_of_ble_eq_true rfl) k_b0 (mSV_mono K0 (fun y_4 K0 => ?_))
  refine r_aload_n (pc := 43) dX6_putAsk_43 rfl ?_
  refine s_getI (pc := 44) dX6_putAsk_44 fl_X6_128 rfl k_b1 ?_
  refine r_if_le (pc := 47) (tgt := 64) dX6_putAsk_47 (by decide) (fun q => ?_) (fun q => ?_)
  · have K0 := K0.1 q
    refine r_aload_n (pc := 64) dX6_putAsk_64 rfl ?_
    refine r_bipush (pc := 65) (v := 59) dX6_putAsk_65 (by decide) ?_
    refine s_VV (pc := 67) mX6_putSign (ci := 6) (a := b0) (As := [.int 59]) dX6_putAsk_67 lk_X6_32 in_X6_putSign mo_X6_putSign ⟨by decide, rfl⟩ ⟨by decide, by decide⟩ (Nat.le_of_ble_eq_true rfl) k_b0 (mSV_mono K0 (fun y_6 K0 => ?_))
    exact s_ret rfl dX6_putAsk_70 K0
  · have K0 := K0.2 q
    refine r_aload_n (pc := 50) dX6_putAsk_50 rfl ?_
    refine r_ldcS (pc := 51) (j := 10) dX6_putAsk_51 rfl ?_
    refine s_VV (pc := 53) mX6_putWord (ci := 6) (a := b0) (As := [.ref (mSB + 10)]) dX6_putAsk_53 lk_X6_21 in_X6_putWord mo_X6_putWord ⟨by decide, rfl⟩ ⟨by decide, by decide⟩ (Nat.le_of_ble_eq_true rfl) k_b0 (mSV_mono K0 (fun y_7 K0 => ?_))
    refine r_aload_n (pc := 56) dX6_putAsk_56 rfl ?_
    refine r_aload_n (pc := 57) dX6_putAsk_57 rfl ?_
    refine s_getI (pc := 58) dX6_putAsk_58 fl_X6_128 rfl k_b1 ?_
    refine s_VV (pc := 61) mX6_putNumber (ci := 6) (a := b0) (As := [.int (gi y_7 b1 6)]) dX6_putAsk_61 lk_X6_28 in_X6_putNumber mo_X6_putNumber ⟨by decide, rfl⟩ ⟨by decide, by decide⟩ (Nat.le_of_ble_eq_true rfl) k_b0 (mSV_mono K0 (fun y_8 K0 => ?_))
    refine r_aload_n (pc := 64) dX6_putAsk_64 rfl ?_
    refine r_bipush (pc := 65) (v := 59) dX6_putAsk_65 (by decide) ?_
    refine s_VV (pc := 67) mX6_putSign (ci := 6) (a := b0) (As := [.int 59]) dX6_putAsk_67 lk_X6_32 in_X6_putSign mo_X6_putSign ⟨by decide, rfl⟩ ⟨by decide, by decide⟩ (Nat.le_of_ble_eq_true rfl) k_b0 (mSV_mono K0 (fun y_9 K0 => ?_))
    exact s_ret rfl dX6_putAsk_70 K0
section
theorem sp_X6_putAsk {x : Cn} {Q : Cn → Prop} {l : List Nat} {B cr v d h f t b p : Nat} {way : Int32} (hp : 2 ≤ p ∧ p < 56) (kp : kk KW p = some (0, 0)) (p0 : gi x p 0 = nI cr) (p1 : gi x p 1 = nI d) (p2 : gi x p 2 = nI h) (p3 : gi x p 3 = way) (p4 : gi x p 4 = nI f) (p5 : gi x p 5 = nI t) (p6 : gi x p 6 = nI b) (hb9 : b ≤ 9) (hc : cr < 8) (hv0 : 0 < v) (hv1 : v < 387420489) (hv : ∀ i, i < 6 → gi x 57 (6 * cr + i) = nI (dg v i)) (hd : d < 7) (hh : h < 100) (hf : f < 100) (ht : t < 100) (c : gr x 175 0 = some 176) (c2 : gr x 56 1 = some 57) (h0 : bl l = []) (w : WR x l B) (hB : B + 36 ≤ 2400) (k : ∀ y, WFr x y → WR y (l ++ askP v d h way f t b) (B + 36) → Q y) : mSV mX6_putAsk [.ref 175, .ref p, .ref 56] KW x Q := by
  have cg : ∀ y : Cn, WFr x y → gr y 175 0 = some 176 := fun y fy => by unfold gr; rw [fy.1]; exact c
  have pg : ∀ (y : Cn) i, WFr x y → gi y p i = gi x p i := fun y i fy => fy.2 p i (by omega) (by omega)
  refine v_X6_putAsk_0 k175 kp (com_c (x := x) (l := l) (B := B) (cr := cr) (v := v) (d := d) (h := h) (f := f) (t := t) (j := 9) (m := 3) (way := way) (fun y => gi y p 0) (fun y => gi y p 1) (fun y => gi y p 2) (fun y => gi y p 3) (fun y => gi y p 4) (fun y => gi y p 5) (fun y fy => (pg y 0 fy).trans p0) (fun y fy => (pg y 1 fy).trans p1) (fun y fy => (pg y 2 fy).trans p2) (fun y fy => (pg y 3 fy).trans p3) (fun y fy => (pg y 4 fy).trans p4) (fun y fy => (pg y 5 fy).trans p5) hc hv0 hv1 hv hd hh hf ht (by decide) (by decide) (by decide) (by decide) c c2 h0 w (by omega) (fun y fy wy hb => ?_))
  rw [pg y 6 fy, p6, show nI b ≤ 0 ↔ b ≤ 0 from nI_leI (b := 0) (by omega) (by decide)]
  refine ⟨fun z => sp_X6_putSign (n := 59) (by decide) (cg y fy) wy (by omega) (fun u fu wu => k u (fy.tr fu) ?_), fun z => sp_X6_putWord (j := 10) (m := 2) (mSq_at (by decide)) (by decide) (cg y fy) wy (by omega) (fun u fu wu => ?_)⟩
  · unfold askP
    rw [if_pos (by omega), wd_35, List.append_nil, ← List.append_assoc]
    exact wu.le (by omega)
  · rw [pg u 6 (fy.tr fu), p6]
    refine sp_X6_putNumber (n := b) (by omega) (cg u (fy.tr fu)) wu (by omega) (fun u2 f2 w2 => sp_X6_putSign (n := 59) (by decide) (cg u2 (fy.tr (fu.tr f2))) w2 (by omega) (fun v' fv wv => k v' (fy.tr (fu.tr (f2.tr fv))) ?_))
    unfold askP
    rw [if_neg (by omega), wd_36, wd_35]
    rw [hb, bl_wd _ (by decide) (by decide) (by decide)] at wv
    have e : l ++ (comP (wd 9 ++ [32]) v d h way f t ++ ([32] ++ wd 10 ++ [32] ++ numL b) ++ [59]) = l ++ comP (wd 9 ++ [32]) v d h way f t ++ [32] ++ wq (mSq 10) ++ [32] ++ numL b ++ [59] := by simp only [List.append_assoc]
    rw [e]
    exact wv.le (by omega)
/-- the whole told -/
def nmv (T : TT) (c : Nat) : Nat := (T (54 + c)).toNatClampNeg
def limT (T : TT) (h : Nat) : List Nat := if T (6 + 2 * h) = 4 ∧ T (7 + 2 * h) = 4 then [] else limP h (T (6 + 2 * h)).toNatClampNeg (T (7 + 2 * h)).toNatClampNeg
def serT (T : TT) (s : Nat) : List Nat := serP (nmv T (so T s 0).toNatClampNeg) (so T s 1).toNatClampNeg (so T s 2).toNatClampNeg (so T s 3) (so T s 5).toNatClampNeg (so T s 6).toNatClampNeg (so T s 4)
def askS (T : TT) (a : Nat) : List Nat := askP (nmv T (ao T a 0).toNatClampNeg) (ao T a 1).toNatClampNeg (ao T a 2).toNatClampNeg (ao T a 3) (ao T a 4).toNatClampNeg (ao T a 5).toNatClampNeg (ao T a 6).toNatClampNeg
def tl0 (W : Nat) : List Nat := wd 27 ++ numL W ++ [59]
def tl1 (T : TT) (W : Nat) : List Nat := accT (fun h l => l ++ limT T h) 24 (tl0 W)
def tl2 (T : TT) (W C : Nat) : List Nat := accT (fun c l => l ++ carP (nmv T c)) C (tl1 T W)
def tl3 (T : TT) (W C S : Nat) : List Nat := accT (fun s l => l ++ serT T s) S (tl2 T W C)
def tl4 (T : TT) (W C S A : Nat) : List Nat := accT (fun a l => l ++ askS T a) A (tl3 T W C S)
end
set_option maxHeartbeats 2000000 in
theorem v_X6_write_0 {K : Sh} {x : Cn} {Q : Int32 → Cn → Prop} {b0 : Nat} {b1 : Nat} {b2 : Nat}  (k_b0 : kk K b0 = some (6, 0)) (k_b1 : kk K b1 = some (4, 0)) (K0 : mSV mX6_putWord [.ref b0, .ref (mSB + 1)] K (ui x b0 1 0) (fun y_1 => mSV mX6_putNumber [.ref b0, .int (gi y_1 b1 0)] K y_1 (fun y_2 => mSV mX6_putSign [.ref b0, .int 59] K y_2 (fun y_3 => GI mX6_write 27 [some (.ref b0), some (.ref b1), some (.ref b2), some (.int 0)] [] K y_3 Q)))) : mSI mX6_write [.ref b0, .ref b1, .ref b2] K x Q := by
  refine s_I (by decide) (by simp [Value.category]) (Nat.le_of_ble_eq_true rfl) ?_
  show mGM mX6_write 0 [some (.ref b0), some (.ref b1), some (.ref b2), none] [] (hp K x) (PI K Q)
  refine r_aload_n (pc := 0) dX6_write_0 rfl ?_
  refine r_iconst (pc := 1) (v := 0) dX6_write_1 (by decide) ?_
  refine s_putI (pc := 2) dX6_write_2 fl_X6_15 rfl rfl k_b0 ?_
  refine r_aload_n (pc := 5) dX6_write_5 rfl ?_
  refine r_ldcS (pc := 6) (j := 1) dX6_write_6 rfl ?_
  refine s_VV (pc := 8) mX6_putWord (ci := 6) (a := b0) (As := [.ref (mSB + 1)]) dX6_write_8 lk_X6_21 in_X6_putWord mo_X6_putWord ⟨by decide, rfl⟩ ⟨by decide, by decide⟩ (Nat.le_of_ble_eq_true rfl) k_b0 (mSV_mono K0 (fun y_1 K0 => ?_))
  refine r_aload_n (pc := 11) dX6_write_11 rfl ?_
  refine r_aload_n (pc := 12) dX6_write_12 rfl ?_
  refine s_getI (pc := 13) dX6_write_13 fl_X6_25 rfl k_b1 ?_
  refine s_VV (pc := 16) mX6_putNumber (ci := 6) (a := b0) (As := [.int (gi y_1 b1 0)]) dX6_write_16 lk_X6_28 in_X6_putNumber mo_X6_putNumber ⟨by decide, rfl⟩ ⟨by decide, by decide⟩ (Nat.le_of_ble_eq_true rfl) k_b0 (mSV_mono K0 (fun y_2 K0 => ?_))
  refine r_aload_n (pc := 19) dX6_write_19 rfl ?_
  refine r_bipush (pc := 20) (v := 59) dX6_write_20 (by decide) ?_
  refine s_VV (pc := 22) mX6_putSign (ci := 6) (a := b0) (As := [.int 59]) dX6_write_22 lk_X6_32 in_X6_putSign mo_X6_putSign ⟨by decide, rfl⟩ ⟨by decide, by decide⟩ (Nat.le_of_ble_eq_true rfl) k_b0 (mSV_mono K0 (fun y_3 K0 => ?_))
  refine r_iconst (pc := 25) (v := 0) dX6_write_25 (by decide) ?_
  refine r_istore_n (pc := 26) dX6_write_26 (by decide) ?_
  exact r_le (L' := [some (.ref b0), some (.ref b1), some (.ref b2), some (.int 0)]) ⟨rfl, ⟨rfl, ⟨rfl, ⟨rfl, trivial⟩⟩⟩⟩ K0
set_option maxHeartbeats 2000000 in
theorem v_X6_write_27 {K : Sh} {x : Cn} {Q : Int32 → Cn → Prop} {b0 : Nat} {b1 : Nat} {b2 : Nat} {l3 : Int32} {b1_5 : Nat} {n_b1_5 : Nat} {b1_6 : Nat} {n_b1_6 : Nat} (k_b1 : kk K b1 = some (4, 0)) (g_b1_5 : gr x b1 5 = some b1_5) (k_b1_5 : kk K b1_5 = some (20, n_b1_5)) (g_b1_6 : gr x b1 6 = some b1_6) (k_b1_6 : kk K b1_6 = some (20, n_b1_6)) (k_b0 : kk K b0 = some (6, 0)) (K0 : (24 ≤ l3 → (GI mX6_write 78 [some (.ref b0), some (.ref b1), some (.ref b2), some (.int 0)] [] K x Q)) ∧ (¬ 24 ≤ l3 → (vp_in l3 n_b1_5 ∧ ((¬ (gi x b1_5 (l3 : Int32).toNatClampNeg) = 4 → (vp_in l3 n_b1_6 ∧ (mSV mX6_putLimit [.ref b0, .int l3, .int (gi x b1_5 (l3 : Int32).toNatClampNeg), .int (gi x b1_6 (l3 : Int32).toNatClampNeg)] K x (fun y_5 => GI mX6_write 27 [some (.ref b0), some (.ref b1), some (.ref b2), some (.int (l3 + 1))] [] K y_5 Q)))) ∧ ((gi x b1_5 (l3 : Int32).toNatClampNeg) = 4 → (vp_in l3 n_b1_6 ∧ (((gi x b1_6 (l3 : Int32).toNatClampNeg) = 4 → (GI mX6_write 27 [some (.ref b0), some (.ref b1), some (.ref b2), some (.int (l3 + 1))] [] K x Q)) ∧ (¬ (gi x b1_6 (l3 : Int32).toNatClampNeg) = 4 → (mSV mX6_putLimit [.ref b0, .int l3, .int (gi x b1_5 (l3 : Int32).toNatClampNeg), .int (gi x b1_6 (l3 : Int32).toNatClampNeg)] K x (fun y_8 => GI mX6_write 27 [some (.ref b0), some (.ref b1), some (.ref b2), some (.int (l3 + 1))] [] K y_8 Q)))))))))) : GI mX6_write 27 [some (.ref b0), some (.ref b1), some (.ref b2), some (.int l3)] [] K x Q := by
  show mGM mX6_write 27 [some (.ref b0), some (.ref b1), some (.ref b2), some (.int l3)] [] (hp K x) (PI K Q)
  refine r_iload_n (pc := 27) dX6_write_27 rfl ?_
  refine r_bipush (pc := 28) (v := 24) dX6_write_28 (by decide) ?_
  refine r_icmp_ge (pc := 30) (tgt := 76) dX6_write_30 (by decide) (fun q => ?_) (fun q => ?_)
  · have K0 := K0.1 q
    refine r_iconst (pc := 76) (v := 0) dX6_write_76 (by decide) ?_
    refine r_istore_n (pc := 77) dX6_write_77 (by decide) ?_
    exact r_le (L' := [some (.ref b0), some (.ref b1), some (.ref b2), some (.int 0)]) ⟨rfl, ⟨rfl, ⟨rfl, ⟨rfl, trivial⟩⟩⟩⟩ K0
  · have K0 := K0.2 q
    refine r_aload_n (pc := 33) dX6_write_33 rfl ?_
    refine s_getR (pc := 34) dX6_write_34 fl_X6_36 rfl k_b1 g_b1_5 ?_
    refine r_iload_n (pc := 37) dX6_write_37 rfl ?_
    obtain ⟨i_2, K0⟩ := K0
    refine s_iald (pc := 38) dX6_write_38 k_b1_5 i_2 ?_
    refine r_iconst (pc := 39) (v := 4) dX6_write_39 (by decide) ?_
    refine r_icmp_ne (pc := 40) (tgt := 53) dX6_write_40 (by decide) (fun q => ?_) (fun q => ?_)
    · have K0 := K0.1 q
      refine r_aload_n (pc := 53) dX6_write_53 rfl ?_
      refine r_iload_n (pc := 54) dX6_write_54 rfl ?_
      refine r_aload_n (pc := 55) dX6_write_55 rfl ?_
      refine s_getR (pc := 56) dX6_write_56 fl_X6_36 rfl k_b1 g_b1_5 ?_
      refine r_iload_n (pc := 59) dX6_write_59 rfl ?_
      refine s_iald (pc := 60) dX6_write_60 k_b1_5 i_2 ?_
      refine r_aload_n (pc := 61) dX6_write_61 rfl ?_
      refine s_getR (pc := 62) dX6_write_62 fl_X6_40 rfl k_b1 g_b1_6 ?_
      refine r_iload_n (pc := 65) dX6_write_65 rfl ?_
      obtain ⟨i_4, K0⟩ := K0
      refine s_iald (pc := 66) dX6_write_66 k_b1_6 i_4 ?_
      refine s_VV (pc := 67) mX6_putLimit (ci := 6) (a := b0) (As := [.int l3, .int (gi x b1_5 (l3 : Int32).toNatClampNeg), .int (gi x b1_6 (l3 : Int32).toNatClampNeg)]) dX6_write_67 lk_X6_43 in_X6_putLimit mo_X6_putLimit ⟨by decide, rfl⟩ ⟨by decide, by decide⟩ (Nat.le_of_ble_eq_true rfl) k_b0 (mSV_mono K0 (fun y_5 K0 => ?_))
      refine r_iinc (pc := 70) (v := l3 + 1) dX6_write_70 rfl rfl (by decide) ?_
      refine r_goto (pc := 73) (L := [some (.ref b0), some (.ref b1), some (.ref b2), some (.int (l3 + 1))]) (tgt := 27) dX6_write_73 (by decide) ?_
      exact r_le (L' := [some (.ref b0), some (.ref b1), some (.ref b2), some (.int (l3 + 1))]) ⟨rfl, ⟨rfl, ⟨rfl, ⟨rfl, trivial⟩⟩⟩⟩ K0
    · have K0 := K0.2 q
      refine r_aload_n (pc := 43) dX6_write_43 rfl ?_
      refine s_getR (pc := 44) dX6_write_44 fl_X6_40 rfl k_b1 g_b1_6 ?_
      refine r_iload_n (pc := 47) dX6_write_47 rfl ?_
      obtain ⟨i_6, K0⟩ := K0
      refine s_iald (pc := 48) dX6_write_48 k_b1_6 i_6 ?_
      refine r_iconst (pc := 49) (v := 4) dX6_write_49 (by decide) ?_
      refine r_icmp_eq (pc := 50) (tgt := 70) dX6_write_50 (by decide) (fun q => ?_) (fun q => ?_)
      · have K0 := K0.1 q
        refine r_iinc (pc := 70) (v := l3 + 1) dX6_write_70 rfl rfl (by decide) ?_
        refine r_goto (pc := 73) (L := [some (.ref b0), some (.ref b1), some (.ref b2), some (.int (l3 + 1))]) (tgt := 27) dX6_write_73 (by decide) ?_
        exact r_le (L' := [some (.ref b0), some (.ref b1), some (.ref b2), some (.int (l3 + 1))]) ⟨rfl, ⟨rfl, ⟨rfl, ⟨rfl, trivial⟩⟩⟩⟩ K0
      · have K0 := K0.2 q
        refine r_aload_n (pc := 53) dX6_write_53 rfl ?_
        refine r_iload_n (pc := 54) dX6_write_54 rfl ?_
        refine r_aload_n (pc := 55) dX6_write_55 rfl ?_
        refine s_getR (pc := 56) dX6_write_56 fl_X6_36 rfl k_b1 g_b1_5 ?_
        refine r_iload_n (pc := 59) dX6_write_59 rfl ?_
        refine s_iald (pc := 60) dX6_write_60 k_b1_5 i_2 ?_
        refine r_aload_n (pc := 61) dX6_write_61 rfl ?_
        refine s_getR (pc := 62) dX6_write_62 fl_X6_40 rfl k_b1 g_b1_6 ?_
        refine r_iload_n (pc := 65) dX6_write_65 rfl ?_
        refine s_iald (pc := 66) dX6_write_66 k_b1_6 i_6 ?_
        refine s_VV (pc := 67) mX6_putLimit (ci := 6) (a := b0) (As := [.int l3, .int (gi x b1_5 (l3 : Int32).toNatClampNeg), .int (gi x b1_6 (l3 : Int32).toNatClampNeg)]) dX6_write_67 lk_X6_43 in_X6_putLimit mo_X6_putLimit ⟨by decide, rfl⟩ ⟨by decide, by decide⟩ (Nat.le_of_ble_eq_true rfl) k_b0 (mSV_mono K0 (fun y_8 K0 => ?_))
        refine r_iinc (pc := 70) (v := l3 + 1) dX6_write_70 rfl rfl (by decide) ?_
        refine r_goto (pc := 73) (L := [some (.ref b0), some (.ref b1), some (.ref b2), some (.int (l3 + 1))]) (tgt := 27) dX6_write_73 (by decide) ?_
        exact r_le (L' := [some (.ref b0), some (.ref b1), some (.ref b2), some (.int (l3 + 1))]) ⟨rfl, ⟨rfl, ⟨rfl, ⟨rfl, trivial⟩⟩⟩⟩ K0
set_option maxHeartbeats 2000000 in
theorem v_X6_write_78 {K : Sh} {x : Cn} {Q : Int32 → Cn → Prop} {b0 : Nat} {b1 : Nat} {b2 : Nat} {l3 : Int32}  (k_b2 : kk K b2 = some (1, 0)) (k_b0 : kk K b0 = some (6, 0)) (K0 : ((gi x b2 0) ≤ l3 → (GI mX6_write 112 [some (.ref b0), some (.ref b1), some (.ref b2), some (.int 0)] [] K x Q)) ∧ (¬ (gi x b2 0) ≤ l3 → (mSV mX6_putWord [.ref b0, .ref (mSB + 4)] K x (fun y_2 => mSV mX6_putName [.ref b0, .ref b2, .int l3] K y_2 (fun y_3 => mSV mX6_putSign [.ref b0, .int 59] K y_3 (fun y_4 => GI mX6_write 78 [some (.ref b0), some (.ref b1), some (.ref b2), some (.int (l3 + 1))] [] K y_4 Q)))))) : GI mX6_write 78 [some (.ref b0), some (.ref b1), some (.ref b2), some (.int l3)] [] K x Q := by
  show mGM mX6_write 78 [some (.ref b0), some (.ref b1), some (.ref b2), some (.int l3)] [] (hp K x) (PI K Q)
  refine r_iload_n (pc := 78) dX6_write_78 rfl ?_
  refine r_aload_n (pc := 79) dX6_write_79 rfl ?_
  refine s_getI (pc := 80) dX6_write_80 fl_X6_47 rfl k_b2 ?_
  refine r_icmp_ge (pc := 83) (tgt := 110) dX6_write_83 (by decide) (fun q => ?_) (fun q => ?_)
  · have K0 := K0.1 q
    refine r_iconst (pc := 110) (v := 0) dX6_write_110 (by decide) ?_
    refine r_istore_n (pc := 111) dX6_write_111 (by decide) ?_
    exact r_le (L' := [some (.ref b0), some (.ref b1), some (.ref b2), some (.int 0)]) ⟨rfl, ⟨rfl, ⟨rfl, ⟨rfl, trivial⟩⟩⟩⟩ K0
  · have K0 := K0.2 q
    refine r_aload_n (pc := 86) dX6_write_86 rfl ?_
    refine r_ldcS (pc := 87) (j := 4) dX6_write_87 rfl ?_
    refine s_VV (pc := 89) mX6_putWord (ci := 6) (a := b0) (As := [.ref (mSB + 4)]) dX6_write_89 lk_X6_21 in_X6_putWord mo_X6_putWord ⟨by decide, rfl⟩ ⟨by decide, by decide⟩ (Nat.le_of_ble_eq_true rfl) k_b0 (mSV_mono K0 (fun y_2 K0 => ?_))
    refine r_aload_n (pc := 92) dX6_write_92 rfl ?_
    refine r_aload_n (pc := 93) dX6_write_93 rfl ?_
    refine r_iload_n (pc := 94) dX6_write_94 rfl ?_
    refine s_VV (pc := 95) mX6_putName (ci := 6) (a := b0) (As := [.ref b2, .int l3]) dX6_write_95 lk_X6_54 in_X6_putName mo_X6_putName ⟨by decide, rfl⟩ ⟨by decide, by decide⟩ (Nat.le_of_ble_eq_true rfl) k_b0 (mSV_mono K0 (fun y_3 K0 => ?_))
    refine r_aload_n (pc := 98) dX6_write_98 rfl ?_
    refine r_bipush (pc := 99) (v := 59) dX6_write_99 (by decide) ?_
    refine s_VV (pc := 101) mX6_putSign (ci := 6) (a := b0) (As := [.int 59]) dX6_write_101 lk_X6_32 in_X6_putSign mo_X6_putSign ⟨by decide, rfl⟩ ⟨by decide, by decide⟩ (Nat.le_of_ble_eq_true rfl) k_b0 (mSV_mono K0 (fun y_4 K0 => ?_))
    refine r_iinc (pc := 104) (v := l3 + 1) dX6_write_104 rfl rfl (by decide) ?_
    refine r_goto (pc := 107) (L := [some (.ref b0), some (.ref b1), some (.ref b2), some (.int (l3 + 1))]) (tgt := 78) dX6_write_107 (by decide) ?_
    exact r_le (L' := [some (.ref b0), some (.ref b1), some (.ref b2), some (.int (l3 + 1))]) ⟨rfl, ⟨rfl, ⟨rfl, ⟨rfl, trivial⟩⟩⟩⟩ K0
set_option maxHeartbeats 2000000 in
theorem v_X6_write_112 {K : Sh} {x : Cn} {Q : Int32 → Cn → Prop} {b0 : Nat} {b1 : Nat} {b2 : Nat} {l3 : Int32} {b1_7 : Nat} {n_b1_7 : Nat} (k_b1 : kk K b1 = some (4, 0)) (g_b1_7 : gr x b1 7 = some b1_7) (k_b1_7 : kk K b1_7 = some (23, n_b1_7)) (k_b0 : kk K b0 = some (6, 0)) (K0 : ((gi x b1 3) ≤ l3 → (GI mX6_write 139 [some (.ref b0), some (.ref b1), some (.ref b2), some (.int 0)] [] K x Q)) ∧ (¬ (gi x b1 3) ≤ l3 → (vp_in l3 n_b1_7 ∧ (∃ c_3 : Nat, gr x b1_7 ((l3 : Int32).toNatClampNeg) = some c_3 ∧ (mSV mX6_putSeries [.ref b0, .ref c_3, .ref b2] K x (fun y_5 => GI mX6_write 112 [some (.ref b0), some (.ref b1), some (.ref b2), some (.int (l3 + 1))] [] K y_5 Q)))))) : GI mX6_write 112 [some (.ref b0), some (.ref b1), some (.ref b2), some (.int l3)] [] K x Q := by
  show mGM mX6_write 112 [some (.ref b0), some (.ref b1), some (.ref b2), some (.int l3)] [] (hp K x) (PI K Q)
  refine r_iload_n (pc := 112) dX6_write_112 rfl ?_
  refine r_aload_n (pc := 113) dX6_write_113 rfl ?_
  refine s_getI (pc := 114) dX6_write_114 fl_X6_58 rfl k_b1 ?_
  refine r_icmp_ge (pc := 117) (tgt := 137) dX6_write_117 (by decide) (fun q => ?_) (fun q => ?_)
  · have K0 := K0.1 q
    refine r_iconst (pc := 137) (v := 0) dX6_write_137 (by decide) ?_
    refine r_istore_n (pc := 138) dX6_write_138 (by decide) ?_
    exact r_le (L' := [some (.ref b0), some (.ref b1), some (.ref b2), some (.int 0)]) ⟨rfl, ⟨rfl, ⟨rfl, ⟨rfl, trivial⟩⟩⟩⟩ K0
  · have K0 := K0.2 q
    refine r_aload_n (pc := 120) dX6_write_120 rfl ?_
    refine r_aload_n (pc := 121) dX6_write_121 rfl ?_
    refine s_getR (pc := 122) dX6_write_122 fl_X6_61 rfl k_b1 g_b1_7 ?_
    refine r_iload_n (pc := 125) dX6_write_125 rfl ?_
    obtain ⟨i_2, K0⟩ := K0
    obtain ⟨c_3, g_4, K0⟩ := K0
    refine s_aald (pc := 126) dX6_write_126 (by decide) rfl k_b1_7 i_2 g_4 ?_
    refine r_aload_n (pc := 127) dX6_write_127 rfl ?_
    refine s_VV (pc := 128) mX6_putSeries (ci := 6) (a := b0) (As := [.ref c_3, .ref b2]) dX6_write_128 lk_X6_65 in_X6_putSeries mo_X6_putSeries ⟨by decide, rfl⟩ ⟨by decide, by decide⟩ (Nat.le_of_ble_eq_true rfl) k_b0 (mSV_mono K0 (fun y_5 K0 => ?_))
    refine r_iinc (pc := 131) (v := l3 + 1) dX6_write_131 rfl rfl (by decide) ?_
    refine r_goto (pc := 134) (L := [some (.ref b0), some (.ref b1), some (.ref b2), some (.int (l3 + 1))]) (tgt := 112) dX6_write_134 (by decide) ?_
    exact r_le (L' := [some (.ref b0), some (.ref b1), some (.ref b2), some (.int (l3 + 1))]) ⟨rfl, ⟨rfl, ⟨rfl, ⟨rfl, trivial⟩⟩⟩⟩ K0
set_option maxHeartbeats 2000000 in
theorem v_X6_write_139 {K : Sh} {x : Cn} {Q : Int32 → Cn → Prop} {b0 : Nat} {b1 : Nat} {b2 : Nat} {l3 : Int32} {b1_8 : Nat} {n_b1_8 : Nat} (k_b1 : kk K b1 = some (4, 0)) (k_b0 : kk K b0 = some (6, 0)) (g_b1_8 : gr x b1 8 = some b1_8) (k_b1_8 : kk K b1_8 = some (24, n_b1_8)) (K0 : ((gi x b1 4) ≤ l3 → (Q (gi x b0 1) x)) ∧ (¬ (gi x b1 4) ≤ l3 → (vp_in l3 n_b1_8 ∧ (∃ c_3 : Nat, gr x b1_8 ((l3 : Int32).toNatClampNeg) = some c_3 ∧ (mSV mX6_putAsk [.ref b0, .ref c_3, .ref b2] K x (fun y_5 => GI mX6_write 139 [some (.ref b0), some (.ref b1), some (.ref b2), some (.int (l3 + 1))] [] K y_5 Q)))))) : GI mX6_write 139 [some (.ref b0), some (.ref b1), some (.ref b2), some (.int l3)] [] K x Q := by
  show mGM mX6_write 139 [some (.ref b0), some (.ref b1), some (.ref b2), some (.int l3)] [] (hp K x) (PI K Q)
  refine r_iload_n (pc := 139) dX6_write_139 rfl ?_
  refine r_aload_n (pc := 140) dX6_write_140 rfl ?_
  refine s_getI (pc := 141) dX6_write_141 fl_X6_69 rfl k_b1 ?_
  refine r_icmp_ge (pc := 144) (tgt := 164) dX6_write_144 (by decide) (fun q => ?_) (fun q => ?_)
  · have K0 := K0.1 q
    refine r_aload_n (pc := 164) dX6_write_164 rfl ?_
    refine s_getI (pc := 165) dX6_write_165 fl_X6_15 rfl k_b0 ?_
    exact s_iret rfl dX6_write_168 K0
  · have K0 := K0.2 q
    refine r_aload_n (pc := 147) dX6_write_147 rfl ?_
    refine r_aload_n (pc := 148) dX6_write_148 rfl ?_
    refine s_getR (pc := 149) dX6_write_149 fl_X6_72 rfl k_b1 g_b1_8 ?_
    refine r_iload_n (pc := 152) dX6_write_152 rfl ?_
    obtain ⟨i_2, K0⟩ := K0
    obtain ⟨c_3, g_4, K0⟩ := K0
    refine s_aald (pc := 153) dX6_write_153 (by decide) rfl k_b1_8 i_2 g_4 ?_
    refine r_aload_n (pc := 154) dX6_write_154 rfl ?_
    refine s_VV (pc := 155) mX6_putAsk (ci := 6) (a := b0) (As := [.ref c_3, .ref b2]) dX6_write_155 lk_X6_76 in_X6_putAsk mo_X6_putAsk ⟨by decide, rfl⟩ ⟨by decide, by decide⟩ (Nat.le_of_ble_eq_true rfl) k_b0 (mSV_mono K0 (fun y_5 K0 => ?_))
    refine r_iinc (pc := 158) (v := l3 + 1) dX6_write_158 rfl rfl (by decide) ?_
    refine r_goto (pc := 161) (L := [some (.ref b0), some (.ref b1), some (.ref b2), some (.int (l3 + 1))]) (tgt := 139) dX6_write_161 (by decide) ?_
    exact r_le (L' := [some (.ref b0), some (.ref b1), some (.ref b2), some (.int (l3 + 1))]) ⟨rfl, ⟨rfl, ⟨rfl, ⟨rfl, trivial⟩⟩⟩⟩ K0
section
theorem sp_X6_write {x : Cn} {Q : Int32 → Cn → Prop} {T : TT} {W C S A N : Nat} (cc : CRf x) (E : SEA x 2 T W C S A N) (nm : NMr x 56 T C) (k : ∀ y, WFr x y → WR y (tl4 T W C S A) 2346 → Q (nI (tl4 T W C S A).length) y) : mSI mX6_write [.ref 175, .ref 2, .ref 56] KW x Q := by
  have hn := E.nums
  have hW : W ≤ 30 := hn.2.2.2.2.1
  have hC : C ≤ 8 := hn.2.2.2.2.2.1
  have hS : S ≤ 24 := hn.2.2.2.2.2.2.1
  have hA : A ≤ 24 := hn.2.2.2.2.2.2.2.1
  have c := cc.c175
  have c2 : gr x 56 1 = some 57 := cc.2.2.2.2.2.2.2.1
  have kn : kk KW 56 = some (1, 0) := by decide
  have cg : ∀ y : Cn, WFr x y → gr y 175 0 = some 176 := fun y fy => by unfold gr; rw [fy.1]; exact c
  have cg2 : ∀ y : Cn, WFr x y → gr y 56 1 = some 57 := fun y fy => by unfold gr; rw [fy.1]; exact c2
  have Eg : ∀ y : Cn, WFr x y → SEA y 2 T W C S A N := fun y fy => E.keep fy.1 (fun a j a1 a2 _ => fy.2 a j (by omega) (by omega))
  have ng : ∀ y : Cn, WFr x y → NMr y 56 T C := fun y fy => nm.keep (fy.2 56 0 (by decide) (by omega)) (fun i => fy.2 57 i (by decide) (by omega)) (fun _ _ => rfl)
  have l4 : ∀ y, WFr x y → WR y (tl3 T W C S) 1482 → bl (tl3 T W C S) = [] → GI mX6_write 139 [some (.ref 175), some (.ref 2), some (.ref 56), some (.int 0)] [] KW y Q := by
    intro y fy wy hb
    refine lp_acc (fun a l => l ++ askS T a) (fun a l => bl l = [] → ∀ z, WFr x z → WR z l (1482 + 36 * a) → GI mX6_write 139 [some (.ref 175), some (.ref 2), some (.ref 56), some (.int (nI a))] [] KW z Q) A (tl3 T W C S) ?_ (fun a l ha n1 => ?_) hb y fy wy
    · intro _ z fz wz
      refine v_X6_write_139 (ks0 E.1) k175 (Eg z fz).2.1.2.2.2.1 (ks4 E.1) ⟨fun _ => ?_, fun u => absurd (by rw [(Eg z fz).nums.2.2.2.1]; exact Int32.le_refl _) u⟩
      rw [wz.1]
      exact k z fz (wz.le (by omega))
    · intro hb z fz wz
      have Ez := Eg z fz
      obtain ⟨p, e1, e2, e3, ⟨⟨cr, hc, ec⟩, ⟨d, hd, ed⟩, ⟨h, hh, eh⟩, -, ⟨f, t, f1, f2, f3, f4⟩, ⟨b, hb9, eb⟩⟩⟩ := Ez.ask ha
      obtain ⟨j, hj, ej⟩ := Ez.2.1.2.2.2.2.2.2.2.1 a (by omega)
      have ep : p = 2 + 30 + j := Option.some.inj (e1.symm.trans ej)
      obtain ⟨v, ⟨hv0, hv1⟩, hv2, hv3⟩ := (ng z fz).2 cr hc
      refine v_X6_write_139 (ks0 E.1) k175 Ez.2.1.2.2.2.1 (ks4 E.1) ⟨fun u => absurd (by rw [Ez.nums.2.2.2.1] at u; exact u) (nI_ge ha (by omega)), fun _ => ⟨vp_in_nI (by omega) (by decide), p, by rw [nI_clamp (by omega)]; exact e1, ?_⟩⟩
      rw [nI_1]
      have ea : askS T a = askP v d h (ao T a 3) f t b := by
        unfold askS nmv
        rw [ec, ed, eh, f3, f4, eb, nI_clamp (by omega), nI_clamp (by omega), nI_clamp (by omega), nI_clamp (by omega), nI_clamp (by omega), nI_clamp (by omega), hv2, nI_clamp (by omega)]
      refine sp_X6_putAsk (by omega) e2 ((e3 0 (by decide)).trans ec) ((e3 1 (by decide)).trans ed) ((e3 2 (by decide)).trans eh) (e3 3 (by decide)) ((e3 4 (by decide)).trans f3) ((e3 5 (by decide)).trans f4) ((e3 6 (by decide)).trans eb) hb9 (by omega) hv0 hv1 hv3 hd (by omega) (by omega) (by omega) (cg z fz) (cg2 z fz) hb wz (by omega) (fun y2 f2' w2 => n1 _ rfl ?_ y2 (fz.tr f2') ?_)
      · rw [ea]; unfold askP; exact bl_e _ _
      · rw [ea]; exact w2.le (by omega)
  have l3 : ∀ y, WFr x y → WR y (tl2 T W C) 594 → bl (tl2 T W C) = [] → GI mX6_write 112 [some (.ref 175), some (.ref 2), some (.ref 56), some (.int 0)] [] KW y Q := by
    intro y fy wy hb
    refine lp_acc (fun s l => l ++ serT T s) (fun s l => bl l = [] → ∀ z, WFr x z → WR z l (594 + 37 * s) → GI mX6_write 112 [some (.ref 175), some (.ref 2), some (.ref 56), some (.int (nI s))] [] KW z Q) S (tl2 T W C) ?_ (fun s l hs n1 => ?_) hb y fy wy
    · intro hb z fz wz
      exact v_X6_write_112 (ks0 E.1) (Eg z fz).2.1.2.2.1 (ks3 E.1) k175 ⟨fun _ => l4 z fz (wz.le (by omega)) hb, fun u => absurd (by rw [(Eg z fz).nums.2.2.1]; exact Int32.le_refl _) u⟩
    · intro hb z fz wz
      have Ez := Eg z fz
      obtain ⟨p, e1, e2, e3, -, -, ⟨⟨cr, hc, ec⟩, ⟨d, hd, ed⟩, ⟨h, hh, eh⟩, -, o4, ⟨f, t, f1, f2, f3, f4⟩, -⟩⟩ := Ez.ser hs
      obtain ⟨j, hj, ej⟩ := Ez.2.1.2.2.2.2.2.1 s (by omega)
      have ep : p = 2 + 6 + j := Option.some.inj (e1.symm.trans ej)
      obtain ⟨v, ⟨hv0, hv1⟩, hv2, hv3⟩ := (ng z fz).2 cr hc
      refine v_X6_write_112 (ks0 E.1) Ez.2.1.2.2.1 (ks3 E.1) k175 ⟨fun u => absurd (by rw [Ez.nums.2.2.1] at u; exact u) (nI_ge hs (by omega)), fun _ => ⟨vp_in_nI (by omega) (by decide), p, by rw [nI_clamp (by omega)]; exact e1, ?_⟩⟩
      rw [nI_1]
      have es : serT T s = serP v d h (so T s 3) f t (so T s 4) := by
        unfold serT nmv
        rw [ec, ed, eh, f3, f4, nI_clamp (by omega), nI_clamp (by omega), nI_clamp (by omega), nI_clamp (by omega), nI_clamp (by omega), hv2, nI_clamp (by omega)]
      refine sp_X6_putSeries (by omega) e2 ((e3.1 0 (by decide) (by decide)).trans ec) ((e3.1 1 (by decide) (by decide)).trans ed) ((e3.1 2 (by decide) (by decide)).trans eh) (e3.1 3 (by decide) (by decide)) (e3.1 4 (by decide) (by decide)) ((e3.1 5 (by decide) (by decide)).trans f3) ((e3.1 6 (by decide) (by decide)).trans f4) o4 (by omega) hv0 hv1 hv3 hd (by omega) (by omega) (by omega) (cg z fz) (cg2 z fz) hb wz (by omega) (fun y2 f2' w2 => n1 _ rfl ?_ y2 (fz.tr f2') ?_)
      · rw [es]; exact ser_e _ _ _ _ _ _ _ _
      · rw [es]; exact w2.le (by omega)
  have l2 : ∀ y, WFr x y → WR y (tl1 T W) 466 → bl (tl1 T W) = [] → GI mX6_write 78 [some (.ref 175), some (.ref 2), some (.ref 56), some (.int 0)] [] KW y Q := by
    intro y fy wy hb
    refine lp_acc (fun c l => l ++ carP (nmv T c)) (fun cr l => bl l = [] → ∀ z, WFr x z → WR z l (466 + 16 * cr) → GI mX6_write 78 [some (.ref 175), some (.ref 2), some (.ref 56), some (.int (nI cr))] [] KW z Q) C (tl1 T W) ?_ (fun cr l hc n1 => ?_) hb y fy wy
    · intro hb z fz wz
      exact v_X6_write_78 kn k175 ⟨fun _ => l3 z fz (wz.le (by omega)) hb, fun u => absurd (by rw [(ng z fz).1]; exact Int32.le_refl _) u⟩
    · intro hb z fz wz
      obtain ⟨v, ⟨hv0, hv1⟩, hv2, hv3⟩ := (ng z fz).2 cr hc
      refine v_X6_write_78 kn k175 ⟨fun u => absurd (by rw [(ng z fz).1] at u; exact u) (nI_ge hc (by omega)), fun _ => ?_⟩
      rw [nI_1]
      refine sp_X6_putWord (j := 4) (m := 7) (mSq_at (by decide)) (by decide) (cg z fz) wz (by omega) (fun y1 f1 w1 => ?_)
      rw [hb, List.append_nil] at w1
      refine sp_X6_putName (v := v) (by omega) (fun i hi => by rw [f1.2 57 _ (by decide) (by omega)]; exact hv3 i hi) (cg y1 (fz.tr f1)) (cg2 y1 (fz.tr f1)) w1 (by omega) (fun y2 f2 w2 => ?_)
      rw [bl_wd _ (by decide) (by decide) (by decide)] at w2
      have ec : nmv T cr = v := by
        unfold nmv
        rw [hv2, nI_clamp (by omega)]
      refine sp_X6_putSign (n := 59) (by decide) (cg y2 (fz.tr (f1.tr f2))) w2 (by omega) (fun y3 f3 w3 => n1 _ rfl ?_ y3 (fz.tr (f1.tr (f2.tr f3))) ?_)
      · rw [ec]; unfold carP; exact bl_e _ _
      · have e : l ++ wq (mSq 4) ++ [32] ++ nmL v ++ [59] = l ++ carP (nmv T cr) := by
          rw [ec]
          simp only [carP, wd_30, List.append_assoc]
        rw [e] at w3
        exact w3.le (by omega)
  have l1 : ∀ y, WFr x y → WR y (tl0 W) 10 → GI mX6_write 27 [some (.ref 175), some (.ref 2), some (.ref 56), some (.int 0)] [] KW y Q := by
    intro y fy wy
    refine lp_acc (fun h l => l ++ limT T h) (fun h l => bl l = [] → ∀ z, WFr x z → WR z l (10 + 19 * h) → GI mX6_write 27 [some (.ref 175), some (.ref 2), some (.ref 56), some (.int (nI h))] [] KW z Q) 24 (tl0 W) ?_ (fun h l hh n1 => ?_) (by unfold tl0; exact bl_1 _ (by decide)) y fy wy
    · intro hb z fz wz
      exact v_X6_write_27 (ks0 E.1) (Eg z fz).2.1.1 (ks1 E.1) (Eg z fz).2.1.2.1 (ks2 E.1) k175 ⟨fun _ => l2 z fz wz hb, fun u => absurd (Int32.le_refl _) u⟩
    · intro hb z fz wz
      have Ez := Eg z fz
      have v5 := Ez.2.2.1.2.2.2.2.2.1 h hh
      have g1 : gi z 3 h = T (6 + 2 * h) := v5.1
      have g2 : gi z 4 h = T (7 + 2 * h) := v5.2
      obtain ⟨a, b, ha, hb', ea, eb⟩ := E.2.2.2.2.2.2.2.2.2.2.2.2.2.2.1 h hh
      have put : ¬ (T (6 + 2 * h) = 4 ∧ T (7 + 2 * h) = 4) → mSV mX6_putLimit [.ref 175, .int (nI h), .int (T (6 + 2 * h)), .int (T (7 + 2 * h))] KW z (fun y_5 => GI mX6_write 27 [some (.ref 175), some (.ref 2), some (.ref 56), some (.int (nI (h + 1)))] [] KW y_5 Q) := by
        intro hne
        have el : limT T h = limP h a b := by
          unfold limT
          rw [if_neg hne, ea, eb, nI_clamp (by omega), nI_clamp (by omega)]
        rw [ea, eb]
        refine sp_X6_putLimit (by omega) (by omega) (by omega) (cg z fz) hb wz (by omega) (fun y2 f2 w2 => n1 _ rfl ?_ y2 (fz.tr f2) ?_)
        · rw [el]; unfold limP; exact bl_e _ _
        · rw [el]; exact w2.le (by omega)
      refine v_X6_write_27 (ks0 E.1) Ez.2.1.1 (ks1 E.1) Ez.2.1.2.1 (ks2 E.1) k175 ⟨fun u => absurd u (nI_ge (b := 24) hh (by decide)), fun _ => ⟨vp_in_nI hh (by decide), ?_⟩⟩
      rw [nI_clamp (by omega), nI_1, g1, g2]
      refine ⟨fun u => ⟨vp_in_nI hh (by decide), put (fun g => u g.1)⟩, fun u => ⟨vp_in_nI hh (by decide), fun u2 => ?_, fun u2 => put (fun g => u2 g.2)⟩⟩
      have el : limT T h = [] := by
        unfold limT
        rw [if_pos ⟨u, u2⟩]
      refine n1 l (by rw [el, List.append_nil]) hb z fz (wz.le (by omega))
  have w0 : WR (ui x 175 1 0) [] 0 := ⟨by rw [gi_ui, if_pos ⟨rfl, rfl⟩]; rfl, fun i hi => absurd hi (Nat.not_lt_zero _), Nat.le_refl _⟩
  have f0 : WFr x (ui x 175 1 0) := ⟨rfl, fun a j a1 a2 => by rw [gi_ui, if_neg a2]⟩
  refine v_X6_write_0 k175 (ks0 E.1) (sp_X6_putWord (j := 1) (m := 5) (mSq_at (by decide)) (by decide) (cg _ f0) w0 (by omega) (fun y1 f1 w1 => ?_))
  rw [show gi y1 2 0 = nI W by rw [f1.2 2 0 (by decide) (by omega), f0.2 2 0 (by decide) (by omega)]; exact hn.1]
  refine sp_X6_putNumber (by omega) (cg _ (f0.tr f1)) w1 (by omega) (fun y2 f2 w2 => sp_X6_putSign (n := 59) (by decide) (cg _ (f0.tr (f1.tr f2))) w2 (by omega) (fun y3 f3 w3 => l1 y3 (f0.tr (f1.tr (f2.tr f3))) ?_))
  have e : [] ++ bl [] ++ wq (mSq 1) ++ bl ([] ++ bl [] ++ wq (mSq 1)) ++ numL W ++ [59] = tl0 W := by
    rw [bl_wd _ (by decide) (by decide) (by decide), show bl [] = [] from by decide]
    simp only [tl0, wd_27, List.append_assoc, List.nil_append]
  rw [e] at w3
  exact w3.le (by omega)

end
end

section
theorem hrF_in {T : TT} {S N a h0 : Nat} (h1 : h0 < 24) (h2 : ao T a 2 = nI h0) : hrF T S N a = -1 ∨ ∃ h, h < 24 ∧ hrF T S N a = nI h ∧ ¬ S = 24 ∧ ¬ (ao T a 5).toNatClampNeg < N := by
  unfold hrF
  by_cases c : (ao T a 5).toNatClampNeg < N ∨ S = 24
  · exact Or.inl (if_pos c)
  · rw [if_neg c, h2, nI_clamp (by omega)]
    have key := lpR_in (step := stH (fun h => fitA T S N a h 0) h0) (fin := fun _ => -1) (R := fun r => r = -1 ∨ ∃ h, h < 24 ∧ r = nI h) (fun s u r hr => by
      unfold stH at hr
      by_cases c1 : s ≤ h0 ∧ ¬ bP (fitA T S N a (h0 - s) 0) = 0
      · rw [if_pos c1] at hr
        cases hr
        exact Or.inr ⟨h0 - s, by omega, rfl⟩
      · rw [if_neg c1] at hr
        by_cases c2 : h0 + s < 24 ∧ ¬ bP (fitA T S N a (h0 + s) 0) = 0
        · rw [if_pos c2] at hr
          cases hr
          exact Or.inr ⟨h0 + s, c2.1, rfl⟩
        · rw [if_neg c2] at hr
          cases hr) (fun _ => Or.inl rfl) ((ao T a 6).toNatClampNeg + 1) 0 ()
    rcases key with g | ⟨h, g1, g2⟩
    · exact Or.inl g
    · exact Or.inr ⟨h, g1, g2, fun u => c (Or.inr u), fun u => c (Or.inl u)⟩
end
set_option maxHeartbeats 2000000 in
theorem v_X2_lookAt_0 {K : Sh} {x : Cn} {Q : Cn → Prop} {b0 : Nat} {l1 : Int32} {b0_0 : Nat} {b0_0_8 : Nat} {n_b0_0_8 : Nat} {b0_3 : Nat} {n_b0_3 : Nat} (k_b0 : kk K b0 = some (2, 0)) (g_b0_0 : gr x b0 0 = some b0_0) (k_b0_0 : kk K b0_0 = some (4, 0)) (g_b0_0_8 : gr x b0_0 8 = some b0_0_8) (k_b0_0_8 : kk K b0_0_8 = some (24, n_b0_0_8)) (g_b0_3 : gr x b0 3 = some b0_3) (k_b0_3 : kk K b0_3 = some (20, n_b0_3)) (K0 : vp_in l1 n_b0_0_8 ∧ (∃ c_2 : Nat, gr x b0_0_8 ((l1 : Int32).toNatClampNeg) = some c_2 ∧ (mSI mX4_hourFor [.ref b0_0, .ref c_2] K x (fun r_5 y_4 => vp_in l1 n_b0_3 ∧ (gr y_4 b0 3 = some b0_3 ∧ (((gi (ui y_4 b0_3 (l1 : Int32).toNatClampNeg r_5) b0_3 (l1 : Int32).toNatClampNeg) = (-1) → (Q (ui y_4 b0_3 (l1 : Int32).toNatClampNeg r_5))) ∧ (¬ (gi (ui y_4 b0_3 (l1 : Int32).toNatClampNeg r_5) b0_3 (l1 : Int32).toNatClampNeg) = (-1) → (gr y_4 b0 0 = some b0_0 ∧ (mSV mX4_grant [.ref b0_0, .ref c_2, .int (gi (ui y_4 b0_3 (l1 : Int32).toNatClampNeg r_5) b0_3 (l1 : Int32).toNatClampNeg)] K (ui y_4 b0_3 (l1 : Int32).toNatClampNeg r_5) (fun y_10 => ∃ c_11 : Nat, gr y_10 b0 1 = some c_11 ∧ (kk K c_2 = some (0, 0) ∧ (∃ n_15 : Nat, kk K c_11 = some (20, n_15) ∧ (vp_in (((gi y_10 c_2 0) * 7) + (gi y_10 c_2 1)) n_15 ∧ (∀ r_17 : Int32, r_17 = gi (ui y_10 c_11 ((((gi y_10 c_2 0) * 7) + (gi y_10 c_2 1)) : Int32).toNatClampNeg ((gi y_10 c_11 ((((gi y_10 c_2 0) * 7) + (gi y_10 c_2 1)) : Int32).toNatClampNeg) + 1)) b0 4 → (Q (ui (ui y_10 c_11 ((((gi y_10 c_2 0) * 7) + (gi y_10 c_2 1)) : Int32).toNatClampNeg ((gi y_10 c_11 ((((gi y_10 c_2 0) * 7) + (gi y_10 c_2 1)) : Int32).toNatClampNeg) + 1)) b0 4 (r_17 + 1))))))))))))))))) : mSV mX2_lookAt [.ref b0, .int l1] K x Q := by
  refine s_V (by decide) (by simp [Value.category]) (Nat.le_of_ble_eq_true rfl) ?_
  show mGM mX2_lookAt 0 [some (.ref b0), some (.int l1), none] [] (hp K x) (PV K Q)
  refine r_aload_n (pc := 0) dX2_lookAt_0 rfl ?_
  refine s_getR (pc := 1) dX2_lookAt_1 fl_X2_12 rfl k_b0 g_b0_0 ?_
  refine s_getR (pc := 4) dX2_lookAt_4 fl_X2_85 rfl k_b0_0 g_b0_0_8 ?_
  refine r_iload_n (pc := 7) dX2_lookAt_7 rfl ?_
  obtain ⟨i_1, K0⟩ := K0
  obtain ⟨c_2, g_3, K0⟩ := K0
  refine s_aald (pc := 8) dX2_lookAt_8 (by decide) rfl k_b0_0_8 i_1 g_3 ?_
  refine r_astore_n (pc := 9) dX2_lookAt_9 (by decide) ?_
  refine r_aload_n (pc := 10) (L := [some (.ref b0), some (.int l1), some (.ref c_2)]) dX2_lookAt_10 rfl ?_
  refine s_getR (pc := 11) dX2_lookAt_11 fl_X2_25 rfl k_b0 g_b0_3 ?_
  refine r_iload_n (pc := 14) dX2_lookAt_14 rfl ?_
  refine r_aload_n (pc := 15) dX2_lookAt_15 rfl ?_
  refine s_getR (pc := 16) dX2_lookAt_16 fl_X2_12 rfl k_b0 g_b0_0 ?_
  refine r_aload_n (pc := 19) dX2_lookAt_19 rfl ?_
  refine s_VI (pc := 20) mX4_hourFor (ci := 4) (a := b0_0) (As := [.ref c_2]) dX2_lookAt_20 lk_X2_103 in_X4_hourFor mo_X4_hourFor ⟨by decide, rfl⟩ ⟨by decide, by decide⟩ (Nat.le_of_ble_eq_true rfl) k_b0_0 (mSI_mono K0 (fun r_5 y_4 K0 => ?_))
  obtain ⟨i_6, K0⟩ := K0
  refine s_iast (pc := 23) dX2_lookAt_23 k_b0_3 i_6 ?_
  refine r_aload_n (pc := 24) dX2_lookAt_24 rfl ?_
  obtain ⟨g_7, K0⟩ := K0
  refine s_getR (pc := 25) dX2_lookAt_25 fl_X2_25 rfl k_b0 g_7 ?_
  refine r_iload_n (pc := 28) dX2_lookAt_28 rfl ?_
  refine s_iald (pc := 29) dX2_lookAt_29 k_b0_3 i_6 ?_
  refine r_iconst (pc := 30) (v := (-1)) dX2_lookAt_30 (by decide) ?_
  refine r_icmp_eq (pc := 31) (tgt := 79) dX2_lookAt_31 (by decide) (fun q => ?_) (fun q => ?_)
  · have K0 := K0.1 q
    exact s_ret rfl dX2_lookAt_79 K0
  · have K0 := K0.2 q
    refine r_aload_n (pc := 34) dX2_lookAt_34 rfl ?_
    obtain ⟨g_9, K0⟩ := K0
    refine s_getR (pc := 35) dX2_lookAt_35 fl_X2_12 rfl k_b0 g_9 ?_
    refine r_aload_n (pc := 38) dX2_lookAt_38 rfl ?_
    refine r_aload_n (pc := 39) dX2_lookAt_39 rfl ?_
    refine s_getR (pc := 40) dX2_lookAt_40 fl_X2_25 rfl k_b0 g_7 ?_
    refine r_iload_n (pc := 43) dX2_lookAt_43 rfl ?_
    refine s_iald (pc := 44) dX2_lookAt_44 k_b0_3 i_6 ?_
    refine s_VV (pc := 45) mX4_grant (ci := 4) (a := b0_0) (As := [.ref c_2, .int (gi (ui y_4 b0_3 (l1 : Int32).toNatClampNeg r_5) b0_3 (l1 : Int32).toNatClampNeg)]) dX2_lookAt_45 lk_X2_107 in_X4_grant mo_X4_grant ⟨by decide, rfl⟩ ⟨by decide, by decide⟩ (Nat.le_of_ble_eq_true rfl) k_b0_0 (mSV_mono K0 (fun y_10 K0 => ?_))
    refine r_aload_n (pc := 48) dX2_lookAt_48 rfl ?_
    obtain ⟨c_11, g_12, K0⟩ := K0
    refine s_getR (pc := 49) dX2_lookAt_49 fl_X2_18 rfl k_b0 g_12 ?_
    refine r_aload_n (pc := 52) dX2_lookAt_52 rfl ?_
    obtain ⟨e_13, K0⟩ := K0
    refine s_getI (pc := 53) dX2_lookAt_53 fl_X2_78 rfl e_13 ?_
    refine r_bipush (pc := 56) (v := 7) dX2_lookAt_56 (by decide) ?_
    refine r_imul (pc := 58) dX2_lookAt_58 ?_
    refine r_aload_n (pc := 59) dX2_lookAt_59 rfl ?_
    refine s_getI (pc := 60) dX2_lookAt_60 fl_X2_81 rfl e_13 ?_
    refine r_iadd (pc := 63) dX2_lookAt_63 ?_
    refine r_dup2 (pc := 64) dX2_lookAt_64 rfl rfl ?_
    obtain ⟨n_15, e_14, K0⟩ := K0
    obtain ⟨i_16, K0⟩ := K0
    refine s_iald (pc := 65) dX2_lookAt_65 e_14 i_16 ?_
    refine r_iconst (pc := 66) (v := 1) dX2_lookAt_66 (by decide) ?_
    refine r_iadd (pc := 67) dX2_lookAt_67 ?_
    refine s_iast (pc := 68) dX2_lookAt_68 e_14 i_16 ?_
    refine r_aload_n (pc := 69) dX2_lookAt_69 rfl ?_
    refine r_dup (pc := 70) dX2_lookAt_70 rfl ?_
    refine s_getI (pc := 71) dX2_lookAt_71 fl_X2_28 rfl k_b0 ?_
    obtain ⟨r_17, w_18⟩ : ∃ z : Int32, z = gi (ui y_10 c_11 ((((gi y_10 c_2 0) * 7) + (gi y_10 c_2 1)) : Int32).toNatClampNeg ((gi y_10 c_11 ((((gi y_10 c_2 0) * 7) + (gi y_10 c_2 1)) : Int32).toNatClampNeg) + 1)) b0 4 := ⟨_, rfl⟩
    rw [← w_18]
    have K0 := K0 r_17 w_18
    refine r_iconst (pc := 74) (v := 1) dX2_lookAt_74 (by decide) ?_
    refine r_iadd (pc := 75) dX2_lookAt_75 ?_
    refine s_putI (pc := 76) dX2_lookAt_76 fl_X2_28 rfl rfl k_b0 ?_
    exact s_ret rfl dX2_lookAt_79 K0
section
theorem sp_X2_lookAt {x : Cn} {Q : Cn → Prop} {T : TT} {W C S A N a g : Nat} (P : PLf x) (E : SEB x 118 T W C S A N) (hl : HLD x T S) (hg : gi x 117 4 = nI g) (ha : a < A)
    (k1 : hrF T S N a = -1 → ∀ y, PCr x y → SEB y 118 T W C S A N → HLD y T S → gi y 117 4 = nI g → (∀ b, gi y 173 b = gi x 173 b) → (∀ b, gi y 174 b = if b = a then -1 else gi x 174 b) → Q y)
    (k2 : ∀ h, h < 24 → hrF T S N a = nI h → S < 24 → ¬ (ao T a 5).toNatClampNeg < N → ∀ y, PCr x y → SEB y 118 (grT T S a (nI h)) W C (S + 1) A N → HLD y (grT T S a (nI h)) (S + 1) → gi y 117 4 = nI (g + 1) → (∀ b, gi y 173 b = gi x 173 b) → (∀ b, gi y 174 b = if b = a then nI h else gi x 174 b) → Q y) : mSV mX2_lookAt [.ref 117, .int (nI a)] KW x Q := by
  have hn := E.nums
  have hA : A ≤ 24 := hn.2.2.2.2.2.2.2.1
  have hC : C ≤ 8 := hn.2.2.2.2.2.1
  have hS : S ≤ 24 := hn.2.2.2.2.2.2.1
  obtain ⟨p, e1, e2, e3, w⟩ := E.ask ha
  obtain ⟨⟨c, hc, ec⟩, ⟨d, hd, ed⟩, ⟨h0, hh0, eh0⟩, -⟩ := id w
  refine v_X2_lookAt_0 k117 P.1 (ks0 E.1) E.2.1.2.2.2.1 (ks4 E.1) P.2.2.2 k174 ?_
  rw [nI_clamp (by omega)]
  refine ⟨vp_in_nI (by omega) (by decide), p, e1, sb_X4_hourFor E ha e1 (fun y hy => ⟨vp_in_nI (by omega) (by decide), (P.keep hy.1).2.2.2, ?_⟩)⟩
  have ev : gi (ui y 174 a (hrF T S N a)) 174 a = hrF T S N a := by rw [gi_ui, if_pos ⟨rfl, rfl⟩]
  rw [ev]
  have Ey := E.eqx hy (Or.inl rfl)
  have E2 : SEB (ui y 174 a (hrF T S N a)) 118 T W C S A N := Ey.eqx (EQx.rf y 174).ui (Or.inr (Or.inr (by decide)))
  have f1 : PCr x (ui y 174 a (hrF T S N a)) := (hy.pc (by decide)).ui (by decide)
  have o2 : ∀ b i, b ≠ 123 → b ≠ 174 → gi (ui y 174 a (hrF T S N a)) b i = gi x b i := fun b i b1 b2 => by rw [gi_ui, if_neg (fun u => b2 u.1)]; exact hy.2 b i b1
  refine ⟨fun z => k1 z _ f1 E2 (hl.mv (fun i => o2 172 i (by decide) (by decide))) (by rw [o2 117 4 (by decide) (by decide)]; exact hg) (fun b => o2 173 b (by decide) (by decide)) (fun b => ?_), fun z => ⟨(P.keep hy.1).1, ?_⟩⟩
  · rw [gi_ui, z]
    by_cases c1 : b = a
    · rw [if_pos ⟨rfl, c1⟩, if_pos c1]
    · rw [if_neg (fun u => c1 u.2), if_neg c1]; exact hy.2 174 b (by decide)
  · rcases hrF_in (S := S) (N := N) hh0 eh0 with g0 | ⟨h, h1, h2, h3, h4⟩
    · exact absurd g0 z
    · rw [h2]
      rw [h2] at E2 f1 o2
      have e1' : gr (ui y 174 a (nI h)) (118 + 4) a = some p := by
        show gr y _ _ = _
        unfold gr; rw [hy.1]; exact e1
      refine sp_X4_grant E2 (by omega) ha e1' h1 h4 (fun v fv Ev => ?_)
      have ov : ∀ b i, ¬ (118 ≤ b ∧ b < 172) → b ≠ 174 → gi v b i = gi x b i := fun b i b1 b2 => (fv.2 b i (by omega)).trans (o2 b i (by omega) b2)
      obtain ⟨pv, ve1, ve2, ve3, vw⟩ := Ev.ask ha
      have epv : pv = p := by
        have : gr v (118 + 4) a = some p := by
          unfold gr; rw [fv.1]; exact e1'
        exact Option.some.inj (ve1.symm.trans this)
      subst epv
      have ga : ∀ i, i < 7 → ao (grT T S a (nI h)) a i = ao T a i := fun i hi => adT_off (by omega) (by omega)
      refine ⟨172, (P.keep (fv.1.trans hy.1)).2.1, ve2, 56, k172, ?_⟩
      rw [ve3 0 (by decide), ve3 1 (by decide), ga 0 (by decide), ga 1 (by decide), ec, ed, show (7 : Int32) = nI 7 by decide, pk_mul, nI_add, nI_clamp (by omega)]
      refine ⟨vp_in_nI (by omega) (by decide), fun r hr => ?_⟩
      have er : r = nI g := by rw [hr, gi_ui, if_neg (by omega), ov 117 4 (by omega) (by decide)]; exact hg
      rw [er, nI_1]
      have hlv : HLD v T S := hl.mv (fun i => ov 172 i (by omega) (by decide))
      have f2 : PCr x v := f1.tr fv.pc
      refine k2 h h1 h2 (by omega) h4 _ ((f2.ui (by decide)).ui (by decide)) ?_ ?_ (by rw [gi_ui, if_pos ⟨rfl, rfl⟩]) (fun b => ?_) (fun b => ?_)
      · exact (Ev.eqx (EQx.rf v 172).ui (Or.inr (Or.inr (by decide)))).eqx (EQx.rf _ 117).ui (Or.inr (Or.inl (by decide)))
      · refine HLD.mv (hlv.inc (T' := grT T S a (nI h)) (c0 := c) (d0 := d) (by omega) hd (by rw [so_adT (by decide)]; exact ec) (by rw [so_adT (by decide)]; exact ed) (fun s hs => ⟨so_adT' (by decide) (by omega), so_adT' (by decide) (by omega)⟩)) (fun i => ?_)
        rw [gi_ui, if_neg (by omega)]
      · rw [gi_ui, if_neg (by omega), gi_ui, if_neg (by omega)]; exact ov 173 b (by omega) (by decide)
      · rw [gi_ui, if_neg (by omega), gi_ui, if_neg (by omega), fv.2 174 b (by omega), gi_ui]
        by_cases c1 : b = a
        · rw [if_pos ⟨rfl, c1⟩, if_pos c1]
        · rw [if_neg (fun u => c1 u.2), if_neg c1]; exact hy.2 174 b (by decide)

end


set_option maxHeartbeats 2000000 in
theorem v_X8_tick_33 {K : Sh} {x : Cn} {Q : Int32 → Cn → Prop} {b0 : Nat} {l1 : Int32} {b0_1 : Nat} {n_b0_1 : Nat} {b0_3 : Nat} {n_b0_3 : Nat} (k_b0 : kk K b0 = some (8, 0)) (g_b0_1 : gr x b0 1 = some b0_1) (k_b0_1 : kk K b0_1 = some (20, n_b0_1)) (g_b0_3 : gr x b0 3 = some b0_3) (k_b0_3 : kk K b0_3 = some (20, n_b0_3)) (K0 : vp_in 2 n_b0_1 ∧ (((gi x b0_1 2) ≤ l1 → (vp_in 4 n_b0_1 ∧ (Q (gi (ui x b0_1 4 ((gi x b0_1 4) + 1)) b0_1 4) (ui x b0_1 4 ((gi x b0_1 4) + 1))))) ∧ (¬ (gi x b0_1 2) ≤ l1 → ((l24 l1 n_b0_3) ∧ (vp_in 4 n_b0_1 ∧ (mSV mX8_goes [.ref b0, .int l1, .int ((so (gi x b0_3) (l1 : Int32).toNatClampNeg 7) &&& (1 <<< ((gi x b0_1 4) &&& 31))), .int 0, .int 1] K x (fun y_6 => GI mX8_tick 33 [some (.ref b0), some (.int (l1 + 1))] [] K y_6 Q))))))) : GI mX8_tick 33 [some (.ref b0), some (.int l1)] [] K x Q := by
  show mGM mX8_tick 33 [some (.ref b0), some (.int l1)] [] (hp K x) (PI K Q)
  refine r_iload_n (pc := 33) dX8_tick_33 rfl ?_
  refine r_aload_n (pc := 34) dX8_tick_34 rfl ?_
  refine s_getR (pc := 35) dX8_tick_35 fl_X8_9 rfl k_b0 g_b0_1 ?_
  refine r_iconst (pc := 38) (v := 2) dX8_tick_38 (by decide) ?_
  obtain ⟨i_1, K0⟩ := K0
  refine s_iald (pc := 39) dX8_tick_39 k_b0_1 i_1 ?_
  refine r_icmp_ge (pc := 40) (tgt := 72) dX8_tick_40 (by decide) (fun q => ?_) (fun q => ?_)
  · have K0 := K0.1 q
    refine r_aload_n (pc := 72) dX8_tick_72 rfl ?_
    refine s_getR (pc := 73) dX8_tick_73 fl_X8_9 rfl k_b0 g_b0_1 ?_
    refine r_iconst (pc := 76) (v := 4) dX8_tick_76 (by decide) ?_
    refine r_dup2 (pc := 77) dX8_tick_77 rfl rfl ?_
    obtain ⟨i_3, K0⟩ := K0
    refine s_iald (pc := 78) dX8_tick_78 k_b0_1 i_3 ?_
    refine r_iconst (pc := 79) (v := 1) dX8_tick_79 (by decide) ?_
    refine r_iadd (pc := 80) dX8_tick_80 ?_
    refine s_iast (pc := 81) dX8_tick_81 k_b0_1 i_3 ?_
    refine r_aload_n (pc := 82) dX8_tick_82 rfl ?_
    refine s_getR (pc := 83) dX8_tick_83 fl_X8_9 rfl k_b0 g_b0_1 ?_
    refine r_iconst (pc := 86) (v := 4) dX8_tick_86 (by decide) ?_
    refine s_iald (pc := 87) dX8_tick_87 k_b0_1 i_3 ?_
    exact s_iret rfl dX8_tick_88 K0
  · have K0 := K0.2 q
    refine r_aload_n (pc := 43) dX8_tick_43 rfl ?_
    refine r_iload_n (pc := 44) dX8_tick_44 rfl ?_
    refine r_aload_n (pc := 45) dX8_tick_45 rfl ?_
    refine r_iload_n (pc := 46) dX8_tick_46 rfl ?_
    refine r_bipush (pc := 47) (v := 7) dX8_tick_47 (by decide) ?_
    obtain ⟨p_4, K0⟩ := K0
    refine s_VI (pc := 49) mX8_one (ci := 8) (a := b0) (As := [.int l1, .int 7]) dX8_tick_49 lk_X8_67 in_X8_one mo_X8_one ⟨by decide, rfl⟩ ⟨by decide, by decide⟩ (Nat.le_of_ble_eq_true rfl) k_b0 (sr_X8_one k_b0 g_b0_3 k_b0_3 p_4 ⟨by decide, by decide⟩ ?_)
    refine r_iconst (pc := 52) (v := 1) dX8_tick_52 (by decide) ?_
    refine r_aload_n (pc := 53) dX8_tick_53 rfl ?_
    refine s_getR (pc := 54) dX8_tick_54 fl_X8_9 rfl k_b0 g_b0_1 ?_
    refine r_iconst (pc := 57) (v := 4) dX8_tick_57 (by decide) ?_
    obtain ⟨i_5, K0⟩ := K0
    refine s_iald (pc := 58) dX8_tick_58 k_b0_1 i_5 ?_
    refine r_ishl (pc := 59) dX8_tick_59 ?_
    refine r_iand (pc := 60) dX8_tick_60 ?_
    refine r_iconst (pc := 61) (v := 0) dX8_tick_61 (by decide) ?_
    refine r_iconst (pc := 62) (v := 1) dX8_tick_62 (by decide) ?_
    refine s_VV (pc := 63) mX8_goes (ci := 8) (a := b0) (As := [.int l1, .int ((so (gi x b0_3) (l1 : Int32).toNatClampNeg 7) &&& (1 <<< ((gi x b0_1 4) &&& 31))), .int 0, .int 1]) dX8_tick_63 lk_X8_369 in_X8_goes mo_X8_goes ⟨by decide, rfl⟩ ⟨by decide, by decide⟩ (Nat.le_of_ble_eq_true rfl) k_b0 (mSV_mono K0 (fun y_6 K0 => ?_))
    refine r_iinc (pc := 66) (v := l1 + 1) dX8_tick_66 rfl rfl (by decide) ?_
    refine r_goto (pc := 69) (L := [some (.ref b0), some (.int (l1 + 1))]) (tgt := 33) dX8_tick_69 (by decide) ?_
    exact r_le (L' := [some (.ref b0), some (.int (l1 + 1))]) ⟨rfl, ⟨rfl, trivial⟩⟩ K0
section
theorem sq_X8_tick {y : Cn} {Q : Int32 → Cn → Prop} {T : TT} {W C S A N n : Nat} {H : Nat → TT} (r : RS y T n H) (F : WF T W C S A N) (k1 : ¬ 0 < nI W → Q (-2) y) (k2 : 0 < nI W → N = W → Q (-1) y) (k3 : 0 < nI W → ¬ N = W → ∀ z, RFr y z → RS z (uT (accT (tkS N) S T) 4 (nI (N + 1))) (pn n) (push H n T) → Q (nI (N + 1)) z) : mSI mX8_tick [.ref 717] KW y Q := by
  have hS : S ≤ 24 := F.2.2.2.2.2.2.1
  have hW : W ≤ 30 := F.2.2.1
  have hN : N ≤ W := F.2.2.2.2.2.2.2.2.2.2.1
  have M := r.1
  refine v_X8_tick_0 km M.1 km1 ⟨v0 (k := 0) (by decide) rfl rfl, ?_⟩
  rw [r.2.1, F.1, F.2.2.2.2.2.2.2.2.2.1, nI_eq (by omega) (by omega)]
  refine ⟨fun z1 => ⟨v0 (k := 4) (by decide) rfl rfl, fun z2 => r.keeps (fun z f1 r1 => ?_), fun z2 => k2 z1 z2⟩, fun z => k1 z⟩
  have k3 := k3 z1 z2
  refine lp_acc (tkS N) (fun s T' => ∀ v, RFr y v → RS v T' (pn n) (push H n T) → T' 2 = nI S → T' 4 = nI N → GI mX8_tick 33 [some (.ref 717), some (.int (nI s))] [] KW v Q) S T ?_ (fun s T' hs n1 => ?_) z f1 r1 F.2.2.2.2.2.1 F.2.2.2.2.2.2.2.2.2.1
  · intro v f r2 t2 t4
    refine v_X8_tick_33 km r2.1.1 km1 r2.1.2.2.1 km1 ⟨v0 (k := 2) (by decide) rfl rfl, fun _ => ⟨v0 (k := 4) (by decide) rfl rfl, ?_⟩, fun z => absurd (by rw [r2.2.1, t2]; exact Int32.le_refl _) z⟩
    rw [gi_ui, if_pos ⟨rfl, rfl⟩, r2.2.1, t4, nI_1]
    exact k3 _ f.u8 r2.u8
  · intro v f r2 t2 t4
    refine v_X8_tick_33 km r2.1.1 km1 r2.1.2.2.1 km1 ⟨v0 (k := 2) (by decide) rfl rfl, fun z => absurd (by rw [r2.2.1, t2] at z; exact z) (nI_ge hs (by omega)), fun _ => ⟨l24_nI (by omega) rfl, v0 (k := 4) (by decide) rfl rfl, ?_⟩⟩
    rw [r2.2.1, t4, nI_clamp (by omega), nI_1]
    refine sp_X8_goes (k := 0) (o := 1) r2 (by omega) (by decide) (by decide) (by decide) (fun v2 f2 r3 => n1 _ rfl v2 (f.tr f2) r3 ?_ ?_)
    · show goT T' s _ 0 1 2 = _
      rw [goT_off _ _ _ (by decide) (by decide) 2 (by omega)]; exact t2
    · show goT T' s _ 0 1 4 = _
      rw [goT_off _ _ _ (by decide) (by decide) 4 (by omega)]; exact t4
/-! gives -/
theorem goT_0 (T : TT) (s k o : Nat) (hk : k < 5) (ho : o < 5) (hko : k ≠ o) : goT T s 0 k o = T := by
  funext i
  unfold goT
  rw [show ((0 : Int32) ^^^ (-1)) = -1 by decide, show so T s (7 + k) &&& (-1) = so T s (7 + k) from Int32.and_neg_one, Int32.or_zero]
  unfold uT so
  by_cases c : i = 62 + 12 * s + (7 + o)
  · rw [if_pos c, c]
  · rw [if_neg c]
    by_cases d : i = 62 + 12 * s + (7 + k)
    · rw [if_pos d, d]
    · rw [if_neg d]
theorem cpt_z {v : Int32} (h : cpt v = 0) : v = 0 := by
  by_cases c : v.toBitVec.toNat = 0
  · exact tn_inj (by rw [c]; rfl)
  · have := npc_pos 32 v.toBitVec.toNat (by omega) (tn_lt v)
    unfold cpt at h
    omega
def gvS (W N : Nat) (a b : Int32) : Nat → TT × Int32 → TT × Int32 := fun s t => if so t.1 s 0 = a ∧ so t.1 s 1 = b then (goT t.1 s (opf t.1 W s (N + 4)) 0 4, t.2 + nI (cpt (opf t.1 W s (N + 4)))) else t
end
set_option maxHeartbeats 2000000 in
theorem v_X7_gives_0 {K : Sh} {x : Cn} {Q : Int32 → Cn → Prop} {b0 : Nat} {l1 : Int32} {l2 : Int32} {b0_3 : Nat} {b0_2 : Nat} (k_b0 : kk K b0 = some (7, 0)) (g_b0_3 : gr x b0 3 = some b0_3) (k_b0_3 : kk K b0_3 = some (1, 0)) (g_b0_2 : gr x b0 2 = some b0_2) (k_b0_2 : kk K b0_2 = some (4, 0)) (K0 : (¬ (0 ≤ l1 ∧ l1 < gi x b0_3 0) → (Q (-2) x)) ∧ ((0 ≤ l1 ∧ l1 < gi x b0_3 0) → (((0 < gi x b0_2 0 ∧ 0 ≤ l2 ∧ l2 < 7) → (GI mX7_gives 38 [some (.ref b0), some (.int l1), some (.int l2), some (.int (f_bf ((gi x b0_2 1) + 4))), some (.int 0), some (.int 0), none, none] [] K x Q)) ∧ (¬ (0 < gi x b0_2 0 ∧ 0 ≤ l2 ∧ l2 < 7) → (Q (-2) x))))) : mSI mX7_gives [.ref b0, .int l1, .int l2] K x Q := by
  refine s_I (by decide) (by simp [Value.category]) (Nat.le_of_ble_eq_true rfl) ?_
  show mGM mX7_gives 0 [some (.ref b0), some (.int l1), some (.int l2), none, none, none, none, none] [] (hp K x) (PI K Q)
  refine r_aload_n (pc := 0) dX7_gives_0 rfl ?_
  refine r_iload_n (pc := 1) dX7_gives_1 rfl ?_
  refine s_VI (pc := 2) mX7_isCarrier (ci := 7) (a := b0) (As := [.int l1]) dX7_gives_2 lk_X7_109 in_X7_isCarrier mo_X7_isCarrier ⟨by decide, rfl⟩ ⟨by decide, by decide⟩ (Nat.le_of_ble_eq_true rfl) k_b0 (sp_X7_isCarrier k_b0 g_b0_3 k_b0_3 ?_)
  refine r_if_eq (pc := 5) (tgt := 16) dX7_gives_5 (by decide) (fun q => ?_) (fun q => ?_)
  · have q := (b2i_z _).mp q
    have K0 := K0.1 q
    refine r_bipush (pc := 16) (v := (-2)) dX7_gives_16 (by decide) ?_
    exact s_iret rfl dX7_gives_18 K0
  · have q := b2i_nz q
    have K0 := K0.2 q
    refine r_aload_n (pc := 8) dX7_gives_8 rfl ?_
    refine r_iload_n (pc := 9) dX7_gives_9 rfl ?_
    refine s_VI (pc := 10) mX7_isDay (ci := 7) (a := b0) (As := [.int l2]) dX7_gives_10 lk_X7_245 in_X7_isDay mo_X7_isDay ⟨by decide, rfl⟩ ⟨by decide, by decide⟩ (Nat.le_of_ble_eq_true rfl) k_b0 (sp_X7_isDay k_b0 g_b0_2 k_b0_2 ?_)
    refine r_if_ne (pc := 13) (tgt := 19) dX7_gives_13 (by decide) (fun q => ?_) (fun q => ?_)
    · have q := b2i_nz q
      have K0 := K0.1 q
      refine r_aload_n (pc := 19) dX7_gives_19 rfl ?_
      refine s_getR (pc := 20) dX7_gives_20 fl_X7_20 rfl k_b0 g_b0_2 ?_
      refine s_getI (pc := 23) dX7_gives_23 fl_X7_103 rfl k_b0_2 ?_
      refine r_iconst (pc := 26) (v := 4) dX7_gives_26 (by decide) ?_
      refine r_iadd (pc := 27) dX7_gives_27 ?_
      refine s_SI (pc := 28) mX7_bitsFrom (As := [.int ((gi x b0_2 1) + 4)]) dX7_gives_28 lk_X7_342 st_X7_bitsFrom mo_X7_bitsFrom ⟨by decide, by decide⟩ (Nat.le_of_ble_eq_true rfl) (sp_X7_bitsFrom  ?_)
      refine r_istore_n (pc := 31) dX7_gives_31 (by decide) ?_
      refine r_iconst (pc := 32) (L := [some (.ref b0), some (.int l1), some (.int l2), some (.int (f_bf ((gi x b0_2 1) + 4))), none, none, none, none]) (v := 0) dX7_gives_32 (by decide) ?_
      refine r_istore (pc := 33) dX7_gives_33 (by decide) ?_
      refine r_iconst (pc := 35) (L := [some (.ref b0), some (.int l1), some (.int l2), some (.int (f_bf ((gi x b0_2 1) + 4))), some (.int 0), none, none, none]) (v := 0) dX7_gives_35 (by decide) ?_
      refine r_istore (pc := 36) dX7_gives_36 (by decide) ?_
      exact r_le (L' := [some (.ref b0), some (.int l1), some (.int l2), some (.int (f_bf ((gi x b0_2 1) + 4))), some (.int 0), some (.int 0), none, none]) ⟨rfl, ⟨rfl, ⟨rfl, ⟨rfl, ⟨rfl, ⟨rfl, trivial⟩⟩⟩⟩⟩⟩ K0
    · have q := (b2i_z _).mp q
      have K0 := K0.2 q
      refine r_bipush (pc := 16) (v := (-2)) dX7_gives_16 (by decide) ?_
      exact s_iret rfl dX7_gives_18 K0

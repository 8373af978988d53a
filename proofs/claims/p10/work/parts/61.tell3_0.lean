theorem g_ldcwS {B : BT} {c : Nat × Nat} {ad : Nat → Nat} {M : MR} {P : MP} {pc : Nat} {L : List (Option Value)} {st : List Value} {h : HP} {j i : Nat} {tx : String} {by9 : List Int32} (X : mCx B c ad M P) (d : decode M.2.1 pc = .ok (.ldc_w i, 3)) (hv : mS[j]? = some (M.1.cls, i, tx, by9)) (k : mG B c ad M.2.2.1 (pc + 3) L (.ref (mSB + j) :: st) h) : mG B c ad M.2.2.1 pc L (st) h := by
  obtain ⟨p, l, e0, R, s, m, args, below, meth, cd, Q, D, A⟩ := B
  intro H locs ls h1 h2 h3 T hT X2
  obtain ⟨t, a1, b1⟩ := k H locs ls h1 h2 h3 T hT X2
  have hZ := (X.2.2.2.2.2.2.2.2.1.2.2.1 j _ hv).1
  have hb := X.2.1
  exact ⟨t, Stand.ldcStringW X2 X.1 X.2.2.2.1 (text := tx) hZ.1 hZ.2 rfl (by rw [hb]; exact d) t a1, b1⟩
theorem r_ldcwS {M : MR} {P : MP} {pc : Nat} {L : List (Option Value)} {st : List Value} {h : HP} {j i : Nat} {tx : String} {by9 : List Int32} (d : decode M.2.1 pc = .ok (.ldc_w i, 3)) (hv : mS[j]? = some (M.1.cls, i, tx, by9)) (k : mGM M (pc + 3) L (.ref (mSB + j) :: st) h P) : mGM M pc L (st) h P := fun B c ad X => g_ldcwS X d hv (k B c ad X)
set_option maxHeartbeats 2000000 in
theorem v_X8_says_0 {K : Sh} {x : Cn} {Q : Cn → Prop} {b0 : Nat} {l1 : Int32} {b0_21 : Nat} {n_b0_21 : Nat} (k_b0 : kk K b0 = some (8, 0)) (g_b0_21 : gr x b0 21 = some b0_21) (k_b0_21 : kk K b0_21 = some (21, n_b0_21)) (K0 : vp_in (gi x b0 22) n_b0_21 ∧ (∀ r_2 : Int32, r_2 = gi (ui x b0_21 ((gi x b0 22) : Int32).toNatClampNeg (((l1 : Int32).toInt8.toInt32 : Int32).toInt8.toInt32)) b0 22 → (Q (ui (ui x b0_21 ((gi x b0 22) : Int32).toNatClampNeg (((l1 : Int32).toInt8.toInt32 : Int32).toInt8.toInt32)) b0 22 (r_2 + 1))))) : mSV mX8_says [.ref b0, .int l1] K x Q := by
  refine s_V (by decide) (by simp [Value.category]) (Nat.le_of_ble_eq_true rfl) ?_
  show mGM mX8_says 0 [some (.ref b0), some (.int l1)] [] (hp K x) (PV K Q)
  refine r_aload_n (pc := 0) dX8_says_0 rfl ?_
  refine s_getR (pc := 1) dX8_says_1 fl_X8_39 rfl k_b0 g_b0_21 ?_
  refine r_aload_n (pc := 4) dX8_says_4 rfl ?_
  refine s_getI (pc := 5) dX8_says_5 fl_X8_398 rfl k_b0 ?_
  refine r_iload_n (pc := 8) dX8_says_8 rfl ?_
  refine r_i2b (pc := 9) dX8_says_9 ?_
  obtain ⟨i_1, K0⟩ := K0
  refine s_bast (pc := 10) dX8_says_10 k_b0_21 i_1 ?_
  refine r_aload_n (pc := 11) dX8_says_11 rfl ?_
  refine r_dup (pc := 12) dX8_says_12 rfl ?_
  refine s_getI (pc := 13) dX8_says_13 fl_X8_398 rfl k_b0 ?_
  obtain ⟨r_2, w_3⟩ : ∃ z : Int32, z = gi (ui x b0_21 ((gi x b0 22) : Int32).toNatClampNeg (((l1 : Int32).toInt8.toInt32 : Int32).toInt8.toInt32)) b0 22 := ⟨_, rfl⟩
  rw [← w_3]
  have K0 := K0 r_2 w_3
  refine r_iconst (pc := 16) (v := 1) dX8_says_16 (by decide) ?_
  refine r_iadd (pc := 17) dX8_says_17 ?_
  refine s_putI (pc := 18) dX8_says_18 fl_X8_398 rfl rfl k_b0 ?_
  exact s_ret rfl dX8_says_21 K0
section
theorem sp_X8_says {x : Cn} {Q : Cn → Prop} {l : List Nat} {B n : Nat} (hn : n < 128) (M : MRf x 718) (w : OR x l B) (hB : B < 2400) (k : ∀ y, OFr x y → OR y (l ++ [n]) (B + 1) → Q y) : mSV mX8_says [.ref 717, .int (nI n)] KW x Q := by
  have hl := w.2.2
  refine v_X8_says_0 km M.2.2.2.2.2.2.2.2 km725 ?_
  rw [w.1, nI_clamp (by omega), b8 n hn, b8 n hn]
  refine ⟨vp_in_nI (by omega) (by decide), fun r hr => ?_⟩
  have er : r = nI l.length := by rw [hr, gi_ui, if_neg (by omega)]; exact w.1
  rw [er, nI_1]
  refine k _ ⟨rfl, fun a j a1 a2 => by rw [gi_ui, if_neg a2, gi_ui, if_neg (fun u => a1 u.1)]⟩ ⟨?_, fun i hi => ?_, ?_⟩
  · rw [gi_ui, if_pos ⟨rfl, rfl⟩, List.length_append]; rfl
  · rw [List.length_append] at hi
    have hi : i < l.length + 1 := hi
    rw [gi_ui, if_neg (by omega), gi_ui]
    by_cases c1 : i = l.length
    · rw [if_pos ⟨rfl, c1⟩, gD_r (by omega), c1, Nat.sub_self]; exact ⟨rfl, hn⟩
    · rw [if_neg (fun u => c1 u.2), gD_l (by omega)]; exact w.2.1 i (by omega)
  · rw [List.length_append]; show l.length + 1 ≤ B + 1; omega
end
set_option maxHeartbeats 2000000 in
theorem v_X8_saysText_0 {K : Sh} {x : Cn} {Q : Cn → Prop} {b0 : Nat} {j1 : Nat} {q1 : String × Nat × String × List Int32} (hj1 : mS[j1]? = some q1)   (K0 : GV mX8_saysText 2 [some (.ref b0), some (.ref (mSB + j1)), some (.int 0)] [] K x Q) : mSV mX8_saysText [.ref b0, .ref (mSB + j1)] K x Q := by
  refine s_V (by decide) (by simp [Value.category]) (Nat.le_of_ble_eq_true rfl) ?_
  show mGM mX8_saysText 0 [some (.ref b0), some (.ref (mSB + j1)), none] [] (hp K x) (PV K Q)
  refine r_iconst (pc := 0) (v := 0) dX8_saysText_0 (by decide) ?_
  refine r_istore_n (pc := 1) dX8_saysText_1 (by decide) ?_
  exact r_le (L' := [some (.ref b0), some (.ref (mSB + j1)), some (.int 0)]) ⟨rfl, ⟨rfl, ⟨rfl, trivial⟩⟩⟩ K0
set_option maxHeartbeats 2000000 in
theorem v_X8_saysText_2 {K : Sh} {x : Cn} {Q : Cn → Prop} {b0 : Nat} {j1 : Nat} {q1 : String × Nat × String × List Int32} (hj1 : mS[j1]? = some q1) {l2 : Int32}  (k_b0 : kk K b0 = some (8, 0)) (K0 : ((nI q1.2.2.2.length) ≤ l2 → (Q x)) ∧ (¬ (nI q1.2.2.2.length) ≤ l2 → (∃ n_2 : Nat, l2 = nI n_2 ∧ (n_2 < q1.2.2.2.length ∧ (mSV mX8_says [.ref b0, .int (q1.2.2.2.getD n_2 0)] K x (fun y_3 => GV mX8_saysText 2 [some (.ref b0), some (.ref (mSB + j1)), some (.int (l2 + 1))] [] K y_3 Q)))))) : GV mX8_saysText 2 [some (.ref b0), some (.ref (mSB + j1)), some (.int l2)] [] K x Q := by
  show mGM mX8_saysText 2 [some (.ref b0), some (.ref (mSB + j1)), some (.int l2)] [] (hp K x) (PV K Q)
  refine r_iload_n (pc := 2) dX8_saysText_2 rfl ?_
  refine r_aload_n (pc := 3) dX8_saysText_3 rfl ?_
  refine s_VIs (pc := 4) mJ0_length_8abf5 (j := j1) (q := q1) (As := []) dX8_saysText_4 lk_X8_138 in_J0_length_8abf5 mo_J0_length_8abf5 hj1 rfl ⟨by decide, by decide⟩ (Nat.le_of_ble_eq_true rfl) (sp_len hj1 ?_)
  refine r_icmp_ge (pc := 7) (tgt := 25) dX8_saysText_7 (by decide) (fun q => ?_) (fun q => ?_)
  · have K0 := K0.1 q
    exact s_ret rfl dX8_saysText_25 K0
  · have K0 := K0.2 q
    refine r_aload_n (pc := 10) dX8_saysText_10 rfl ?_
    refine r_aload_n (pc := 11) dX8_saysText_11 rfl ?_
    refine r_iload_n (pc := 12) dX8_saysText_12 rfl ?_
    obtain ⟨n_2, en_2, un_2, K0⟩ := K0
    refine s_VIs (pc := 13) mJ0_charAt_5068e (j := j1) (q := q1) (As := [.int l2]) dX8_saysText_13 lk_X8_143 in_J0_charAt_5068e mo_J0_charAt_5068e hj1 rfl ⟨by decide, by decide⟩ (Nat.le_of_ble_eq_true rfl) (sp_chv hj1 en_2 un_2 ?_)
    refine s_VV (pc := 16) mX8_says (ci := 8) (a := b0) (As := [.int (q1.2.2.2.getD n_2 0)]) dX8_saysText_16 lk_X8_401 in_X8_says mo_X8_says ⟨by decide, rfl⟩ ⟨by decide, by decide⟩ (Nat.le_of_ble_eq_true rfl) k_b0 (mSV_mono K0 (fun y_3 K0 => ?_))
    refine r_iinc (pc := 19) (v := l2 + 1) dX8_saysText_19 rfl rfl (by decide) ?_
    refine r_goto (pc := 22) (L := [some (.ref b0), some (.ref (mSB + j1)), some (.int (l2 + 1))]) (tgt := 2) dX8_saysText_22 (by decide) ?_
    exact r_le (L' := [some (.ref b0), some (.ref (mSB + j1)), some (.int (l2 + 1))]) ⟨rfl, ⟨rfl, ⟨rfl, trivial⟩⟩⟩ K0
section
theorem sp_X8_saysText {x : Cn} {Q : Cn → Prop} {l : List Nat} {B j m : Nat} {q : String × Nat × String × List Int32} (hj : mS[j]? = some q) (hm : q.2.2.2.length ≤ m) (M : MRf x 718) (w : OR x l B) (hB : B + m ≤ 2400) (k : ∀ y, OFr x y → OR y (l ++ wq q) (B + m) → Q y) : mSV mX8_saysText [.ref 717, .ref (mSB + j)] KW x Q := by
  have key : ∀ r n v, n + r = q.2.2.2.length → OFr x v → OR v (l ++ (wq q).take n) (B + n) → GV mX8_saysText 2 [some (.ref 717), some (.ref (mSB + j)), some (.int (nI n))] [] KW v Q := by
    intro r
    induction r with
    | zero =>
      intro n v hn fv wv
      refine v_X8_saysText_2 hj km ⟨fun _ => k v fv ?_, fun z => absurd (nI_le (by omega) (by omega)) z⟩
      rw [List.take_of_length_le (by rw [wq_len]; omega)] at wv
      exact wv.le (by omega)
    | succ r ih =>
      intro n v hn fv wv
      have ha := wq_at hj (n := n) (by omega)
      refine v_X8_saysText_2 hj km ⟨fun z => absurd z (nI_ge (by omega) (by omega)), fun _ => ⟨n, rfl, by omega, ?_⟩⟩
      rw [ha.1, nI_1]
      refine sp_X8_says ha.2 (M.keep fv.1) wv (by omega) (fun u fu wu => ih (n + 1) u (by omega) (fv.tr fu) ?_)
      have e : (wq q).take (n + 1) = (wq q).take n ++ [(wq q).getD n 0] := by
        rw [List.take_add_one, List.getD_eq_getElem?_getD, List.getElem?_eq_getElem (by rw [wq_len]; omega)]
        rfl
      rw [e, ← List.append_assoc]
      exact wu
  exact v_X8_saysText_0 hj (key q.2.2.2.length 0 x (by omega) (OFr.rf x) (by rw [List.take_zero, List.append_nil]; exact w))
end
set_option maxHeartbeats 2000000 in
theorem v_X8_saysNumber_0 {K : Sh} {x : Cn} {Q : Cn → Prop} {b0 : Nat} {l1 : Int32}  (k_b0 : kk K b0 = some (8, 0)) (K0 : (l1 < 10 → (mSV mX8_says [.ref b0, .int (48 + (l1 - l1 / 10 * 10))] K x (fun y_2 => Q y_2))) ∧ (¬ l1 < 10 → (mSV mX8_says [.ref b0, .int (48 + (l1 / 10))] K x (fun y_3 => mSV mX8_says [.ref b0, .int (48 + (l1 - l1 / 10 * 10))] K y_3 (fun y_4 => Q y_4))))) : mSV mX8_saysNumber [.ref b0, .int l1] K x Q := by
  refine s_V (by decide) (by simp [Value.category]) (Nat.le_of_ble_eq_true rfl) ?_
  show mGM mX8_saysNumber 0 [some (.ref b0), some (.int l1)] [] (hp K x) (PV K Q)
  refine r_iload_n (pc := 0) dX8_saysNumber_0 rfl ?_
  refine r_bipush (pc := 1) (v := 10) dX8_saysNumber_1 (by decide) ?_
  refine r_icmp_lt (pc := 3) (tgt := 17) dX8_saysNumber_3 (by decide) (fun q => ?_) (fun q => ?_)
  · have K0 := K0.1 q
    refine r_aload_n (pc := 17) dX8_saysNumber_17 rfl ?_
    refine r_bipush (pc := 18) (v := 48) dX8_saysNumber_18 (by decide) ?_
    refine r_iload_n (pc := 20) dX8_saysNumber_20 rfl ?_
    refine r_bipush (pc := 21) (v := 10) dX8_saysNumber_21 (by decide) ?_
    refine r_irem (pc := 23) dX8_saysNumber_23 (by decide) ?_
    refine r_iadd (pc := 24) dX8_saysNumber_24 ?_
    refine s_VV (pc := 25) mX8_says (ci := 8) (a := b0) (As := [.int (48 + (l1 - l1 / 10 * 10))]) dX8_saysNumber_25 lk_X8_401 in_X8_says mo_X8_says ⟨by decide, rfl⟩ ⟨by decide, by decide⟩ (Nat.le_of_ble_eq_true rfl) k_b0 (mSV_mono K0 (fun y_2 K0 => ?_))
    exact s_ret rfl dX8_saysNumber_28 K0
  · have K0 := K0.2 q
    refine r_aload_n (pc := 6) dX8_saysNumber_6 rfl ?_
    refine r_bipush (pc := 7) (v := 48) dX8_saysNumber_7 (by decide) ?_
    refine r_iload_n (pc := 9) dX8_saysNumber_9 rfl ?_
    refine r_bipush (pc := 10) (v := 10) dX8_saysNumber_10 (by decide) ?_
    refine r_idiv (pc := 12) dX8_saysNumber_12 (by decide) ?_
    refine r_iadd (pc := 13) dX8_saysNumber_13 ?_
    refine s_VV (pc := 14) mX8_says (ci := 8) (a := b0) (As := [.int (48 + (l1 / 10))]) dX8_saysNumber_14 lk_X8_401 in_X8_says mo_X8_says ⟨by decide, rfl⟩ ⟨by decide, by decide⟩ (Nat.le_of_ble_eq_true rfl) k_b0 (mSV_mono K0 (fun y_3 K0 => ?_))
    refine r_aload_n (pc := 17) dX8_saysNumber_17 rfl ?_
    refine r_bipush (pc := 18) (v := 48) dX8_saysNumber_18 (by decide) ?_
    refine r_iload_n (pc := 20) dX8_saysNumber_20 rfl ?_
    refine r_bipush (pc := 21) (v := 10) dX8_saysNumber_21 (by decide) ?_
    refine r_irem (pc := 23) dX8_saysNumber_23 (by decide) ?_
    refine r_iadd (pc := 24) dX8_saysNumber_24 ?_
    refine s_VV (pc := 25) mX8_says (ci := 8) (a := b0) (As := [.int (48 + (l1 - l1 / 10 * 10))]) dX8_saysNumber_25 lk_X8_401 in_X8_says mo_X8_says ⟨by decide, rfl⟩ ⟨by decide, by decide⟩ (Nat.le_of_ble_eq_true rfl) k_b0 (mSV_mono K0 (fun y_4 K0 => ?_))
    exact s_ret rfl dX8_saysNumber_28 K0
section
theorem sp_X8_saysNumber {x : Cn} {Q : Cn → Prop} {l : List Nat} {B n : Nat} (hn : n < 100) (M : MRf x 718) (w : OR x l B) (hB : B + 2 ≤ 2400) (k : ∀ y, OFr x y → OR y (l ++ numL n) (B + 2) → Q y) : mSV mX8_saysNumber [.ref 717, .int (nI n)] KW x Q := by
  have e1 : nI n - nI n / 10 * 10 = nI (n % 10) := pk_rem (d := 10) (by omega) (by decide) (by decide)
  have e2 : nI n / 10 = nI (n / 10) := pk_div (d := 10) (by omega) (by decide) (by decide)
  refine v_X8_saysNumber_0 km ?_
  rw [e1, e2, n48, n48, show nI n < 10 ↔ n < 10 from nI_ltI (b := 10) (by omega) (by decide)]
  refine ⟨fun z => sp_X8_says (by omega) M w (by omega) (fun v fv wv => k v fv ?_), fun z => sp_X8_says (by omega) M w (by omega) (fun v fv wv => sp_X8_says (by omega) (M.keep fv.1) wv (by omega) (fun u fu wu => k u (fv.tr fu) ?_))⟩
  · unfold numL
    rw [if_pos z]
    rw [show n % 10 = n by omega] at wv
    exact wv.le (by omega)
  · unfold numL
    rw [if_neg z]
    rw [List.append_assoc] at wu
    exact wu
end
set_option maxHeartbeats 2000000 in
theorem v_X8_saysName_0 {K : Sh} {x : Cn} {Q : Cn → Prop} {b0 : Nat} {l1 : Int32}   (K0 : GV mX8_saysName 2 [some (.ref b0), some (.int l1), some (.int 0)] [] K x Q) : mSV mX8_saysName [.ref b0, .int l1] K x Q := by
  refine s_V (by decide) (by simp [Value.category]) (Nat.le_of_ble_eq_true rfl) ?_
  show mGM mX8_saysName 0 [some (.ref b0), some (.int l1), none] [] (hp K x) (PV K Q)
  refine r_iconst (pc := 0) (v := 0) dX8_saysName_0 (by decide) ?_
  refine r_istore_n (pc := 1) dX8_saysName_1 (by decide) ?_
  exact r_le (L' := [some (.ref b0), some (.int l1), some (.int 0)]) ⟨rfl, ⟨rfl, ⟨rfl, trivial⟩⟩⟩ K0
set_option maxHeartbeats 2000000 in
theorem v_X8_saysName_2 {K : Sh} {x : Cn} {Q : Cn → Prop} {b0 : Nat} {l1 : Int32} {l2 : Int32} {b0_1 : Nat} {n_b0_1 : Nat} (k_b0 : kk K b0 = some (8, 0)) (g_b0_1 : gr x b0 1 = some b0_1) (k_b0_1 : kk K b0_1 = some (20, n_b0_1)) (K0 : (6 ≤ l2 → (Q x)) ∧ (¬ 6 ≤ l2 → (vp_in (54 + l1) n_b0_1 ∧ (mSI mX8_letterOf [.int (gi x b0_1 ((54 + l1) : Int32).toNatClampNeg), .int l2] K x (fun r_4 y_3 => (r_4 ≤ 0 → (GV mX8_saysName 2 [some (.ref b0), some (.int l1), some (.int (l2 + 1))] [] K y_3 Q)) ∧ (¬ r_4 ≤ 0 → (gr y_3 b0 1 = some b0_1 ∧ (mSI mX8_letterOf [.int (gi y_3 b0_1 ((54 + l1) : Int32).toNatClampNeg), .int l2] K y_3 (fun r_8 y_7 => mSV mX8_says [.ref b0, .int ((97 + r_8) - 1)] K y_7 (fun y_9 => GV mX8_saysName 2 [some (.ref b0), some (.int l1), some (.int (l2 + 1))] [] K y_9 Q)))))))))) : GV mX8_saysName 2 [some (.ref b0), some (.int l1), some (.int l2)] [] K x Q := by
  show mGM mX8_saysName 2 [some (.ref b0), some (.int l1), some (.int l2)] [] (hp K x) (PV K Q)
  refine r_iload_n (pc := 2) dX8_saysName_2 rfl ?_
  refine r_bipush (pc := 3) (v := 6) dX8_saysName_3 (by decide) ?_
  refine r_icmp_ge (pc := 5) (tgt := 52) dX8_saysName_5 (by decide) (fun q => ?_) (fun q => ?_)
  · have K0 := K0.1 q
    exact s_ret rfl dX8_saysName_52 K0
  · have K0 := K0.2 q
    refine r_aload_n (pc := 8) dX8_saysName_8 rfl ?_
    refine s_getR (pc := 9) dX8_saysName_9 fl_X8_9 rfl k_b0 g_b0_1 ?_
    refine r_bipush (pc := 12) (v := 54) dX8_saysName_12 (by decide) ?_
    refine r_iload_n (pc := 14) dX8_saysName_14 rfl ?_
    refine r_iadd (pc := 15) dX8_saysName_15 ?_
    obtain ⟨i_2, K0⟩ := K0
    refine s_iald (pc := 16) dX8_saysName_16 k_b0_1 i_2 ?_
    refine r_iload_n (pc := 17) dX8_saysName_17 rfl ?_
    refine s_SI (pc := 18) mX8_letterOf (As := [.int (gi x b0_1 ((54 + l1) : Int32).toNatClampNeg), .int l2]) dX8_saysName_18 lk_X8_270 st_X8_letterOf mo_X8_letterOf ⟨by decide, by decide⟩ (Nat.le_of_ble_eq_true rfl) (mSI_mono K0 (fun r_4 y_3 K0 => ?_))
    refine r_if_le (pc := 21) (tgt := 46) dX8_saysName_21 (by decide) (fun q => ?_) (fun q => ?_)
    · have K0 := K0.1 q
      refine r_iinc (pc := 46) (v := l2 + 1) dX8_saysName_46 rfl rfl (by decide) ?_
      refine r_goto (pc := 49) (L := [some (.ref b0), some (.int l1), some (.int (l2 + 1))]) (tgt := 2) dX8_saysName_49 (by decide) ?_
      exact r_le (L' := [some (.ref b0), some (.int l1), some (.int (l2 + 1))]) ⟨rfl, ⟨rfl, ⟨rfl, trivial⟩⟩⟩ K0
    · have K0 := K0.2 q
      refine r_aload_n (pc := 24) dX8_saysName_24 rfl ?_
      refine r_bipush (pc := 25) (v := 97) dX8_saysName_25 (by decide) ?_
      refine r_aload_n (pc := 27) dX8_saysName_27 rfl ?_
      obtain ⟨g_6, K0⟩ := K0
      refine s_getR (pc := 28) dX8_saysName_28 fl_X8_9 rfl k_b0 g_6 ?_
      refine r_bipush (pc := 31) (v := 54) dX8_saysName_31 (by decide) ?_
      refine r_iload_n (pc := 33) dX8_saysName_33 rfl ?_
      refine r_iadd (pc := 34) dX8_saysName_34 ?_
      refine s_iald (pc := 35) dX8_saysName_35 k_b0_1 i_2 ?_
      refine r_iload_n (pc := 36) dX8_saysName_36 rfl ?_
      refine s_SI (pc := 37) mX8_letterOf (As := [.int (gi y_3 b0_1 ((54 + l1) : Int32).toNatClampNeg), .int l2]) dX8_saysName_37 lk_X8_270 st_X8_letterOf mo_X8_letterOf ⟨by decide, by decide⟩ (Nat.le_of_ble_eq_true rfl) (mSI_mono K0 (fun r_8 y_7 K0 => ?_))
      refine r_iadd (pc := 40) dX8_saysName_40 ?_
      refine r_iconst (pc := 41) (v := 1) dX8_saysName_41 (by decide) ?_
      refine r_isub (pc := 42) dX8_saysName_42 ?_
      refine s_VV (pc := 43) mX8_says (ci := 8) (a := b0) (As := [.int ((97 + r_8) - 1)]) dX8_saysName_43 lk_X8_401 in_X8_says mo_X8_says ⟨by decide, rfl⟩ ⟨by decide, by decide⟩ (Nat.le_of_ble_eq_true rfl) k_b0 (mSV_mono K0 (fun y_9 K0 => ?_))
      refine r_iinc (pc := 46) (v := l2 + 1) dX8_saysName_46 rfl rfl (by decide) ?_
      refine r_goto (pc := 49) (L := [some (.ref b0), some (.int l1), some (.int (l2 + 1))]) (tgt := 2) dX8_saysName_49 (by decide) ?_
      exact r_le (L' := [some (.ref b0), some (.int l1), some (.int (l2 + 1))]) ⟨rfl, ⟨rfl, ⟨rfl, trivial⟩⟩⟩ K0
section
end

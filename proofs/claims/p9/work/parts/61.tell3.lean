theorem g_ldcwS {B : BT} {c : Nat × Nat} {ad : Nat → Nat} {M : MR} {P : MP} {pc : Nat} {L : List (Option Value)} {st : List Value} {h : HP} {j i : Nat} {tx : String} {by9 : List Int32} (X : mCx B c ad M P) (d : decode M.2.1 pc = .ok (.ldc_w i, 3)) (hv : mS[j]? = some (M.1.cls, i, tx, by9)) (k : mG B c ad M.2.2.1 (pc + 3) L (.ref (mSB + j) :: st) h) : mG B c ad M.2.2.1 pc L (st) h := by
  obtain ⟨p, l, e0, R, s, m, args, below, meth, cd, Q, D, A⟩ := B
  intro H locs ls h1 h2 h3 T hT X2
  obtain ⟨t, a1, b1⟩ := k H locs ls h1 h2 h3 T hT X2
  have hZ := (X.2.2.2.2.2.2.2.2.1.2.2.1 j _ hv).1
  have hb := X.2.1
  exact ⟨t, Stand.ldcStringW X2 X.1 X.2.2.2.1 (text := tx) hZ.1 hZ.2 rfl (by rw [hb]; exact d) t a1, b1⟩
theorem r_ldcwS {M : MR} {P : MP} {pc : Nat} {L : List (Option Value)} {st : List Value} {h : HP} {j i : Nat} {tx : String} {by9 : List Int32} (d : decode M.2.1 pc = .ok (.ldc_w i, 3)) (hv : mS[j]? = some (M.1.cls, i, tx, by9)) (k : mGM M (pc + 3) L (.ref (mSB + j) :: st) h P) : mGM M pc L (st) h P := fun B c ad X => g_ldcwS X d hv (k B c ad X)
set_option maxHeartbeats 2000000 in
theorem v_X8_says_0 {K : Sh} {x : Cn} {Q : Cn → Prop} {b0 : Nat} {l1 : Int32} {b0_21 : Nat} {n_b0_21 : Nat} (k_b0 : kk K b0 = some (8, 0)) (g_b0_21 : gr x b0 21 = some b0_21) (k_b0_21 : kk K b0_21 = some (21, n_b0_21)) (K0 : vp_in (gi x b0 22) n_b0_21 ∧ (∀ r_2 : Int32, r_2 = gi (ui x b0_21 ((gi x b0 22) : Int32).toNatClampNeg (((l1 : Int32).toInt8.toInt32 : Int32).toInt8.toInt32)) b0 22 → (Q (ui (ui x b0_21 ((gi x b0 22) : Int32).toNatClampNeg (((l1 : Int32).toInt8.toInt32 : Int32).toInt8.toInt32)) b0 22 (r_2 + 1))))) : mSV mX8_says [.ref b0, .int l1] K x Q := by
  refine s_V (by decide) (by simp [Value.category]) (Nat.le_of_ble_eq_true rfl) ?_
  show mGM mX8_says 0 [some (.ref b0), some (.int l1)] [] (hp K x) (PV K Q)
  refine r_aload_n (pc := 0) dX8_says_0 rfl ?_
  refine s_getR (pc := 1) dX8_says_1 fl_X8_39 rfl k_b0 g_b0_21 ?_
  refine r_aload_n (pc := 4) dX8_says_4 rfl ?_
  refine s_getI (pc := 5) dX8_says_5 fl_X8_398 rfl k_b0 ?_
  refine r_iload_n (pc := 8) dX8_says_8 rfl ?_
  refine r_i2b (pc := 9) dX8_says_9 ?_
  obtain ⟨i_1, K0⟩ := K0
  refine s_bast (pc := 10) dX8_says_10 k_b0_21 i_1 ?_
  refine r_aload_n (pc := 11) dX8_says_11 rfl ?_
  refine r_dup (pc := 12) dX8_says_12 rfl ?_
  refine s_getI (pc := 13) dX8_says_13 fl_X8_398 rfl k_b0 ?_
  obtain ⟨r_2, w_3⟩ : ∃ z : Int32, z = gi (ui x b0_21 ((gi x b0 22) : Int32).toNatClampNeg (((l1 : Int32).toInt8.toInt32 : Int32).toInt8.toInt32)) b0 22 := ⟨_, rfl⟩
  rw [← w_3]
  have K0 := K0 r_2 w_3
  refine r_iconst (pc := 16) (v := 1) dX8_says_16 (by decide) ?_
  refine r_iadd (pc := 17) dX8_says_17 ?_
  refine s_putI (pc := 18) dX8_says_18 fl_X8_398 rfl rfl k_b0 ?_
  exact s_ret rfl dX8_says_21 K0
section
theorem sp_X8_says {x : Cn} {Q : Cn → Prop} {l : List Nat} {B n : Nat} (hn : n < 128) (M : MRf x 718) (w : OR x l B) (hB : B < 2400) (k : ∀ y, OFr x y → OR y (l ++ [n]) (B + 1) → Q y) : mSV mX8_says [.ref 717, .int (nI n)] KW x Q := by
  have hl := w.2.2
  refine v_X8_says_0 km M.2.2.2.2.2.2.2.2 km725 ?_
  rw [w.1, nI_clamp (by omega), b8 n hn, b8 n hn]
  refine ⟨vp_in_nI (by omega) (by decide), fun r hr => ?_⟩
  have er : r = nI l.length := by rw [hr, gi_ui, if_neg (by omega)]; exact w.1
  rw [er, nI_1]
  refine k _ ⟨rfl, fun a j a1 a2 => by rw [gi_ui, if_neg a2, gi_ui, if_neg (fun u => a1 u.1)]⟩ ⟨?_, fun i hi => ?_, ?_⟩
  · rw [gi_ui, if_pos ⟨rfl, rfl⟩, List.length_append]; rfl
  · rw [List.length_append] at hi
    have hi : i < l.length + 1 := hi
    rw [gi_ui, if_neg (by omega), gi_ui]
    by_cases c1 : i = l.length
    · rw [if_pos ⟨rfl, c1⟩, gD_r (by omega), c1, Nat.sub_self]; exact ⟨rfl, hn⟩
    · rw [if_neg (fun u => c1 u.2), gD_l (by omega)]; exact w.2.1 i (by omega)
  · rw [List.length_append]; show l.length + 1 ≤ B + 1; omega
end
set_option maxHeartbeats 2000000 in
theorem v_X8_saysText_0 {K : Sh} {x : Cn} {Q : Cn → Prop} {b0 : Nat} {j1 : Nat} {q1 : String × Nat × String × List Int32} (hj1 : mS[j1]? = some q1)   (K0 : GV mX8_saysText 2 [some (.ref b0), some (.ref (mSB + j1)), some (.int 0)] [] K x Q) : mSV mX8_saysText [.ref b0, .ref (mSB + j1)] K x Q := by
  refine s_V (by decide) (by simp [Value.category]) (Nat.le_of_ble_eq_true rfl) ?_
  show mGM mX8_saysText 0 [some (.ref b0), some (.ref (mSB + j1)), none] [] (hp K x) (PV K Q)
  refine r_iconst (pc := 0) (v := 0) dX8_saysText_0 (by decide) ?_
  refine r_istore_n (pc := 1) dX8_saysText_1 (by decide) ?_
  exact r_le (L' := [some (.ref b0), some (.ref (mSB + j1)), some (.int 0)]) ⟨rfl, ⟨rfl, ⟨rfl, trivial⟩⟩⟩ K0
set_option maxHeartbeats 2000000 in
theorem v_X8_saysText_2 {K : Sh} {x : Cn} {Q : Cn → Prop} {b0 : Nat} {j1 : Nat} {q1 : String × Nat × String × List Int32} (hj1 : mS[j1]? = some q1) {l2 : Int32}  (k_b0 : kk K b0 = some (8, 0)) (K0 : ((nI q1.2.2.2.length) ≤ l2 → (Q x)) ∧ (¬ (nI q1.2.2.2.length) ≤ l2 → (∃ n_2 : Nat, l2 = nI n_2 ∧ (n_2 < q1.2.2.2.length ∧ (mSV mX8_says [.ref b0, .int (q1.2.2.2.getD n_2 0)] K x (fun y_3 => GV mX8_saysText 2 [some (.ref b0), some (.ref (mSB + j1)), some (.int (l2 + 1))] [] K y_3 Q)))))) : GV mX8_saysText 2 [some (.ref b0), some (.ref (mSB + j1)), some (.int l2)] [] K x Q := by
  show mGM mX8_saysText 2 [some (.ref b0), some (.ref (mSB + j1)), some (.int l2)] [] (hp K x) (PV K Q)
  refine r_iload_n (pc := 2) dX8_saysText_2 rfl ?_
  refine r_aload_n (pc := 3) dX8_saysText_3 rfl ?_
  refine s_VIs (pc := 4) mJ0_length_8abf5 (j := j1) (q := q1) (As := []) dX8_saysText_4 lk_X8_138 in_J0_length_8abf5 mo_J0_length_8abf5 hj1 rfl ⟨by decide, by decide⟩ (Nat.le_of_ble_eq_true rfl) (sp_len hj1 ?_)
  refine r_icmp_ge (pc := 7) (tgt := 25) dX8_saysText_7 (by decide) (fun q => ?_) (fun q => ?_)
  · have K0 := K0.1 q
    exact s_ret rfl dX8_saysText_25 K0
  · have K0 := K0.2 q
    refine r_aload_n (pc := 10) dX8_saysText_10 rfl ?_
    refine r_aload_n (pc := 11) dX8_saysText_11 rfl ?_
    refine r_iload_n (pc := 12) dX8_saysText_12 rfl ?_
    obtain ⟨n_2, en_2, un_2, K0⟩ := K0
    refine s_VIs (pc := 13) mJ0_charAt_5068e (j := j1) (q := q1) (As := [.int l2]) dX8_saysText_13 lk_X8_143 in_J0_charAt_5068e mo_J0_charAt_5068e hj1 rfl ⟨by decide, by decide⟩ (Nat.le_of_ble_eq_true rfl) (sp_chv hj1 en_2 un_2 ?_)
    refine s_VV (pc := 16) mX8_says (ci := 8) (a := b0) (As := [.int (q1.2.2.2.getD n_2 0)]) dX8_saysText_16 lk_X8_401 in_X8_says mo_X8_says ⟨by decide, rfl⟩ ⟨by decide, by decide⟩ (Nat.le_of_ble_eq_true rfl) k_b0 (mSV_mono K0 (fun y_3 K0 => ?_))
    refine r_iinc (pc := 19) (v := l2 + 1) dX8_saysText_19 rfl rfl (by decide) ?_
    refine r_goto (pc := 22) (L := [some (.ref b0), some (.ref (mSB + j1)), some (.int (l2 + 1))]) (tgt := 2) dX8_saysText_22 (by decide) ?_
    exact r_le (L' := [some (.ref b0), some (.ref (mSB + j1)), some (.int (l2 + 1))]) ⟨rfl, ⟨rfl, ⟨rfl, trivial⟩⟩⟩ K0
section
theorem sp_X8_saysText {x : Cn} {Q : Cn → Prop} {l : List Nat} {B j m : Nat} {q : String × Nat × String × List Int32} (hj : mS[j]? = some q) (hm : q.2.2.2.length ≤ m) (M : MRf x 718) (w : OR x l B) (hB : B + m ≤ 2400) (k : ∀ y, OFr x y → OR y (l ++ wq q) (B + m) → Q y) : mSV mX8_saysText [.ref 717, .ref (mSB + j)] KW x Q := by
  have key : ∀ r n v, n + r = q.2.2.2.length → OFr x v → OR v (l ++ (wq q).take n) (B + n) → GV mX8_saysText 2 [some (.ref 717), some (.ref (mSB + j)), some (.int (nI n))] [] KW v Q := by
    intro r
    induction r with
    | zero =>
      intro n v hn fv wv
      refine v_X8_saysText_2 hj km ⟨fun _ => k v fv ?_, fun z => absurd (nI_le (by omega) (by omega)) z⟩
      rw [List.take_of_length_le (by rw [wq_len]; omega)] at wv
      exact wv.le (by omega)
    | succ r ih =>
      intro n v hn fv wv
      have ha := wq_at hj (n := n) (by omega)
      refine v_X8_saysText_2 hj km ⟨fun z => absurd z (nI_ge (by omega) (by omega)), fun _ => ⟨n, rfl, by omega, ?_⟩⟩
      rw [ha.1, nI_1]
      refine sp_X8_says ha.2 (M.keep fv.1) wv (by omega) (fun u fu wu => ih (n + 1) u (by omega) (fv.tr fu) ?_)
      have e : (wq q).take (n + 1) = (wq q).take n ++ [(wq q).getD n 0] := by
        rw [List.take_add_one, List.getD_eq_getElem?_getD, List.getElem?_eq_getElem (by rw [wq_len]; omega)]
        rfl
      rw [e, ← List.append_assoc]
      exact wu
  exact v_X8_saysText_0 hj (key q.2.2.2.length 0 x (by omega) (OFr.rf x) (by rw [List.take_zero, List.append_nil]; exact w))
end
set_option maxHeartbeats 2000000 in
theorem v_X8_saysNumber_0 {K : Sh} {x : Cn} {Q : Cn → Prop} {b0 : Nat} {l1 : Int32}  (k_b0 : kk K b0 = some (8, 0)) (K0 : (l1 < 10 → (mSV mX8_says [.ref b0, .int (48 + (l1 - l1 / 10 * 10))] K x (fun y_2 => Q y_2))) ∧ (¬ l1 < 10 → (mSV mX8_says [.ref b0, .int (48 + (l1 / 10))] K x (fun y_3 => mSV mX8_says [.ref b0, .int (48 + (l1 - l1 / 10 * 10))] K y_3 (fun y_4 => Q y_4))))) : mSV mX8_saysNumber [.ref b0, .int l1] K x Q := by
  refine s_V (by decide) (by simp [Value.category]) (Nat.le_of_ble_eq_true rfl) ?_
  show mGM mX8_saysNumber 0 [some (.ref b0), some (.int l1)] [] (hp K x) (PV K Q)
  refine r_iload_n (pc := 0) dX8_saysNumber_0 rfl ?_
  refine r_bipush (pc := 1) (v := 10) dX8_saysNumber_1 (by decide) ?_
  refine r_icmp_lt (pc := 3) (tgt := 17) dX8_saysNumber_3 (by decide) (fun q => ?_) (fun q => ?_)
  · have K0 := K0.1 q
    refine r_aload_n (pc := 17) dX8_saysNumber_17 rfl ?_
    refine r_bipush (pc := 18) (v := 48) dX8_saysNumber_18 (by decide) ?_
    refine r_iload_n (pc := 20) dX8_saysNumber_20 rfl ?_
    refine r_bipush (pc := 21) (v := 10) dX8_saysNumber_21 (by decide) ?_
    refine r_irem (pc := 23) dX8_saysNumber_23 (by decide) ?_
    refine r_iadd (pc := 24) dX8_saysNumber_24 ?_
    refine s_VV (pc := 25) mX8_says (ci := 8) (a := b0) (As := [.int (48 + (l1 - l1 / 10 * 10))]) dX8_saysNumber_25 lk_X8_401 in_X8_says mo_X8_says ⟨by decide, rfl⟩ ⟨by decide, by decide⟩ (Nat.le_of_ble_eq_true rfl) k_b0 (mSV_mono K0 (fun y_2 K0 => ?_))
    exact s_ret rfl dX8_saysNumber_28 K0
  · have K0 := K0.2 q
    refine r_aload_n (pc := 6) dX8_saysNumber_6 rfl ?_
    refine r_bipush (pc := 7) (v := 48) dX8_saysNumber_7 (by decide) ?_
    refine r_iload_n (pc := 9) dX8_saysNumber_9 rfl ?_
    refine r_bipush (pc := 10) (v := 10) dX8_saysNumber_10 (by decide) ?_
    refine r_idiv (pc := 12) dX8_saysNumber_12 (by decide) ?_
    refine r_iadd (pc := 13) dX8_saysNumber_13 ?_
    refine s_VV (pc := 14) mX8_says (ci := 8) (a := b0) (As := [.int (48 + (l1 / 10))]) dX8_saysNumber_14 lk_X8_401 in_X8_says mo_X8_says ⟨by decide, rfl⟩ ⟨by decide, by decide⟩ (Nat.le_of_ble_eq_true rfl) k_b0 (mSV_mono K0 (fun y_3 K0 => ?_))
    refine r_aload_n (pc := 17) dX8_saysNumber_17 rfl ?_
    refine r_bipush (pc := 18) (v := 48) dX8_saysNumber_18 (by decide) ?_
    refine r_iload_n (pc := 20) dX8_saysNumber_20 rfl ?_
    refine r_bipush (pc := 21) (v := 10) dX8_saysNumber_21 (by decide) ?_
    refine r_irem (pc := 23) dX8_saysNumber_23 (by decide) ?_
    refine r_iadd (pc := 24) dX8_saysNumber_24 ?_
    refine s_VV (pc := 25) mX8_says (ci := 8) (a := b0) (As := [.int (48 + (l1 - l1 / 10 * 10))]) dX8_saysNumber_25 lk_X8_401 in_X8_says mo_X8_says ⟨by decide, rfl⟩ ⟨by decide, by decide⟩ (Nat.le_of_ble_eq_true rfl) k_b0 (mSV_mono K0 (fun y_4 K0 => ?_))
    exact s_ret rfl dX8_saysNumber_28 K0
section
theorem sp_X8_saysNumber {x : Cn} {Q : Cn → Prop} {l : List Nat} {B n : Nat} (hn : n < 100) (M : MRf x 718) (w : OR x l B) (hB : B + 2 ≤ 2400) (k : ∀ y, OFr x y → OR y (l ++ numL n) (B + 2) → Q y) : mSV mX8_saysNumber [.ref 717, .int (nI n)] KW x Q := by
  have e1 : nI n - nI n / 10 * 10 = nI (n % 10) := pk_rem (d := 10) (by omega) (by decide) (by decide)
  have e2 : nI n / 10 = nI (n / 10) := pk_div (d := 10) (by omega) (by decide) (by decide)
  refine v_X8_saysNumber_0 km ?_
  rw [e1, e2, n48, n48, show nI n < 10 ↔ n < 10 from nI_ltI (b := 10) (by omega) (by decide)]
  refine ⟨fun z => sp_X8_says (by omega) M w (by omega) (fun v fv wv => k v fv ?_), fun z => sp_X8_says (by omega) M w (by omega) (fun v fv wv => sp_X8_says (by omega) (M.keep fv.1) wv (by omega) (fun u fu wu => k u (fv.tr fu) ?_))⟩
  · unfold numL
    rw [if_pos z]
    rw [show n % 10 = n by omega] at wv
    exact wv.le (by omega)
  · unfold numL
    rw [if_neg z]
    rw [List.append_assoc] at wu
    exact wu
end
set_option maxHeartbeats 2000000 in
theorem v_X8_saysName_0 {K : Sh} {x : Cn} {Q : Cn → Prop} {b0 : Nat} {l1 : Int32}   (K0 : GV mX8_saysName 2 [some (.ref b0), some (.int l1), some (.int 0)] [] K x Q) : mSV mX8_saysName [.ref b0, .int l1] K x Q := by
  refine s_V (by decide) (by simp [Value.category]) (Nat.le_of_ble_eq_true rfl) ?_
  show mGM mX8_saysName 0 [some (.ref b0), some (.int l1), none] [] (hp K x) (PV K Q)
  refine r_iconst (pc := 0) (v := 0) dX8_saysName_0 (by decide) ?_
  refine r_istore_n (pc := 1) dX8_saysName_1 (by decide) ?_
  exact r_le (L' := [some (.ref b0), some (.int l1), some (.int 0)]) ⟨rfl, ⟨rfl, ⟨rfl, trivial⟩⟩⟩ K0
set_option maxHeartbeats 2000000 in
theorem v_X8_saysName_2 {K : Sh} {x : Cn} {Q : Cn → Prop} {b0 : Nat} {l1 : Int32} {l2 : Int32} {b0_1 : Nat} {n_b0_1 : Nat} (k_b0 : kk K b0 = some (8, 0)) (g_b0_1 : gr x b0 1 = some b0_1) (k_b0_1 : kk K b0_1 = some (20, n_b0_1)) (K0 : (6 ≤ l2 → (Q x)) ∧ (¬ 6 ≤ l2 → (vp_in (54 + l1) n_b0_1 ∧ (mSI mX8_letterOf [.int (gi x b0_1 ((54 + l1) : Int32).toNatClampNeg), .int l2] K x (fun r_4 y_3 => (r_4 ≤ 0 → (GV mX8_saysName 2 [some (.ref b0), some (.int l1), some (.int (l2 + 1))] [] K y_3 Q)) ∧ (¬ r_4 ≤ 0 → (gr y_3 b0 1 = some b0_1 ∧ (mSI mX8_letterOf [.int (gi y_3 b0_1 ((54 + l1) : Int32).toNatClampNeg), .int l2] K y_3 (fun r_8 y_7 => mSV mX8_says [.ref b0, .int ((97 + r_8) - 1)] K y_7 (fun y_9 => GV mX8_saysName 2 [some (.ref b0), some (.int l1), some (.int (l2 + 1))] [] K y_9 Q)))))))))) : GV mX8_saysName 2 [some (.ref b0), some (.int l1), some (.int l2)] [] K x Q := by
  show mGM mX8_saysName 2 [some (.ref b0), some (.int l1), some (.int l2)] [] (hp K x) (PV K Q)
  refine r_iload_n (pc := 2) dX8_saysName_2 rfl ?_
  refine r_bipush (pc := 3) (v := 6) dX8_saysName_3 (by decide) ?_
  refine r_icmp_ge (pc := 5) (tgt := 52) dX8_saysName_5 (by decide) (fun q => ?_) (fun q => ?_)
  · have K0 := K0.1 q
    exact s_ret rfl dX8_saysName_52 K0
  · have K0 := K0.2 q
    refine r_aload_n (pc := 8) dX8_saysName_8 rfl ?_
    refine s_getR (pc := 9) dX8_saysName_9 fl_X8_9 rfl k_b0 g_b0_1 ?_
    refine r_bipush (pc := 12) (v := 54) dX8_saysName_12 (by decide) ?_
    refine r_iload_n (pc := 14) dX8_saysName_14 rfl ?_
    refine r_iadd (pc := 15) dX8_saysName_15 ?_
    obtain ⟨i_2, K0⟩ := K0
    refine s_iald (pc := 16) dX8_saysName_16 k_b0_1 i_2 ?_
    refine r_iload_n (pc := 17) dX8_saysName_17 rfl ?_
    refine s_SI (pc := 18) mX8_letterOf (As := [.int (gi x b0_1 ((54 + l1) : Int32).toNatClampNeg), .int l2]) dX8_saysName_18 lk_X8_270 st_X8_letterOf mo_X8_letterOf ⟨by decide, by decide⟩ (Nat.le_of_ble_eq_true rfl) (mSI_mono K0 (fun r_4 y_3 K0 => ?_))
    refine r_if_le (pc := 21) (tgt := 46) dX8_saysName_21 (by decide) (fun q => ?_) (fun q => ?_)
    · have K0 := K0.1 q
      refine r_iinc (pc := 46) (v := l2 + 1) dX8_saysName_46 rfl rfl (by decide) ?_
      refine r_goto (pc := 49) (L := [some (.ref b0), some (.int l1), some (.int (l2 + 1))]) (tgt := 2) dX8_saysName_49 (by decide) ?_
      exact r_le (L' := [some (.ref b0), some (.int l1), some (.int (l2 + 1))]) ⟨rfl, ⟨rfl, ⟨rfl, trivial⟩⟩⟩ K0
    · have K0 := K0.2 q
      refine r_aload_n (pc := 24) dX8_saysName_24 rfl ?_
      refine r_bipush (pc := 25) (v := 97) dX8_saysName_25 (by decide) ?_
      refine r_aload_n (pc := 27) dX8_saysName_27 rfl ?_
      obtain ⟨g_6, K0⟩ := K0
      refine s_getR (pc := 28) dX8_saysName_28 fl_X8_9 rfl k_b0 g_6 ?_
      refine r_bipush (pc := 31) (v := 54) dX8_saysName_31 (by decide) ?_
      refine r_iload_n (pc := 33) dX8_saysName_33 rfl ?_
      refine r_iadd (pc := 34) dX8_saysName_34 ?_
      refine s_iald (pc := 35) dX8_saysName_35 k_b0_1 i_2 ?_
      refine r_iload_n (pc := 36) dX8_saysName_36 rfl ?_
      refine s_SI (pc := 37) mX8_letterOf (As := [.int (gi y_3 b0_1 ((54 + l1) : Int32).toNatClampNeg), .int l2]) dX8_saysName_37 lk_X8_270 st_X8_letterOf mo_X8_letterOf ⟨by decide, by decide⟩ (Nat.le_of_ble_eq_true rfl) (mSI_mono K0 (fun r_8 y_7 K0 => ?_))
      refine r_iadd (pc := 40) dX8_saysName_40 ?_
      refine r_iconst (pc := 41) (v := 1) dX8_saysName_41 (by decide) ?_
      refine r_isub (pc := 42) dX8_saysName_42 ?_
      refine s_VV (pc := 43) mX8_says (ci := 8) (a := b0) (As := [.int ((97 + r_8) - 1)]) dX8_saysName_43 lk_X8_401 in_X8_says mo_X8_says ⟨by decide, rfl⟩ ⟨by decide, by decide⟩ (Nat.le_of_ble_eq_true rfl) k_b0 (mSV_mono K0 (fun y_9 K0 => ?_))
      refine r_iinc (pc := 46) (v := l2 + 1) dX8_saysName_46 rfl rfl (by decide) ?_
      refine r_goto (pc := 49) (L := [some (.ref b0), some (.int l1), some (.int (l2 + 1))]) (tgt := 2) dX8_saysName_49 (by decide) ?_
      exact r_le (L' := [some (.ref b0), some (.int l1), some (.int (l2 + 1))]) ⟨rfl, ⟨rfl, ⟨rfl, trivial⟩⟩⟩ K0
section
theorem sp_X8_saysName {x : Cn} {Q : Cn → Prop} {l : List Nat} {B cr v : Nat} (hc : cr < 8) (hv1 : v < 387420489) (hv : gi x 718 (54 + cr) = nI v) (M : MRf x 718) (w : OR x l B) (hB : B + 6 ≤ 2400) (k : ∀ y, OFr x y → OR y (l ++ nmL v) (B + 6) → Q y) : mSV mX8_saysName [.ref 717, .int (nI cr)] KW x Q := by
  refine v_X8_saysName_0 ?_
  refine lp_acc (nmS v) (fun i l' => ∀ z, OFr x z → OR z l' (B + i) → GV mX8_saysName 2 [some (.ref 717), some (.int (nI cr)), some (.int (nI i))] [] KW z Q) 6 l ?_ (fun i l' hi n1 => ?_) x (OFr.rf x) w
  · intro z fz wz
    have Mz := M.keep fz.1
    refine v_X8_saysName_2 km Mz.1 km1 ⟨fun _ => k z fz ?_, fun u => absurd (by decide) u⟩
    rw [nm_acc] at wz
    exact wz
  · intro z fz wz
    have Mz := M.keep fz.1
    have hd := dg_lt v i
    have gz : gi z 718 (54 + cr) = nI v := (fz.2 718 _ (by decide) (by omega)).trans hv
    have ix : (54 : Int32) + nI cr = nI (54 + cr) := nI_add 54 cr
    refine v_X8_saysName_2 km Mz.1 km1 ⟨fun u => absurd u (nI_ge (b := 6) hi (by decide)), fun _ => ?_⟩
    rw [ix, nI_clamp (by omega), gz, nI_1]
    refine ⟨vp_in_nI (by omega) (by decide), sp_X8_letterOf (by omega) hi ?_⟩
    rw [show nI (v / 27 ^ (5 - i) % 27) ≤ 0 ↔ dg v i ≤ 0 from nI_leI (a := dg v i) (b := 0) (by omega) (by decide)]
    refine ⟨fun u => n1 l' ?_ z fz (wz.le (by omega)), fun u => ⟨Mz.1, ?_⟩⟩
    · unfold nmS; rw [if_pos (by omega)]
    · rw [gz]
      refine sp_X8_letterOf (by omega) hi ?_
      rw [show (97 + nI (v / 27 ^ (5 - i) % 27)) - 1 = nI (96 + dg v i) from (by rw [show (97 : Int32) + nI (v / 27 ^ (5 - i) % 27) = nI (97 + dg v i) from nI_add 97 _, show nI (97 + dg v i) - 1 = nI (97 + dg v i - 1) from pk_sub (b := 1) (by omega)]; congr 1; omega)]
      refine sp_X8_says (by omega) Mz wz (by omega) (fun z2 f2 w2 => n1 _ ?_ z2 (fz.tr f2) w2)
      unfold nmS; rw [if_neg (by omega)]
end
set_option maxHeartbeats 2000000 in
theorem v_X8_dayOf_0 {K : Sh} {x : Cn} {Q : Nat → Cn → Prop} {l0 : Int32}   (K0 : (l0 = 0 → (Q (mSB + 15) x)) ∧ (l0 = 1 → (Q (mSB + 16) x)) ∧ (l0 = 2 → (Q (mSB + 17) x)) ∧ (l0 = 3 → (Q (mSB + 18) x)) ∧ (l0 = 4 → (Q (mSB + 19) x)) ∧ (l0 = 5 → (Q (mSB + 20) x)) ∧ ((¬ l0 = 0 ∧ ¬ l0 = 1 ∧ ¬ l0 = 2 ∧ ¬ l0 = 3 ∧ ¬ l0 = 4 ∧ ¬ l0 = 5) → (Q (mSB + 21) x))) : mSR mX8_dayOf [.int l0] K x Q := by
  refine s_R (by decide) (by simp [Value.category]) (Nat.le_of_ble_eq_true rfl) ?_
  show mGM mX8_dayOf 0 [some (.int l0)] [] (hp K x) (PR K Q)
  refine r_iload_n (pc := 0) dX8_dayOf_0 rfl ?_
  by_cases q0 : l0 = 0
  · have K0 := K0.1 q0
    refine r_tabIn (pc := 1) (tgt := 40) (off := 39) dX8_dayOf_1 (by rw [q0]; decide) (by rw [q0]; decide) (by rw [q0]; decide) (by decide) ?_
    refine r_ldcS (pc := 40) (j := 15) dX8_dayOf_40 rfl ?_
    exact s_aret rfl dX8_dayOf_42 K0
  have K0 := K0.2
  by_cases q1 : l0 = 1
  · have K0 := K0.1 q1
    refine r_tabIn (pc := 1) (tgt := 43) (off := 42) dX8_dayOf_1 (by rw [q1]; decide) (by rw [q1]; decide) (by rw [q1]; decide) (by decide) ?_
    refine r_ldcS (pc := 43) (j := 16) dX8_dayOf_43 rfl ?_
    exact s_aret rfl dX8_dayOf_45 K0
  have K0 := K0.2
  by_cases q2 : l0 = 2
  · have K0 := K0.1 q2
    refine r_tabIn (pc := 1) (tgt := 46) (off := 45) dX8_dayOf_1 (by rw [q2]; decide) (by rw [q2]; decide) (by rw [q2]; decide) (by decide) ?_
    refine r_ldcS (pc := 46) (j := 17) dX8_dayOf_46 rfl ?_
    exact s_aret rfl dX8_dayOf_48 K0
  have K0 := K0.2
  by_cases q3 : l0 = 3
  · have K0 := K0.1 q3
    refine r_tabIn (pc := 1) (tgt := 49) (off := 48) dX8_dayOf_1 (by rw [q3]; decide) (by rw [q3]; decide) (by rw [q3]; decide) (by decide) ?_
    refine r_ldcS (pc := 49) (j := 18) dX8_dayOf_49 rfl ?_
    exact s_aret rfl dX8_dayOf_51 K0
  have K0 := K0.2
  by_cases q4 : l0 = 4
  · have K0 := K0.1 q4
    refine r_tabIn (pc := 1) (tgt := 52) (off := 51) dX8_dayOf_1 (by rw [q4]; decide) (by rw [q4]; decide) (by rw [q4]; decide) (by decide) ?_
    refine r_ldcS (pc := 52) (j := 19) dX8_dayOf_52 rfl ?_
    exact s_aret rfl dX8_dayOf_54 K0
  have K0 := K0.2
  by_cases q5 : l0 = 5
  · have K0 := K0.1 q5
    refine r_tabIn (pc := 1) (tgt := 55) (off := 54) dX8_dayOf_1 (by rw [q5]; decide) (by rw [q5]; decide) (by rw [q5]; decide) (by decide) ?_
    refine r_ldcS (pc := 55) (j := 20) dX8_dayOf_55 rfl ?_
    exact s_aret rfl dX8_dayOf_57 K0
  have K0 := K0.2
  have K0 := K0 ⟨q0, q1, q2, q3, q4, q5⟩
  refine r_tabOut (pc := 1) (tgt := 58) dX8_dayOf_1 (by have z0 : ¬ Int32.toInt (l0) = 0 := fun z => q0 (Int32.toInt_inj.mp (z.trans (by decide))); have z1 : ¬ Int32.toInt (l0) = 1 := fun z => q1 (Int32.toInt_inj.mp (z.trans (by decide))); have z2 : ¬ Int32.toInt (l0) = 2 := fun z => q2 (Int32.toInt_inj.mp (z.trans (by decide))); have z3 : ¬ Int32.toInt (l0) = 3 := fun z => q3 (Int32.toInt_inj.mp (z.trans (by decide))); have z4 : ¬ Int32.toInt (l0) = 4 := fun z => q4 (Int32.toInt_inj.mp (z.trans (by decide))); have z5 : ¬ Int32.toInt (l0) = 5 := fun z => q5 (Int32.toInt_inj.mp (z.trans (by decide))); omega) (by decide) ?_
  refine r_ldcS (pc := 58) (j := 21) dX8_dayOf_58 rfl ?_
  exact s_aret rfl dX8_dayOf_60 K0
section
theorem sp_X8_dayOf {K : Sh} {x : Cn} {Q : Nat → Cn → Prop} {d : Nat} (hd : d < 7) (k : Q (mSB + (15 + d)) x) : mSR mX8_dayOf [.int (nI d)] K x Q := by
  have e : ∀ m, m < 7 → (nI d = nI m ↔ d = m) := fun m hm => nI_eq (by omega) (by omega)
  have : d = 0 ∨ d = 1 ∨ d = 2 ∨ d = 3 ∨ d = 4 ∨ d = 5 ∨ d = 6 := by omega
  refine v_X8_dayOf_0 ?_
  rcases this with rfl | rfl | rfl | rfl | rfl | rfl | rfl
  · exact ⟨fun _ => k, fun z => absurd z (by decide), fun z => absurd z (by decide), fun z => absurd z (by decide), fun z => absurd z (by decide), fun z => absurd z (by decide), fun z => absurd rfl z.1⟩
  · exact ⟨fun z => absurd z (by decide), fun _ => k, fun z => absurd z (by decide), fun z => absurd z (by decide), fun z => absurd z (by decide), fun z => absurd z (by decide), fun z => absurd rfl z.2.1⟩
  · exact ⟨fun z => absurd z (by decide), fun z => absurd z (by decide), fun _ => k, fun z => absurd z (by decide), fun z => absurd z (by decide), fun z => absurd z (by decide), fun z => absurd rfl z.2.2.1⟩
  · exact ⟨fun z => absurd z (by decide), fun z => absurd z (by decide), fun z => absurd z (by decide), fun _ => k, fun z => absurd z (by decide), fun z => absurd z (by decide), fun z => absurd rfl z.2.2.2.1⟩
  · exact ⟨fun z => absurd z (by decide), fun z => absurd z (by decide), fun z => absurd z (by decide), fun z => absurd z (by decide), fun _ => k, fun z => absurd z (by decide), fun z => absurd rfl z.2.2.2.2.1⟩
  · exact ⟨fun z => absurd z (by decide), fun z => absurd z (by decide), fun z => absurd z (by decide), fun z => absurd z (by decide), fun z => absurd z (by decide), fun _ => k, fun z => absurd rfl z.2.2.2.2.2⟩
  · exact ⟨fun z => absurd z (by decide), fun z => absurd z (by decide), fun z => absurd z (by decide), fun z => absurd z (by decide), fun z => absurd z (by decide), fun z => absurd z (by decide), fun _ => k⟩
end
set_option maxHeartbeats 2000000 in
theorem v_X8_saysCommon_0 {K : Sh} {x : Cn} {Q : Cn → Prop} {b0 : Nat} {b1 : Nat} {l2 : Int32} {l3 : Int32}  (k_b0 : kk K b0 = some (8, 0)) (K0 : mSV mX8_saysText [.ref b0, .ref b1] K x (fun y_1 => ∃ c_2 : Nat, gr y_1 b0 1 = some c_2 ∧ (∃ n_5 : Nat, kk K c_2 = some (20, n_5) ∧ (vp_in l2 n_5 ∧ (mSV mX8_saysName [.ref b0, .int (gi y_1 c_2 (l2 : Int32).toNatClampNeg)] K y_1 (fun y_7 => mSV mX8_says [.ref b0, .int 32] K y_7 (fun y_8 => ∃ c_9 : Nat, gr y_8 b0 1 = some c_9 ∧ (∃ n_12 : Nat, kk K c_9 = some (20, n_12) ∧ (vp_in (l2 + 1) n_12 ∧ (mSR mX8_dayOf [.int (gi y_8 c_9 ((l2 + 1) : Int32).toNatClampNeg)] K y_8 (fun r_15 y_14 => mSV mX8_saysText [.ref b0, .ref r_15] K y_14 (fun y_16 => mSV mX8_says [.ref b0, .int 32] K y_16 (fun y_17 => ∃ c_18 : Nat, gr y_17 b0 1 = some c_18 ∧ (∃ n_21 : Nat, kk K c_18 = some (20, n_21) ∧ (vp_in (l2 + 2) n_21 ∧ (mSV mX8_saysNumber [.ref b0, .int (gi y_17 c_18 ((l2 + 2) : Int32).toNatClampNeg)] K y_17 (fun y_23 => ∃ c_24 : Nat, gr y_23 b0 1 = some c_24 ∧ (∃ n_27 : Nat, kk K c_24 = some (20, n_27) ∧ (vp_in (l2 + 3) n_27 ∧ ((¬ (gi y_23 c_24 ((l2 + 3) : Int32).toNatClampNeg) = 0 → (mSV mX8_saysText [.ref b0, .ref (mSB + 32)] K y_23 (fun y_30 => ∃ c_31 : Nat, gr y_30 b0 1 = some c_31 ∧ (∃ n_34 : Nat, kk K c_31 = some (20, n_34) ∧ (vp_in (l2 + l3) n_34 ∧ (mSV mX8_saysNumber [.ref b0, .int (gi y_30 c_31 ((l2 + l3) : Int32).toNatClampNeg)] K y_30 (fun y_36 => mSV mX8_says [.ref b0, .int 45] K y_36 (fun y_37 => ∃ c_38 : Nat, gr y_37 b0 1 = some c_38 ∧ (∃ n_41 : Nat, kk K c_38 = some (20, n_41) ∧ (vp_in ((l2 + l3) + 1) n_41 ∧ (mSV mX8_saysNumber [.ref b0, .int (gi y_37 c_38 (((l2 + l3) + 1) : Int32).toNatClampNeg)] K y_37 (fun y_43 => Q y_43)))))))))))) ∧ ((gi y_23 c_24 ((l2 + 3) : Int32).toNatClampNeg) = 0 → (mSV mX8_saysText [.ref b0, .ref (mSB + 29)] K y_23 (fun y_44 => ∃ c_45 : Nat, gr y_44 b0 1 = some c_45 ∧ (∃ n_48 : Nat, kk K c_45 = some (20, n_48) ∧ (vp_in (l2 + l3) n_48 ∧ (mSV mX8_saysNumber [.ref b0, .int (gi y_44 c_45 ((l2 + l3) : Int32).toNatClampNeg)] K y_44 (fun y_50 => mSV mX8_says [.ref b0, .int 45] K y_50 (fun y_51 => ∃ c_52 : Nat, gr y_51 b0 1 = some c_52 ∧ (∃ n_55 : Nat, kk K c_52 = some (20, n_55) ∧ (vp_in ((l2 + l3) + 1) n_55 ∧ (mSV mX8_saysNumber [.ref b0, .int (gi y_51 c_52 (((l2 + l3) + 1) : Int32).toNatClampNeg)] K y_51 (fun y_57 => Q y_57)))))))))))))))))))))))))))))))) : mSV mX8_saysCommon [.ref b0, .ref b1, .int l2, .int l3] K x Q := by
  refine s_V (by decide) (by simp [Value.category]) (Nat.le_of_ble_eq_true rfl) ?_
  show mGM mX8_saysCommon 0 [some (.ref b0), some (.ref b1), some (.int l2), some (.int l3)] [] (hp K x) (PV K Q)
  refine r_aload_n (pc := 0) dX8_saysCommon_0 rfl ?_
  refine r_aload_n (pc := 1) dX8_saysCommon_1 rfl ?_
  refine s_VV (pc := 2) mX8_saysText (ci := 8) (a := b0) (As := [.ref b1]) dX8_saysCommon_2 lk_X8_404 in_X8_saysText mo_X8_saysText ⟨by decide, rfl⟩ ⟨by decide, by decide⟩ (Nat.le_of_ble_eq_true rfl) k_b0 (mSV_mono K0 (fun y_1 K0 => ?_))
  refine r_aload_n (pc := 5) dX8_saysCommon_5 rfl ?_
  refine r_aload_n (pc := 6) dX8_saysCommon_6 rfl ?_
  obtain ⟨c_2, g_3, K0⟩ := K0
  refine s_getR (pc := 7) dX8_saysCommon_7 fl_X8_9 rfl k_b0 g_3 ?_
  refine r_iload_n (pc := 10) dX8_saysCommon_10 rfl ?_
  obtain ⟨n_5, e_4, K0⟩ := K0
  obtain ⟨i_6, K0⟩ := K0
  refine s_iald (pc := 11) dX8_saysCommon_11 e_4 i_6 ?_
  refine s_VV (pc := 12) mX8_saysName (ci := 8) (a := b0) (As := [.int (gi y_1 c_2 (l2 : Int32).toNatClampNeg)]) dX8_saysCommon_12 lk_X8_407 in_X8_saysName mo_X8_saysName ⟨by decide, rfl⟩ ⟨by decide, by decide⟩ (Nat.le_of_ble_eq_true rfl) k_b0 (mSV_mono K0 (fun y_7 K0 => ?_))
  refine r_aload_n (pc := 15) dX8_saysCommon_15 rfl ?_
  refine r_bipush (pc := 16) (v := 32) dX8_saysCommon_16 (by decide) ?_
  refine s_VV (pc := 18) mX8_says (ci := 8) (a := b0) (As := [.int 32]) dX8_saysCommon_18 lk_X8_401 in_X8_says mo_X8_says ⟨by decide, rfl⟩ ⟨by decide, by decide⟩ (Nat.le_of_ble_eq_true rfl) k_b0 (mSV_mono K0 (fun y_8 K0 => ?_))
  refine r_aload_n (pc := 21) dX8_saysCommon_21 rfl ?_
  refine r_aload_n (pc := 22) dX8_saysCommon_22 rfl ?_
  obtain ⟨c_9, g_10, K0⟩ := K0
  refine s_getR (pc := 23) dX8_saysCommon_23 fl_X8_9 rfl k_b0 g_10 ?_
  refine r_iload_n (pc := 26) dX8_saysCommon_26 rfl ?_
  refine r_iconst (pc := 27) (v := 1) dX8_saysCommon_27 (by decide) ?_
  refine r_iadd (pc := 28) dX8_saysCommon_28 ?_
  obtain ⟨n_12, e_11, K0⟩ := K0
  obtain ⟨i_13, K0⟩ := K0
  refine s_iald (pc := 29) dX8_saysCommon_29 e_11 i_13 ?_
  refine s_SR (pc := 30) mX8_dayOf (As := [.int (gi y_8 c_9 ((l2 + 1) : Int32).toNatClampNeg)]) dX8_saysCommon_30 lk_X8_178 st_X8_dayOf mo_X8_dayOf ⟨by decide, by decide⟩ (Nat.le_of_ble_eq_true rfl) (mSR_mono K0 (fun r_15 y_14 K0 => ?_))
  refine s_VV (pc := 33) mX8_saysText (ci := 8) (a := b0) (As := [.ref r_15]) dX8_saysCommon_33 lk_X8_404 in_X8_saysText mo_X8_saysText ⟨by decide, rfl⟩ ⟨by decide, by decide⟩ (Nat.le_of_ble_eq_true rfl) k_b0 (mSV_mono K0 (fun y_16 K0 => ?_))
  refine r_aload_n (pc := 36) dX8_saysCommon_36 rfl ?_
  refine r_bipush (pc := 37) (v := 32) dX8_saysCommon_37 (by decide) ?_
  refine s_VV (pc := 39) mX8_says (ci := 8) (a := b0) (As := [.int 32]) dX8_saysCommon_39 lk_X8_401 in_X8_says mo_X8_says ⟨by decide, rfl⟩ ⟨by decide, by decide⟩ (Nat.le_of_ble_eq_true rfl) k_b0 (mSV_mono K0 (fun y_17 K0 => ?_))
  refine r_aload_n (pc := 42) dX8_saysCommon_42 rfl ?_
  refine r_aload_n (pc := 43) dX8_saysCommon_43 rfl ?_
  obtain ⟨c_18, g_19, K0⟩ := K0
  refine s_getR (pc := 44) dX8_saysCommon_44 fl_X8_9 rfl k_b0 g_19 ?_
  refine r_iload_n (pc := 47) dX8_saysCommon_47 rfl ?_
  refine r_iconst (pc := 48) (v := 2) dX8_saysCommon_48 (by decide) ?_
  refine r_iadd (pc := 49) dX8_saysCommon_49 ?_
  obtain ⟨n_21, e_20, K0⟩ := K0
  obtain ⟨i_22, K0⟩ := K0
  refine s_iald (pc := 50) dX8_saysCommon_50 e_20 i_22 ?_
  refine s_VV (pc := 51) mX8_saysNumber (ci := 8) (a := b0) (As := [.int (gi y_17 c_18 ((l2 + 2) : Int32).toNatClampNeg)]) dX8_saysCommon_51 lk_X8_410 in_X8_saysNumber mo_X8_saysNumber ⟨by decide, rfl⟩ ⟨by decide, by decide⟩ (Nat.le_of_ble_eq_true rfl) k_b0 (mSV_mono K0 (fun y_23 K0 => ?_))
  refine r_aload_n (pc := 54) dX8_saysCommon_54 rfl ?_
  refine r_aload_n (pc := 55) dX8_saysCommon_55 rfl ?_
  obtain ⟨c_24, g_25, K0⟩ := K0
  refine s_getR (pc := 56) dX8_saysCommon_56 fl_X8_9 rfl k_b0 g_25 ?_
  refine r_iload_n (pc := 59) dX8_saysCommon_59 rfl ?_
  refine r_iconst (pc := 60) (v := 3) dX8_saysCommon_60 (by decide) ?_
  refine r_iadd (pc := 61) dX8_saysCommon_61 ?_
  obtain ⟨n_27, e_26, K0⟩ := K0
  obtain ⟨i_28, K0⟩ := K0
  refine s_iald (pc := 62) dX8_saysCommon_62 e_26 i_28 ?_
  refine r_if_ne (pc := 63) (tgt := 72) dX8_saysCommon_63 (by decide) (fun q => ?_) (fun q => ?_)
  · have K0 := K0.1 q
    refine r_ldcwS (pc := 72) (j := 32) dX8_saysCommon_72 rfl ?_
    refine s_VV (pc := 75) mX8_saysText (ci := 8) (a := b0) (As := [.ref (mSB + 32)]) dX8_saysCommon_75 lk_X8_404 in_X8_saysText mo_X8_saysText ⟨by decide, rfl⟩ ⟨by decide, by decide⟩ (Nat.le_of_ble_eq_true rfl) k_b0 (mSV_mono K0 (fun y_30 K0 => ?_))
    refine r_aload_n (pc := 78) dX8_saysCommon_78 rfl ?_
    refine r_aload_n (pc := 79) dX8_saysCommon_79 rfl ?_
    obtain ⟨c_31, g_32, K0⟩ := K0
    refine s_getR (pc := 80) dX8_saysCommon_80 fl_X8_9 rfl k_b0 g_32 ?_
    refine r_iload_n (pc := 83) dX8_saysCommon_83 rfl ?_
    refine r_iload_n (pc := 84) dX8_saysCommon_84 rfl ?_
    refine r_iadd (pc := 85) dX8_saysCommon_85 ?_
    obtain ⟨n_34, e_33, K0⟩ := K0
    obtain ⟨i_35, K0⟩ := K0
    refine s_iald (pc := 86) dX8_saysCommon_86 e_33 i_35 ?_
    refine s_VV (pc := 87) mX8_saysNumber (ci := 8) (a := b0) (As := [.int (gi y_30 c_31 ((l2 + l3) : Int32).toNatClampNeg)]) dX8_saysCommon_87 lk_X8_410 in_X8_saysNumber mo_X8_saysNumber ⟨by decide, rfl⟩ ⟨by decide, by decide⟩ (Nat.le_of_ble_eq_true rfl) k_b0 (mSV_mono K0 (fun y_36 K0 => ?_))
    refine r_aload_n (pc := 90) dX8_saysCommon_90 rfl ?_
    refine r_bipush (pc := 91) (v := 45) dX8_saysCommon_91 (by decide) ?_
    refine s_VV (pc := 93) mX8_says (ci := 8) (a := b0) (As := [.int 45]) dX8_saysCommon_93 lk_X8_401 in_X8_says mo_X8_says ⟨by decide, rfl⟩ ⟨by decide, by decide⟩ (Nat.le_of_ble_eq_true rfl) k_b0 (mSV_mono K0 (fun y_37 K0 => ?_))
    refine r_aload_n (pc := 96) dX8_saysCommon_96 rfl ?_
    refine r_aload_n (pc := 97) dX8_saysCommon_97 rfl ?_
    obtain ⟨c_38, g_39, K0⟩ := K0
    refine s_getR (pc := 98) dX8_saysCommon_98 fl_X8_9 rfl k_b0 g_39 ?_
    refine r_iload_n (pc := 101) dX8_saysCommon_101 rfl ?_
    refine r_iload_n (pc := 102) dX8_saysCommon_102 rfl ?_
    refine r_iadd (pc := 103) dX8_saysCommon_103 ?_
    refine r_iconst (pc := 104) (v := 1) dX8_saysCommon_104 (by decide) ?_
    refine r_iadd (pc := 105) dX8_saysCommon_105 ?_
    obtain ⟨n_41, e_40, K0⟩ := K0
    obtain ⟨i_42, K0⟩ := K0
    refine s_iald (pc := 106) dX8_saysCommon_106 e_40 i_42 ?_
    refine s_VV (pc := 107) mX8_saysNumber (ci := 8) (a := b0) (As := [.int (gi y_37 c_38 (((l2 + l3) + 1) : Int32).toNatClampNeg)]) dX8_saysCommon_107 lk_X8_410 in_X8_saysNumber mo_X8_saysNumber ⟨by decide, rfl⟩ ⟨by decide, by decide⟩ (Nat.le_of_ble_eq_true rfl) k_b0 (mSV_mono K0 (fun y_43 K0 => ?_))
    exact s_ret rfl dX8_saysCommon_110 K0
  · have K0 := K0.2 q
    refine r_ldcwS (pc := 66) (j := 29) dX8_saysCommon_66 rfl ?_
    refine r_goto (pc := 69) (tgt := 75) dX8_saysCommon_69 (by decide) ?_
    refine s_VV (pc := 75) mX8_saysText (ci := 8) (a := b0) (As := [.ref (mSB + 29)]) dX8_saysCommon_75 lk_X8_404 in_X8_saysText mo_X8_saysText ⟨by decide, rfl⟩ ⟨by decide, by decide⟩ (Nat.le_of_ble_eq_true rfl) k_b0 (mSV_mono K0 (fun y_44 K0 => ?_))
    refine r_aload_n (pc := 78) dX8_saysCommon_78 rfl ?_
    refine r_aload_n (pc := 79) dX8_saysCommon_79 rfl ?_
    obtain ⟨c_45, g_46, K0⟩ := K0
    refine s_getR (pc := 80) dX8_saysCommon_80 fl_X8_9 rfl k_b0 g_46 ?_
    refine r_iload_n (pc := 83) dX8_saysCommon_83 rfl ?_
    refine r_iload_n (pc := 84) dX8_saysCommon_84 rfl ?_
    refine r_iadd (pc := 85) dX8_saysCommon_85 ?_
    obtain ⟨n_48, e_47, K0⟩ := K0
    obtain ⟨i_49, K0⟩ := K0
    refine s_iald (pc := 86) dX8_saysCommon_86 e_47 i_49 ?_
    refine s_VV (pc := 87) mX8_saysNumber (ci := 8) (a := b0) (As := [.int (gi y_44 c_45 ((l2 + l3) : Int32).toNatClampNeg)]) dX8_saysCommon_87 lk_X8_410 in_X8_saysNumber mo_X8_saysNumber ⟨by decide, rfl⟩ ⟨by decide, by decide⟩ (Nat.le_of_ble_eq_true rfl) k_b0 (mSV_mono K0 (fun y_50 K0 => ?_))
    refine r_aload_n (pc := 90) dX8_saysCommon_90 rfl ?_
    refine r_bipush (pc := 91) (v := 45) dX8_saysCommon_91 (by decide) ?_
    refine s_VV (pc := 93) mX8_says (ci := 8) (a := b0) (As := [.int 45]) dX8_saysCommon_93 lk_X8_401 in_X8_says mo_X8_says ⟨by decide, rfl⟩ ⟨by decide, by decide⟩ (Nat.le_of_ble_eq_true rfl) k_b0 (mSV_mono K0 (fun y_51 K0 => ?_))
    refine r_aload_n (pc := 96) dX8_saysCommon_96 rfl ?_
    refine r_aload_n (pc := 97) dX8_saysCommon_97 rfl ?_
    obtain ⟨c_52, g_53, K0⟩ := K0
    refine s_getR (pc := 98) dX8_saysCommon_98 fl_X8_9 rfl k_b0 g_53 ?_
    refine r_iload_n (pc := 101) dX8_saysCommon_101 rfl ?_
    refine r_iload_n (pc := 102) dX8_saysCommon_102 rfl ?_
    refine r_iadd (pc := 103) dX8_saysCommon_103 ?_
    refine r_iconst (pc := 104) (v := 1) dX8_saysCommon_104 (by decide) ?_
    refine r_iadd (pc := 105) dX8_saysCommon_105 ?_
    obtain ⟨n_55, e_54, K0⟩ := K0
    obtain ⟨i_56, K0⟩ := K0
    refine s_iald (pc := 106) dX8_saysCommon_106 e_54 i_56 ?_
    refine s_VV (pc := 107) mX8_saysNumber (ci := 8) (a := b0) (As := [.int (gi y_51 c_52 (((l2 + l3) + 1) : Int32).toNatClampNeg)]) dX8_saysCommon_107 lk_X8_410 in_X8_saysNumber mo_X8_saysNumber ⟨by decide, rfl⟩ ⟨by decide, by decide⟩ (Nat.le_of_ble_eq_true rfl) k_b0 (mSV_mono K0 (fun y_57 K0 => ?_))
    exact s_ret rfl dX8_saysCommon_110 K0
section
theorem sp_X8_saysCommon {x : Cn} {Q : Cn → Prop} {l : List Nat} {B cr v d h f t j m b0 f0 : Nat} {way : Int32} (T : TT) (hT : gi x 718 = T) (hb0 : b0 + f0 + 1 < 518 ∧ b0 + 3 < 518) (hf0 : f0 ≤ 5) (t0 : T b0 = nI cr) (t1 : T (b0 + 1) = nI d) (t2 : T (b0 + 2) = nI h) (t3 : T (b0 + 3) = way) (t5 : T (b0 + f0) = nI f) (t6 : T (b0 + f0 + 1) = nI t) (hc : cr < 8) (hv1 : v < 387420489) (hv : T (54 + cr) = nI v) (hd : d < 7) (hh : h < 100) (hf : f < 100) (ht : t < 100) (hj : j < 37) (hm : (mSq j).2.2.2.length ≤ m) (M : MRf x 718) (w : OR x l B) (hB : B + 23 + m ≤ 2400) (k : ∀ y, OFr x y → OR y (l ++ comP (wd j) v d h way f t) (B + 23 + m) → Q y) : mSV mX8_saysCommon [.ref 717, .ref (mSB + j), .int (nI b0), .int (nI f0)] KW x Q := by
  have Mg : ∀ y : Cn, OFr x y → MRf y 718 := fun y fy => M.keep fy.1
  have tg : ∀ y : Cn, OFr x y → ∀ i, gi y 718 i = T i := fun y fy i => by rw [fy.2 718 i (by decide) (by omega), hT]
  have i1 : nI b0 + 1 = nI (b0 + 1) := nI_1 b0
  have i2 : nI b0 + 2 = nI (b0 + 2) := nI_add b0 2
  have i3 : nI b0 + 3 = nI (b0 + 3) := nI_add b0 3
  have i5 : nI b0 + nI f0 = nI (b0 + f0) := nI_add b0 f0
  have i6 : nI (b0 + f0) + 1 = nI (b0 + f0 + 1) := nI_1 _
  refine v_X8_saysCommon_0 km (sp_X8_saysText (m := m) (mSq_at hj) hm M w (by omega) (fun y1 f1 w1 => ⟨718, (Mg y1 f1).1, 518, km1, vp_in_nI (by omega) (by decide), ?_⟩))
  rw [nI_clamp (by omega), tg y1 f1, t0]
  refine sp_X8_saysName hc hv1 (by rw [tg y1 f1]; exact hv) (Mg y1 f1) w1 (by omega) (fun y2 f2 w2 => ?_)
  have F2 := f1.tr f2
  refine sp_X8_says (n := 32) (by decide) (Mg y2 F2) w2 (by omega) (fun y3 f3 w3 => ?_)
  have F3 := F2.tr f3
  rw [i1, i2, i3, i5, i6, nI_clamp (show b0 + 1 < 2 ^ 31 by omega), nI_clamp (show b0 + 2 < 2 ^ 31 by omega), nI_clamp (show b0 + 3 < 2 ^ 31 by omega), nI_clamp (show b0 + f0 < 2 ^ 31 by omega), nI_clamp (show b0 + f0 + 1 < 2 ^ 31 by omega)]
  refine ⟨718, (Mg y3 F3).1, 518, km1, vp_in_nI (by omega) (by decide), ?_⟩
  rw [tg y3 F3, t1]
  refine sp_X8_dayOf hd (sp_X8_saysText (m := 3) (mSq_at (by omega)) (by rw [← wq_len]; show (wd (15 + d)).length ≤ 3; rw [day_wd d hd]; exact Nat.le_refl _) (Mg y3 F3) w3 (by omega) (fun y4 f4 w4 => ?_))
  rw [show wq (mSq (15 + d)) = dayL d from day_wd d hd] at w4
  have F4 := F3.tr f4
  refine sp_X8_says (n := 32) (by decide) (Mg y4 F4) w4 (by omega) (fun y5 f5 w5 => ⟨718, (Mg y5 (F4.tr f5)).1, 518, km1, vp_in_nI (by omega) (by decide), ?_⟩)
  have F5 := F4.tr f5
  rw [tg y5 F5, t2]
  refine sp_X8_saysNumber hh (Mg y5 F5) w5 (by omega) (fun y6 f6 w6 => ⟨718, (Mg y6 (F5.tr f6)).1, 518, km1, vp_in_nI (by omega) (by decide), ?_⟩)
  have F6 := F5.tr f6
  rw [tg y6 F6, t3]
  have rest : ∀ (y7 : Cn) (W7 : List Nat) B7, OFr x y7 → OR y7 (l ++ wd j ++ nmL v ++ [32] ++ dayL d ++ [32] ++ numL h ++ W7) B7 → B7 + 5 ≤ B + 23 + m → W7 = (if way = 0 then wd 29 else wd 32) → ∃ c_31, gr y7 717 1 = some c_31 ∧ (∃ n_34, kk KW c_31 = some (20, n_34) ∧ (vp_in (nI (b0 + f0)) n_34 ∧ mSV mX8_saysNumber [.ref 717, .int (gi y7 c_31 (b0 + f0))] KW y7 (fun y_36 => mSV mX8_says [.ref 717, .int 45] KW y_36 (fun y_37 => ∃ c_38, gr y_37 717 1 = some c_38 ∧ (∃ n_41, kk KW c_38 = some (20, n_41) ∧ (vp_in (nI (b0 + f0 + 1)) n_41 ∧ mSV mX8_saysNumber [.ref 717, .int (gi y_37 c_38 (b0 + f0 + 1))] KW y_37 (fun y_43 => Q y_43))))))) := by
    intro y7 W7 B7 F7 w7 hB7 hW7
    refine ⟨718, (Mg y7 F7).1, 518, km1, vp_in_nI (by omega) (by decide), ?_⟩
    rw [tg y7 F7, t5]
    refine sp_X8_saysNumber hf (Mg y7 F7) w7 (by omega) (fun y8 f8 w8 => sp_X8_says (n := 45) (by decide) (Mg y8 (F7.tr f8)) w8 (by omega) (fun y9 f9 w9 => ⟨718, (Mg y9 (F7.tr (f8.tr f9))).1, 518, km1, vp_in_nI (by omega) (by decide), ?_⟩))
    have F9 := F7.tr (f8.tr f9)
    rw [tg y9 F9, t6]
    refine sp_X8_saysNumber ht (Mg y9 F9) w9 (by omega) (fun y10 f10 w10 => k y10 (F9.tr f10) ?_)
    have e : l ++ wd j ++ nmL v ++ [32] ++ dayL d ++ [32] ++ numL h ++ W7 ++ numL f ++ [45] ++ numL t = l ++ comP (wd j) v d h way f t := by
      rw [hW7]
      simp only [comP, List.append_assoc]
    rw [e] at w10
    exact w10.le (by omega)
  refine ⟨fun z => sp_X8_saysText (j := 32) (m := 5) (mSq_at (by decide)) (by decide) (Mg y6 F6) w6 (by omega) (fun y7 f7 w7 => rest y7 _ _ (F6.tr f7) w7 (by omega) (by rw [if_neg z])), fun z => sp_X8_saysText (j := 29) (m := 4) (mSq_at (by decide)) (by decide) (Mg y6 F6) w6 (by omega) (fun y7 f7 w7 => rest y7 _ _ (F6.tr f7) w7 (by omega) (by rw [if_pos z]))⟩
end
set_option maxHeartbeats 2000000 in
theorem v_X8_tell_0 {K : Sh} {x : Cn} {Q : Int32 → Cn → Prop} {b0 : Nat} {b0_1 : Nat} {n_b0_1 : Nat} (k_b0 : kk K b0 = some (8, 0)) (g_b0_1 : gr x b0 1 = some b0_1) (k_b0_1 : kk K b0_1 = some (20, n_b0_1)) (K0 : vp_in 0 n_b0_1 ∧ (((0 < gi x b0_1 0) → (mSV mX8_saysText [.ref b0, .ref (mSB + 27)] K (ui x b0 22 0) (fun y_3 => gr y_3 b0 1 = some b0_1 ∧ (mSV mX8_saysNumber [.ref b0, .int (gi y_3 b0_1 0)] K y_3 (fun y_5 => mSV mX8_says [.ref b0, .int 59] K y_5 (fun y_6 => GI mX8_tell 40 [some (.ref b0), some (.int 0)] [] K y_6 Q)))))) ∧ (¬ (0 < gi x b0_1 0) → (Q (-2) x)))) : mSI mX8_tell [.ref b0] K x Q := by
  refine s_I (by decide) (by simp [Value.category]) (Nat.le_of_ble_eq_true rfl) ?_
  show mGM mX8_tell 0 [some (.ref b0), none] [] (hp K x) (PI K Q)
  refine r_aload_n (pc := 0) dX8_tell_0 rfl ?_
  obtain ⟨i_1, K0⟩ := K0
  refine s_VI (pc := 1) mX8_isThere (ci := 8) (a := b0) (As := []) dX8_tell_1 lk_X8_49 in_X8_isThere mo_X8_isThere ⟨by decide, rfl⟩ ⟨by decide, by decide⟩ (Nat.le_of_ble_eq_true rfl) k_b0 (sp_X8_isThere k_b0 g_b0_1 k_b0_1 i_1 ?_)
  refine r_if_ne (pc := 4) (tgt := 10) dX8_tell_4 (by decide) (fun q => ?_) (fun q => ?_)
  · have q := b2i_nz q
    have K0 := K0.1 q
    refine r_aload_n (pc := 10) dX8_tell_10 rfl ?_
    refine r_iconst (pc := 11) (v := 0) dX8_tell_11 (by decide) ?_
    refine s_putI (pc := 12) dX8_tell_12 fl_X8_398 rfl rfl k_b0 ?_
    refine r_aload_n (pc := 15) dX8_tell_15 rfl ?_
    refine r_ldcwS (pc := 16) (j := 27) dX8_tell_16 rfl ?_
    refine s_VV (pc := 19) mX8_saysText (ci := 8) (a := b0) (As := [.ref (mSB + 27)]) dX8_tell_19 lk_X8_404 in_X8_saysText mo_X8_saysText ⟨by decide, rfl⟩ ⟨by decide, by decide⟩ (Nat.le_of_ble_eq_true rfl) k_b0 (mSV_mono K0 (fun y_3 K0 => ?_))
    refine r_aload_n (pc := 22) dX8_tell_22 rfl ?_
    refine r_aload_n (pc := 23) dX8_tell_23 rfl ?_
    obtain ⟨g_4, K0⟩ := K0
    refine s_getR (pc := 24) dX8_tell_24 fl_X8_9 rfl k_b0 g_4 ?_
    refine r_iconst (pc := 27) (v := 0) dX8_tell_27 (by decide) ?_
    refine s_iald (pc := 28) dX8_tell_28 k_b0_1 i_1 ?_
    refine s_VV (pc := 29) mX8_saysNumber (ci := 8) (a := b0) (As := [.int (gi y_3 b0_1 0)]) dX8_tell_29 lk_X8_410 in_X8_saysNumber mo_X8_saysNumber ⟨by decide, rfl⟩ ⟨by decide, by decide⟩ (Nat.le_of_ble_eq_true rfl) k_b0 (mSV_mono K0 (fun y_5 K0 => ?_))
    refine r_aload_n (pc := 32) dX8_tell_32 rfl ?_
    refine r_bipush (pc := 33) (v := 59) dX8_tell_33 (by decide) ?_
    refine s_VV (pc := 35) mX8_says (ci := 8) (a := b0) (As := [.int 59]) dX8_tell_35 lk_X8_401 in_X8_says mo_X8_says ⟨by decide, rfl⟩ ⟨by decide, by decide⟩ (Nat.le_of_ble_eq_true rfl) k_b0 (mSV_mono K0 (fun y_6 K0 => ?_))
    refine r_iconst (pc := 38) (v := 0) dX8_tell_38 (by decide) ?_
    refine r_istore_n (pc := 39) dX8_tell_39 (by decide) ?_
    exact r_le (L' := [some (.ref b0), some (.int 0)]) ⟨rfl, ⟨rfl, trivial⟩⟩ K0
  · have q := (b2i_z _).mp q
    have K0 := K0.2 q
    refine r_bipush (pc := 7) (v := (-2)) dX8_tell_7 (by decide) ?_
    exact s_iret rfl dX8_tell_9 K0
set_option maxHeartbeats 2000000 in
theorem v_X8_tell_40 {K : Sh} {x : Cn} {Q : Int32 → Cn → Prop} {b0 : Nat} {l1 : Int32} {b0_1 : Nat} {n_b0_1 : Nat} (k_b0 : kk K b0 = some (8, 0)) (g_b0_1 : gr x b0 1 = some b0_1) (k_b0_1 : kk K b0_1 = some (20, n_b0_1)) (K0 : (24 ≤ l1 → (GI mX8_tell 152 [some (.ref b0), some (.int 0)] [] K x Q)) ∧ (¬ 24 ≤ l1 → (vp_in (6 + (2 * l1)) n_b0_1 ∧ ((¬ (gi x b0_1 ((6 + (2 * l1)) : Int32).toNatClampNeg) = 4 → (mSV mX8_saysText [.ref b0, .ref (mSB + 28)] K x (fun y_4 => mSV mX8_saysNumber [.ref b0, .int l1] K y_4 (fun y_5 => mSV mX8_says [.ref b0, .int 32] K y_5 (fun y_6 => gr y_6 b0 1 = some b0_1 ∧ (mSV mX8_saysNumber [.ref b0, .int (gi y_6 b0_1 ((6 + (2 * l1)) : Int32).toNatClampNeg)] K y_6 (fun y_8 => mSV mX8_saysText [.ref b0, .ref (mSB + 29)] K y_8 (fun y_9 => gr y_9 b0 1 = some b0_1 ∧ (vp_in ((6 + (2 * l1)) + 1) n_b0_1 ∧ (mSV mX8_saysNumber [.ref b0, .int (gi y_9 b0_1 (((6 + (2 * l1)) + 1) : Int32).toNatClampNeg)] K y_9 (fun y_12 => mSV mX8_says [.ref b0, .int 59] K y_12 (fun y_13 => GI mX8_tell 40 [some (.ref b0), some (.int (l1 + 1))] [] K y_13 Q)))))))))))) ∧ ((gi x b0_1 ((6 + (2 * l1)) : Int32).toNatClampNeg) = 4 → (vp_in ((6 + (2 * l1)) + 1) n_b0_1 ∧ ((¬ (gi x b0_1 (((6 + (2 * l1)) + 1) : Int32).toNatClampNeg) = 4 → (mSV mX8_saysText [.ref b0, .ref (mSB + 28)] K x (fun y_16 => mSV mX8_saysNumber [.ref b0, .int l1] K y_16 (fun y_17 => mSV mX8_says [.ref b0, .int 32] K y_17 (fun y_18 => gr y_18 b0 1 = some b0_1 ∧ (mSV mX8_saysNumber [.ref b0, .int (gi y_18 b0_1 ((6 + (2 * l1)) : Int32).toNatClampNeg)] K y_18 (fun y_20 => mSV mX8_saysText [.ref b0, .ref (mSB + 29)] K y_20 (fun y_21 => gr y_21 b0 1 = some b0_1 ∧ (mSV mX8_saysNumber [.ref b0, .int (gi y_21 b0_1 (((6 + (2 * l1)) + 1) : Int32).toNatClampNeg)] K y_21 (fun y_23 => mSV mX8_says [.ref b0, .int 59] K y_23 (fun y_24 => GI mX8_tell 40 [some (.ref b0), some (.int (l1 + 1))] [] K y_24 Q))))))))))) ∧ ((gi x b0_1 (((6 + (2 * l1)) + 1) : Int32).toNatClampNeg) = 4 → (GI mX8_tell 40 [some (.ref b0), some (.int (l1 + 1))] [] K x Q))))))))) : GI mX8_tell 40 [some (.ref b0), some (.int l1)] [] K x Q := by
  show mGM mX8_tell 40 [some (.ref b0), some (.int l1)] [] (hp K x) (PI K Q)
  refine r_iload_n (pc := 40) dX8_tell_40 rfl ?_
  refine r_bipush (pc := 41) (v := 24) dX8_tell_41 (by decide) ?_
  refine r_icmp_ge (pc := 43) (tgt := 150) dX8_tell_43 (by decide) (fun q => ?_) (fun q => ?_)
  · have K0 := K0.1 q
    refine r_iconst (pc := 150) (v := 0) dX8_tell_150 (by decide) ?_
    refine r_istore_n (pc := 151) dX8_tell_151 (by decide) ?_
    exact r_le (L' := [some (.ref b0), some (.int 0)]) ⟨rfl, ⟨rfl, trivial⟩⟩ K0
  · have K0 := K0.2 q
    refine r_aload_n (pc := 46) dX8_tell_46 rfl ?_
    refine s_getR (pc := 47) dX8_tell_47 fl_X8_9 rfl k_b0 g_b0_1 ?_
    refine r_bipush (pc := 50) (v := 6) dX8_tell_50 (by decide) ?_
    refine r_iconst (pc := 52) (v := 2) dX8_tell_52 (by decide) ?_
    refine r_iload_n (pc := 53) dX8_tell_53 rfl ?_
    refine r_imul (pc := 54) dX8_tell_54 ?_
    refine r_iadd (pc := 55) dX8_tell_55 ?_
    obtain ⟨i_2, K0⟩ := K0
    refine s_iald (pc := 56) dX8_tell_56 k_b0_1 i_2 ?_
    refine r_iconst (pc := 57) (v := 4) dX8_tell_57 (by decide) ?_
    refine r_icmp_ne (pc := 58) (tgt := 81) dX8_tell_58 (by decide) (fun q => ?_) (fun q => ?_)
    · have K0 := K0.1 q
      refine r_aload_n (pc := 81) dX8_tell_81 rfl ?_
      refine r_ldcwS (pc := 82) (j := 28) dX8_tell_82 rfl ?_
      refine s_VV (pc := 85) mX8_saysText (ci := 8) (a := b0) (As := [.ref (mSB + 28)]) dX8_tell_85 lk_X8_404 in_X8_saysText mo_X8_saysText ⟨by decide, rfl⟩ ⟨by decide, by decide⟩ (Nat.le_of_ble_eq_true rfl) k_b0 (mSV_mono K0 (fun y_4 K0 => ?_))
      refine r_aload_n (pc := 88) dX8_tell_88 rfl ?_
      refine r_iload_n (pc := 89) dX8_tell_89 rfl ?_
      refine s_VV (pc := 90) mX8_saysNumber (ci := 8) (a := b0) (As := [.int l1]) dX8_tell_90 lk_X8_410 in_X8_saysNumber mo_X8_saysNumber ⟨by decide, rfl⟩ ⟨by decide, by decide⟩ (Nat.le_of_ble_eq_true rfl) k_b0 (mSV_mono K0 (fun y_5 K0 => ?_))
      refine r_aload_n (pc := 93) dX8_tell_93 rfl ?_
      refine r_bipush (pc := 94) (v := 32) dX8_tell_94 (by decide) ?_
      refine s_VV (pc := 96) mX8_says (ci := 8) (a := b0) (As := [.int 32]) dX8_tell_96 lk_X8_401 in_X8_says mo_X8_says ⟨by decide, rfl⟩ ⟨by decide, by decide⟩ (Nat.le_of_ble_eq_true rfl) k_b0 (mSV_mono K0 (fun y_6 K0 => ?_))
      refine r_aload_n (pc := 99) dX8_tell_99 rfl ?_
      refine r_aload_n (pc := 100) dX8_tell_100 rfl ?_
      obtain ⟨g_7, K0⟩ := K0
      refine s_getR (pc := 101) dX8_tell_101 fl_X8_9 rfl k_b0 g_7 ?_
      refine r_bipush (pc := 104) (v := 6) dX8_tell_104 (by decide) ?_
      refine r_iconst (pc := 106) (v := 2) dX8_tell_106 (by decide) ?_
      refine r_iload_n (pc := 107) dX8_tell_107 rfl ?_
      refine r_imul (pc := 108) dX8_tell_108 ?_
      refine r_iadd (pc := 109) dX8_tell_109 ?_
      refine s_iald (pc := 110) dX8_tell_110 k_b0_1 i_2 ?_
      refine s_VV (pc := 111) mX8_saysNumber (ci := 8) (a := b0) (As := [.int (gi y_6 b0_1 ((6 + (2 * l1)) : Int32).toNatClampNeg)]) dX8_tell_111 lk_X8_410 in_X8_saysNumber mo_X8_saysNumber ⟨by decide, rfl⟩ ⟨by decide, by decide⟩ (Nat.le_of_ble_eq_true rfl) k_b0 (mSV_mono K0 (fun y_8 K0 => ?_))
      refine r_aload_n (pc := 114) dX8_tell_114 rfl ?_
      refine r_ldcwS (pc := 115) (j := 29) dX8_tell_115 rfl ?_
      refine s_VV (pc := 118) mX8_saysText (ci := 8) (a := b0) (As := [.ref (mSB + 29)]) dX8_tell_118 lk_X8_404 in_X8_saysText mo_X8_saysText ⟨by decide, rfl⟩ ⟨by decide, by decide⟩ (Nat.le_of_ble_eq_true rfl) k_b0 (mSV_mono K0 (fun y_9 K0 => ?_))
      refine r_aload_n (pc := 121) dX8_tell_121 rfl ?_
      refine r_aload_n (pc := 122) dX8_tell_122 rfl ?_
      obtain ⟨g_10, K0⟩ := K0
      refine s_getR (pc := 123) dX8_tell_123 fl_X8_9 rfl k_b0 g_10 ?_
      refine r_bipush (pc := 126) (v := 6) dX8_tell_126 (by decide) ?_
      refine r_iconst (pc := 128) (v := 2) dX8_tell_128 (by decide) ?_
      refine r_iload_n (pc := 129) dX8_tell_129 rfl ?_
      refine r_imul (pc := 130) dX8_tell_130 ?_
      refine r_iadd (pc := 131) dX8_tell_131 ?_
      refine r_iconst (pc := 132) (v := 1) dX8_tell_132 (by decide) ?_
      refine r_iadd (pc := 133) dX8_tell_133 ?_
      obtain ⟨i_11, K0⟩ := K0
      refine s_iald (pc := 134) dX8_tell_134 k_b0_1 i_11 ?_
      refine s_VV (pc := 135) mX8_saysNumber (ci := 8) (a := b0) (As := [.int (gi y_9 b0_1 (((6 + (2 * l1)) + 1) : Int32).toNatClampNeg)]) dX8_tell_135 lk_X8_410 in_X8_saysNumber mo_X8_saysNumber ⟨by decide, rfl⟩ ⟨by decide, by decide⟩ (Nat.le_of_ble_eq_true rfl) k_b0 (mSV_mono K0 (fun y_12 K0 => ?_))
      refine r_aload_n (pc := 138) dX8_tell_138 rfl ?_
      refine r_bipush (pc := 139) (v := 59) dX8_tell_139 (by decide) ?_
      refine s_VV (pc := 141) mX8_says (ci := 8) (a := b0) (As := [.int 59]) dX8_tell_141 lk_X8_401 in_X8_says mo_X8_says ⟨by decide, rfl⟩ ⟨by decide, by decide⟩ (Nat.le_of_ble_eq_true rfl) k_b0 (mSV_mono K0 (fun y_13 K0 => ?_))
      refine r_iinc (pc := 144) (v := l1 + 1) dX8_tell_144 rfl rfl (by decide) ?_
      refine r_goto (pc := 147) (L := [some (.ref b0), some (.int (l1 + 1))]) (tgt := 40) dX8_tell_147 (by decide) ?_
      exact r_le (L' := [some (.ref b0), some (.int (l1 + 1))]) ⟨rfl, ⟨rfl, trivial⟩⟩ K0
    · have K0 := K0.2 q
      refine r_aload_n (pc := 61) dX8_tell_61 rfl ?_
      refine s_getR (pc := 62) dX8_tell_62 fl_X8_9 rfl k_b0 g_b0_1 ?_
      refine r_bipush (pc := 65) (v := 6) dX8_tell_65 (by decide) ?_
      refine r_iconst (pc := 67) (v := 2) dX8_tell_67 (by decide) ?_
      refine r_iload_n (pc := 68) dX8_tell_68 rfl ?_
      refine r_imul (pc := 69) dX8_tell_69 ?_
      refine r_iadd (pc := 70) dX8_tell_70 ?_
      refine r_iconst (pc := 71) (v := 1) dX8_tell_71 (by decide) ?_
      refine r_iadd (pc := 72) dX8_tell_72 ?_
      obtain ⟨i_14, K0⟩ := K0
      refine s_iald (pc := 73) dX8_tell_73 k_b0_1 i_14 ?_
      refine r_iconst (pc := 74) (v := 4) dX8_tell_74 (by decide) ?_
      refine r_icmp_ne (pc := 75) (tgt := 81) dX8_tell_75 (by decide) (fun q => ?_) (fun q => ?_)
      · have K0 := K0.1 q
        refine r_aload_n (pc := 81) dX8_tell_81 rfl ?_
        refine r_ldcwS (pc := 82) (j := 28) dX8_tell_82 rfl ?_
        refine s_VV (pc := 85) mX8_saysText (ci := 8) (a := b0) (As := [.ref (mSB + 28)]) dX8_tell_85 lk_X8_404 in_X8_saysText mo_X8_saysText ⟨by decide, rfl⟩ ⟨by decide, by decide⟩ (Nat.le_of_ble_eq_true rfl) k_b0 (mSV_mono K0 (fun y_16 K0 => ?_))
        refine r_aload_n (pc := 88) dX8_tell_88 rfl ?_
        refine r_iload_n (pc := 89) dX8_tell_89 rfl ?_
        refine s_VV (pc := 90) mX8_saysNumber (ci := 8) (a := b0) (As := [.int l1]) dX8_tell_90 lk_X8_410 in_X8_saysNumber mo_X8_saysNumber ⟨by decide, rfl⟩ ⟨by decide, by decide⟩ (Nat.le_of_ble_eq_true rfl) k_b0 (mSV_mono K0 (fun y_17 K0 => ?_))
        refine r_aload_n (pc := 93) dX8_tell_93 rfl ?_
        refine r_bipush (pc := 94) (v := 32) dX8_tell_94 (by decide) ?_
        refine s_VV (pc := 96) mX8_says (ci := 8) (a := b0) (As := [.int 32]) dX8_tell_96 lk_X8_401 in_X8_says mo_X8_says ⟨by decide, rfl⟩ ⟨by decide, by decide⟩ (Nat.le_of_ble_eq_true rfl) k_b0 (mSV_mono K0 (fun y_18 K0 => ?_))
        refine r_aload_n (pc := 99) dX8_tell_99 rfl ?_
        refine r_aload_n (pc := 100) dX8_tell_100 rfl ?_
        obtain ⟨g_19, K0⟩ := K0
        refine s_getR (pc := 101) dX8_tell_101 fl_X8_9 rfl k_b0 g_19 ?_
        refine r_bipush (pc := 104) (v := 6) dX8_tell_104 (by decide) ?_
        refine r_iconst (pc := 106) (v := 2) dX8_tell_106 (by decide) ?_
        refine r_iload_n (pc := 107) dX8_tell_107 rfl ?_
        refine r_imul (pc := 108) dX8_tell_108 ?_
        refine r_iadd (pc := 109) dX8_tell_109 ?_
        refine s_iald (pc := 110) dX8_tell_110 k_b0_1 i_2 ?_
        refine s_VV (pc := 111) mX8_saysNumber (ci := 8) (a := b0) (As := [.int (gi y_18 b0_1 ((6 + (2 * l1)) : Int32).toNatClampNeg)]) dX8_tell_111 lk_X8_410 in_X8_saysNumber mo_X8_saysNumber ⟨by decide, rfl⟩ ⟨by decide, by decide⟩ (Nat.le_of_ble_eq_true rfl) k_b0 (mSV_mono K0 (fun y_20 K0 => ?_))
        refine r_aload_n (pc := 114) dX8_tell_114 rfl ?_
        refine r_ldcwS (pc := 115) (j := 29) dX8_tell_115 rfl ?_
        refine s_VV (pc := 118) mX8_saysText (ci := 8) (a := b0) (As := [.ref (mSB + 29)]) dX8_tell_118 lk_X8_404 in_X8_saysText mo_X8_saysText ⟨by decide, rfl⟩ ⟨by decide, by decide⟩ (Nat.le_of_ble_eq_true rfl) k_b0 (mSV_mono K0 (fun y_21 K0 => ?_))
        refine r_aload_n (pc := 121) dX8_tell_121 rfl ?_
        refine r_aload_n (pc := 122) dX8_tell_122 rfl ?_
        obtain ⟨g_22, K0⟩ := K0
        refine s_getR (pc := 123) dX8_tell_123 fl_X8_9 rfl k_b0 g_22 ?_
        refine r_bipush (pc := 126) (v := 6) dX8_tell_126 (by decide) ?_
        refine r_iconst (pc := 128) (v := 2) dX8_tell_128 (by decide) ?_
        refine r_iload_n (pc := 129) dX8_tell_129 rfl ?_
        refine r_imul (pc := 130) dX8_tell_130 ?_
        refine r_iadd (pc := 131) dX8_tell_131 ?_
        refine r_iconst (pc := 132) (v := 1) dX8_tell_132 (by decide) ?_
        refine r_iadd (pc := 133) dX8_tell_133 ?_
        refine s_iald (pc := 134) dX8_tell_134 k_b0_1 i_14 ?_
        refine s_VV (pc := 135) mX8_saysNumber (ci := 8) (a := b0) (As := [.int (gi y_21 b0_1 (((6 + (2 * l1)) + 1) : Int32).toNatClampNeg)]) dX8_tell_135 lk_X8_410 in_X8_saysNumber mo_X8_saysNumber ⟨by decide, rfl⟩ ⟨by decide, by decide⟩ (Nat.le_of_ble_eq_true rfl) k_b0 (mSV_mono K0 (fun y_23 K0 => ?_))
        refine r_aload_n (pc := 138) dX8_tell_138 rfl ?_
        refine r_bipush (pc := 139) (v := 59) dX8_tell_139 (by decide) ?_
        refine s_VV (pc := 141) mX8_says (ci := 8) (a := b0) (As := [.int 59]) dX8_tell_141 lk_X8_401 in_X8_says mo_X8_says ⟨by decide, rfl⟩ ⟨by decide, by decide⟩ (Nat.le_of_ble_eq_true rfl) k_b0 (mSV_mono K0 (fun y_24 K0 => ?_))
        refine r_iinc (pc := 144) (v := l1 + 1) dX8_tell_144 rfl rfl (by decide) ?_
        refine r_goto (pc := 147) (L := [some (.ref b0), some (.int (l1 + 1))]) (tgt := 40) dX8_tell_147 (by decide) ?_
        exact r_le (L' := [some (.ref b0), some (.int (l1 + 1))]) ⟨rfl, ⟨rfl, trivial⟩⟩ K0
      · have K0 := K0.2 q
        refine r_goto (pc := 78) (tgt := 144) dX8_tell_78 (by decide) ?_
        refine r_iinc (pc := 144) (v := l1 + 1) dX8_tell_144 rfl rfl (by decide) ?_
        refine r_goto (pc := 147) (L := [some (.ref b0), some (.int (l1 + 1))]) (tgt := 40) dX8_tell_147 (by decide) ?_
        exact r_le (L' := [some (.ref b0), some (.int (l1 + 1))]) ⟨rfl, ⟨rfl, trivial⟩⟩ K0
set_option maxHeartbeats 2000000 in
theorem v_X8_tell_152 {K : Sh} {x : Cn} {Q : Int32 → Cn → Prop} {b0 : Nat} {l1 : Int32} {b0_1 : Nat} {n_b0_1 : Nat} (k_b0 : kk K b0 = some (8, 0)) (g_b0_1 : gr x b0 1 = some b0_1) (k_b0_1 : kk K b0_1 = some (20, n_b0_1)) (K0 : vp_in 1 n_b0_1 ∧ (((gi x b0_1 1) ≤ l1 → (GI mX8_tell 188 [some (.ref b0), some (.int 0)] [] K x Q)) ∧ (¬ (gi x b0_1 1) ≤ l1 → (mSV mX8_saysText [.ref b0, .ref (mSB + 30)] K x (fun y_3 => mSV mX8_saysName [.ref b0, .int l1] K y_3 (fun y_4 => mSV mX8_says [.ref b0, .int 59] K y_4 (fun y_5 => GI mX8_tell 152 [some (.ref b0), some (.int (l1 + 1))] [] K y_5 Q))))))) : GI mX8_tell 152 [some (.ref b0), some (.int l1)] [] K x Q := by
  show mGM mX8_tell 152 [some (.ref b0), some (.int l1)] [] (hp K x) (PI K Q)
  refine r_iload_n (pc := 152) dX8_tell_152 rfl ?_
  refine r_aload_n (pc := 153) dX8_tell_153 rfl ?_
  refine s_getR (pc := 154) dX8_tell_154 fl_X8_9 rfl k_b0 g_b0_1 ?_
  refine r_iconst (pc := 157) (v := 1) dX8_tell_157 (by decide) ?_
  obtain ⟨i_1, K0⟩ := K0
  refine s_iald (pc := 158) dX8_tell_158 k_b0_1 i_1 ?_
  refine r_icmp_ge (pc := 159) (tgt := 186) dX8_tell_159 (by decide) (fun q => ?_) (fun q => ?_)
  · have K0 := K0.1 q
    refine r_iconst (pc := 186) (v := 0) dX8_tell_186 (by decide) ?_
    refine r_istore_n (pc := 187) dX8_tell_187 (by decide) ?_
    exact r_le (L' := [some (.ref b0), some (.int 0)]) ⟨rfl, ⟨rfl, trivial⟩⟩ K0
  · have K0 := K0.2 q
    refine r_aload_n (pc := 162) dX8_tell_162 rfl ?_
    refine r_ldcwS (pc := 163) (j := 30) dX8_tell_163 rfl ?_
    refine s_VV (pc := 166) mX8_saysText (ci := 8) (a := b0) (As := [.ref (mSB + 30)]) dX8_tell_166 lk_X8_404 in_X8_saysText mo_X8_saysText ⟨by decide, rfl⟩ ⟨by decide, by decide⟩ (Nat.le_of_ble_eq_true rfl) k_b0 (mSV_mono K0 (fun y_3 K0 => ?_))
    refine r_aload_n (pc := 169) dX8_tell_169 rfl ?_
    refine r_iload_n (pc := 170) dX8_tell_170 rfl ?_
    refine s_VV (pc := 171) mX8_saysName (ci := 8) (a := b0) (As := [.int l1]) dX8_tell_171 lk_X8_407 in_X8_saysName mo_X8_saysName ⟨by decide, rfl⟩ ⟨by decide, by decide⟩ (Nat.le_of_ble_eq_true rfl) k_b0 (mSV_mono K0 (fun y_4 K0 => ?_))
    refine r_aload_n (pc := 174) dX8_tell_174 rfl ?_
    refine r_bipush (pc := 175) (v := 59) dX8_tell_175 (by decide) ?_
    refine s_VV (pc := 177) mX8_says (ci := 8) (a := b0) (As := [.int 59]) dX8_tell_177 lk_X8_401 in_X8_says mo_X8_says ⟨by decide, rfl⟩ ⟨by decide, by decide⟩ (Nat.le_of_ble_eq_true rfl) k_b0 (mSV_mono K0 (fun y_5 K0 => ?_))
    refine r_iinc (pc := 180) (v := l1 + 1) dX8_tell_180 rfl rfl (by decide) ?_
    refine r_goto (pc := 183) (L := [some (.ref b0), some (.int (l1 + 1))]) (tgt := 152) dX8_tell_183 (by decide) ?_
    exact r_le (L' := [some (.ref b0), some (.int (l1 + 1))]) ⟨rfl, ⟨rfl, trivial⟩⟩ K0
set_option maxHeartbeats 2000000 in
theorem v_X8_tell_188 {K : Sh} {x : Cn} {Q : Int32 → Cn → Prop} {b0 : Nat} {l1 : Int32} {b0_1 : Nat} {n_b0_1 : Nat} (k_b0 : kk K b0 = some (8, 0)) (g_b0_1 : gr x b0 1 = some b0_1) (k_b0_1 : kk K b0_1 = some (20, n_b0_1)) (K0 : vp_in 2 n_b0_1 ∧ (((gi x b0_1 2) ≤ l1 → (GI mX8_tell 242 [some (.ref b0), some (.int 0)] [] K x Q)) ∧ (¬ (gi x b0_1 2) ≤ l1 → (mSV mX8_saysCommon [.ref b0, .ref (mSB + 31), .int (62 + (12 * l1)), .int 5] K x (fun y_3 => ∃ c_4 : Nat, gr y_3 b0 3 = some c_4 ∧ (∃ n_7 : Nat, kk K c_4 = some (20, n_7) ∧ ((l24 l1 n_7) ∧ ((¬ (so (gi y_3 c_4) (l1 : Int32).toNatClampNeg 4 = 1) → (mSV mX8_saysText [.ref b0, .ref (mSB + 34)] K y_3 (fun y_10 => GI mX8_tell 188 [some (.ref b0), some (.int (l1 + 1))] [] K y_10 Q))) ∧ ((so (gi y_3 c_4) (l1 : Int32).toNatClampNeg 4 = 1) → (mSV mX8_saysText [.ref b0, .ref (mSB + 33)] K y_3 (fun y_11 => GI mX8_tell 188 [some (.ref b0), some (.int (l1 + 1))] [] K y_11 Q))))))))))) : GI mX8_tell 188 [some (.ref b0), some (.int l1)] [] K x Q := by
  show mGM mX8_tell 188 [some (.ref b0), some (.int l1)] [] (hp K x) (PI K Q)
  refine r_iload_n (pc := 188) dX8_tell_188 rfl ?_
  refine r_aload_n (pc := 189) dX8_tell_189 rfl ?_
  refine s_getR (pc := 190) dX8_tell_190 fl_X8_9 rfl k_b0 g_b0_1 ?_
  refine r_iconst (pc := 193) (v := 2) dX8_tell_193 (by decide) ?_
  obtain ⟨i_1, K0⟩ := K0
  refine s_iald (pc := 194) dX8_tell_194 k_b0_1 i_1 ?_
  refine r_icmp_ge (pc := 195) (tgt := 240) dX8_tell_195 (by decide) (fun q => ?_) (fun q => ?_)
  · have K0 := K0.1 q
    refine r_iconst (pc := 240) (v := 0) dX8_tell_240 (by decide) ?_
    refine r_istore_n (pc := 241) dX8_tell_241 (by decide) ?_
    exact r_le (L' := [some (.ref b0), some (.int 0)]) ⟨rfl, ⟨rfl, trivial⟩⟩ K0
  · have K0 := K0.2 q
    refine r_aload_n (pc := 198) dX8_tell_198 rfl ?_
    refine r_ldcwS (pc := 199) (j := 31) dX8_tell_199 rfl ?_
    refine r_bipush (pc := 202) (v := 62) dX8_tell_202 (by decide) ?_
    refine r_bipush (pc := 204) (v := 12) dX8_tell_204 (by decide) ?_
    refine r_iload_n (pc := 206) dX8_tell_206 rfl ?_
    refine r_imul (pc := 207) dX8_tell_207 ?_
    refine r_iadd (pc := 208) dX8_tell_208 ?_
    refine r_iconst (pc := 209) (v := 5) dX8_tell_209 (by decide) ?_
    refine s_VV (pc := 210) mX8_saysCommon (ci := 8) (a := b0) (As := [.ref (mSB + 31), .int (62 + (12 * l1)), .int 5]) dX8_tell_210 lk_X8_425 in_X8_saysCommon mo_X8_saysCommon ⟨by decide, rfl⟩ ⟨by decide, by decide⟩ (Nat.le_of_ble_eq_true rfl) k_b0 (mSV_mono K0 (fun y_3 K0 => ?_))
    refine r_aload_n (pc := 213) dX8_tell_213 rfl ?_
    refine r_aload_n (pc := 214) dX8_tell_214 rfl ?_
    refine r_iload_n (pc := 215) dX8_tell_215 rfl ?_
    obtain ⟨c_4, g_5, K0⟩ := K0
    obtain ⟨n_7, e_6, K0⟩ := K0
    obtain ⟨p_8, K0⟩ := K0
    refine s_VI (pc := 216) mX8_isNew (ci := 8) (a := b0) (As := [.int l1]) dX8_tell_216 lk_X8_382 in_X8_isNew mo_X8_isNew ⟨by decide, rfl⟩ ⟨by decide, by decide⟩ (Nat.le_of_ble_eq_true rfl) k_b0 (sr_X8_isNew k_b0 g_5 e_6 p_8 ?_)
    refine r_if_eq (pc := 219) (tgt := 228) dX8_tell_219 (by decide) (fun q => ?_) (fun q => ?_)
    · have q := (b2i_z _).mp q
      have K0 := K0.1 q
      refine r_ldcwS (pc := 228) (j := 34) dX8_tell_228 rfl ?_
      refine s_VV (pc := 231) mX8_saysText (ci := 8) (a := b0) (As := [.ref (mSB + 34)]) dX8_tell_231 lk_X8_404 in_X8_saysText mo_X8_saysText ⟨by decide, rfl⟩ ⟨by decide, by decide⟩ (Nat.le_of_ble_eq_true rfl) k_b0 (mSV_mono K0 (fun y_10 K0 => ?_))
      refine r_iinc (pc := 234) (v := l1 + 1) dX8_tell_234 rfl rfl (by decide) ?_
      refine r_goto (pc := 237) (L := [some (.ref b0), some (.int (l1 + 1))]) (tgt := 188) dX8_tell_237 (by decide) ?_
      exact r_le (L' := [some (.ref b0), some (.int (l1 + 1))]) ⟨rfl, ⟨rfl, trivial⟩⟩ K0
    · have q := b2i_nz q
      have K0 := K0.2 q
      refine r_ldcwS (pc := 222) (j := 33) dX8_tell_222 rfl ?_
      refine r_goto (pc := 225) (tgt := 231) dX8_tell_225 (by decide) ?_
      refine s_VV (pc := 231) mX8_saysText (ci := 8) (a := b0) (As := [.ref (mSB + 33)]) dX8_tell_231 lk_X8_404 in_X8_saysText mo_X8_saysText ⟨by decide, rfl⟩ ⟨by decide, by decide⟩ (Nat.le_of_ble_eq_true rfl) k_b0 (mSV_mono K0 (fun y_11 K0 => ?_))
      refine r_iinc (pc := 234) (v := l1 + 1) dX8_tell_234 rfl rfl (by decide) ?_
      refine r_goto (pc := 237) (L := [some (.ref b0), some (.int (l1 + 1))]) (tgt := 188) dX8_tell_237 (by decide) ?_
      exact r_le (L' := [some (.ref b0), some (.int (l1 + 1))]) ⟨rfl, ⟨rfl, trivial⟩⟩ K0
set_option maxHeartbeats 2000000 in
theorem v_X8_tell_242 {K : Sh} {x : Cn} {Q : Int32 → Cn → Prop} {b0 : Nat} {l1 : Int32} {b0_1 : Nat} {n_b0_1 : Nat} (k_b0 : kk K b0 = some (8, 0)) (g_b0_1 : gr x b0 1 = some b0_1) (k_b0_1 : kk K b0_1 = some (20, n_b0_1)) (K0 : vp_in 3 n_b0_1 ∧ (((gi x b0_1 3) ≤ l1 → (Q (gi x b0 22) x)) ∧ (¬ (gi x b0_1 3) ≤ l1 → (mSV mX8_saysCommon [.ref b0, .ref (mSB + 35), .int (350 + (7 * l1)), .int 4] K x (fun y_3 => ∃ c_4 : Nat, gr y_3 b0 3 = some c_4 ∧ (∃ n_7 : Nat, kk K c_4 = some (20, n_7) ∧ ((l24 l1 n_7) ∧ (((ao (gi y_3 c_4) (l1 : Int32).toNatClampNeg 6) ≤ 0 → (((ao (gi y_3 c_4) (l1 : Int32).toNatClampNeg 6) ≤ 0 → (mSV mX8_says [.ref b0, .int 59] K y_3 (fun y_11 => GI mX8_tell 242 [some (.ref b0), some (.int (l1 + 1))] [] K y_11 Q))) ∧ (¬ (ao (gi y_3 c_4) (l1 : Int32).toNatClampNeg 6) ≤ 0 → (mSV mX8_saysNumber [.ref b0, .int (ao (gi y_3 c_4) (l1 : Int32).toNatClampNeg 6)] K y_3 (fun y_12 => mSV mX8_says [.ref b0, .int 59] K y_12 (fun y_13 => GI mX8_tell 242 [some (.ref b0), some (.int (l1 + 1))] [] K y_13 Q)))))) ∧ (¬ (ao (gi y_3 c_4) (l1 : Int32).toNatClampNeg 6) ≤ 0 → (mSV mX8_saysText [.ref b0, .ref (mSB + 36)] K y_3 (fun y_14 => ∃ c_15 : Nat, gr y_14 b0 3 = some c_15 ∧ (∃ n_18 : Nat, kk K c_15 = some (20, n_18) ∧ ((l24 l1 n_18) ∧ (((ao (gi y_14 c_15) (l1 : Int32).toNatClampNeg 6) ≤ 0 → (mSV mX8_says [.ref b0, .int 59] K y_14 (fun y_21 => GI mX8_tell 242 [some (.ref b0), some (.int (l1 + 1))] [] K y_21 Q))) ∧ (¬ (ao (gi y_14 c_15) (l1 : Int32).toNatClampNeg 6) ≤ 0 → (mSV mX8_saysNumber [.ref b0, .int (ao (gi y_14 c_15) (l1 : Int32).toNatClampNeg 6)] K y_14 (fun y_22 => mSV mX8_says [.ref b0, .int 59] K y_22 (fun y_23 => GI mX8_tell 242 [some (.ref b0), some (.int (l1 + 1))] [] K y_23 Q)))))))))))))))))) : GI mX8_tell 242 [some (.ref b0), some (.int l1)] [] K x Q := by
  show mGM mX8_tell 242 [some (.ref b0), some (.int l1)] [] (hp K x) (PI K Q)
  refine r_iload_n (pc := 242) dX8_tell_242 rfl ?_
  refine r_aload_n (pc := 243) dX8_tell_243 rfl ?_
  refine s_getR (pc := 244) dX8_tell_244 fl_X8_9 rfl k_b0 g_b0_1 ?_
  refine r_iconst (pc := 247) (v := 3) dX8_tell_247 (by decide) ?_
  obtain ⟨i_1, K0⟩ := K0
  refine s_iald (pc := 248) dX8_tell_248 k_b0_1 i_1 ?_
  refine r_icmp_ge (pc := 249) (tgt := 318) dX8_tell_249 (by decide) (fun q => ?_) (fun q => ?_)
  · have K0 := K0.1 q
    refine r_aload_n (pc := 318) dX8_tell_318 rfl ?_
    refine s_getI (pc := 319) dX8_tell_319 fl_X8_398 rfl k_b0 ?_
    exact s_iret rfl dX8_tell_322 K0
  · have K0 := K0.2 q
    refine r_aload_n (pc := 252) dX8_tell_252 rfl ?_
    refine r_ldcwS (pc := 253) (j := 35) dX8_tell_253 rfl ?_
    refine r_sipush (pc := 256) (v := 350) dX8_tell_256 (by decide) ?_
    refine r_bipush (pc := 259) (v := 7) dX8_tell_259 (by decide) ?_
    refine r_iload_n (pc := 261) dX8_tell_261 rfl ?_
    refine r_imul (pc := 262) dX8_tell_262 ?_
    refine r_iadd (pc := 263) dX8_tell_263 ?_
    refine r_iconst (pc := 264) (v := 4) dX8_tell_264 (by decide) ?_
    refine s_VV (pc := 265) mX8_saysCommon (ci := 8) (a := b0) (As := [.ref (mSB + 35), .int (350 + (7 * l1)), .int 4]) dX8_tell_265 lk_X8_425 in_X8_saysCommon mo_X8_saysCommon ⟨by decide, rfl⟩ ⟨by decide, by decide⟩ (Nat.le_of_ble_eq_true rfl) k_b0 (mSV_mono K0 (fun y_3 K0 => ?_))
    refine r_aload_n (pc := 268) dX8_tell_268 rfl ?_
    refine r_iload_n (pc := 269) dX8_tell_269 rfl ?_
    refine r_bipush (pc := 270) (v := 6) dX8_tell_270 (by decide) ?_
    obtain ⟨c_4, g_5, K0⟩ := K0
    obtain ⟨n_7, e_6, K0⟩ := K0
    obtain ⟨p_8, K0⟩ := K0
    refine s_VI (pc := 272) mX8_ask0 (ci := 8) (a := b0) (As := [.int l1, .int 6]) dX8_tell_272 lk_X8_284 in_X8_ask0 mo_X8_ask0 ⟨by decide, rfl⟩ ⟨by decide, by decide⟩ (Nat.le_of_ble_eq_true rfl) k_b0 (sr_X8_ask0 k_b0 g_5 e_6 p_8 ⟨by decide, by decide⟩ ?_)
    refine r_if_le (pc := 275) (tgt := 285) dX8_tell_275 (by decide) (fun q => ?_) (fun q => ?_)
    · have K0 := K0.1 q
      refine r_aload_n (pc := 285) dX8_tell_285 rfl ?_
      refine r_iload_n (pc := 286) dX8_tell_286 rfl ?_
      refine r_bipush (pc := 287) (v := 6) dX8_tell_287 (by decide) ?_
      refine s_VI (pc := 289) mX8_ask0 (ci := 8) (a := b0) (As := [.int l1, .int 6]) dX8_tell_289 lk_X8_284 in_X8_ask0 mo_X8_ask0 ⟨by decide, rfl⟩ ⟨by decide, by decide⟩ (Nat.le_of_ble_eq_true rfl) k_b0 (sr_X8_ask0 k_b0 g_5 e_6 p_8 ⟨by decide, by decide⟩ ?_)
      refine r_if_le (pc := 292) (tgt := 306) dX8_tell_292 (by decide) (fun q => ?_) (fun q => ?_)
      · have K0 := K0.1 q
        refine r_aload_n (pc := 306) dX8_tell_306 rfl ?_
        refine r_bipush (pc := 307) (v := 59) dX8_tell_307 (by decide) ?_
        refine s_VV (pc := 309) mX8_says (ci := 8) (a := b0) (As := [.int 59]) dX8_tell_309 lk_X8_401 in_X8_says mo_X8_says ⟨by decide, rfl⟩ ⟨by decide, by decide⟩ (Nat.le_of_ble_eq_true rfl) k_b0 (mSV_mono K0 (fun y_11 K0 => ?_))
        refine r_iinc (pc := 312) (v := l1 + 1) dX8_tell_312 rfl rfl (by decide) ?_
        refine r_goto (pc := 315) (L := [some (.ref b0), some (.int (l1 + 1))]) (tgt := 242) dX8_tell_315 (by decide) ?_
        exact r_le (L' := [some (.ref b0), some (.int (l1 + 1))]) ⟨rfl, ⟨rfl, trivial⟩⟩ K0
      · have K0 := K0.2 q
        refine r_aload_n (pc := 295) dX8_tell_295 rfl ?_
        refine r_aload_n (pc := 296) dX8_tell_296 rfl ?_
        refine r_iload_n (pc := 297) dX8_tell_297 rfl ?_
        refine r_bipush (pc := 298) (v := 6) dX8_tell_298 (by decide) ?_
        refine s_VI (pc := 300) mX8_ask0 (ci := 8) (a := b0) (As := [.int l1, .int 6]) dX8_tell_300 lk_X8_284 in_X8_ask0 mo_X8_ask0 ⟨by decide, rfl⟩ ⟨by decide, by decide⟩ (Nat.le_of_ble_eq_true rfl) k_b0 (sr_X8_ask0 k_b0 g_5 e_6 p_8 ⟨by decide, by decide⟩ ?_)
        refine s_VV (pc := 303) mX8_saysNumber (ci := 8) (a := b0) (As := [.int (ao (gi y_3 c_4) (l1 : Int32).toNatClampNeg 6)]) dX8_tell_303 lk_X8_410 in_X8_saysNumber mo_X8_saysNumber ⟨by decide, rfl⟩ ⟨by decide, by decide⟩ (Nat.le_of_ble_eq_true rfl) k_b0 (mSV_mono K0 (fun y_12 K0 => ?_))
        refine r_aload_n (pc := 306) dX8_tell_306 rfl ?_
        refine r_bipush (pc := 307) (v := 59) dX8_tell_307 (by decide) ?_
        refine s_VV (pc := 309) mX8_says (ci := 8) (a := b0) (As := [.int 59]) dX8_tell_309 lk_X8_401 in_X8_says mo_X8_says ⟨by decide, rfl⟩ ⟨by decide, by decide⟩ (Nat.le_of_ble_eq_true rfl) k_b0 (mSV_mono K0 (fun y_13 K0 => ?_))
        refine r_iinc (pc := 312) (v := l1 + 1) dX8_tell_312 rfl rfl (by decide) ?_
        refine r_goto (pc := 315) (L := [some (.ref b0), some (.int (l1 + 1))]) (tgt := 242) dX8_tell_315 (by decide) ?_
        exact r_le (L' := [some (.ref b0), some (.int (l1 + 1))]) ⟨rfl, ⟨rfl, trivial⟩⟩ K0
    · have K0 := K0.2 q
      refine r_aload_n (pc := 278) dX8_tell_278 rfl ?_
      refine r_ldcwS (pc := 279) (j := 36) dX8_tell_279 rfl ?_
      refine s_VV (pc := 282) mX8_saysText (ci := 8) (a := b0) (As := [.ref (mSB + 36)]) dX8_tell_282 lk_X8_404 in_X8_saysText mo_X8_saysText ⟨by decide, rfl⟩ ⟨by decide, by decide⟩ (Nat.le_of_ble_eq_true rfl) k_b0 (mSV_mono K0 (fun y_14 K0 => ?_))
      refine r_aload_n (pc := 285) dX8_tell_285 rfl ?_
      refine r_iload_n (pc := 286) dX8_tell_286 rfl ?_
      refine r_bipush (pc := 287) (v := 6) dX8_tell_287 (by decide) ?_
      obtain ⟨c_15, g_16, K0⟩ := K0
      obtain ⟨n_18, e_17, K0⟩ := K0
      obtain ⟨p_19, K0⟩ := K0
      refine s_VI (pc := 289) mX8_ask0 (ci := 8) (a := b0) (As := [.int l1, .int 6]) dX8_tell_289 lk_X8_284 in_X8_ask0 mo_X8_ask0 ⟨by decide, rfl⟩ ⟨by decide, by decide⟩ (Nat.le_of_ble_eq_true rfl) k_b0 (sr_X8_ask0 k_b0 g_16 e_17 p_19 ⟨by decide, by decide⟩ ?_)
      refine r_if_le (pc := 292) (tgt := 306) dX8_tell_292 (by decide) (fun q => ?_) (fun q => ?_)
      · have K0 := K0.1 q
        refine r_aload_n (pc := 306) dX8_tell_306 rfl ?_
        refine r_bipush (pc := 307) (v := 59) dX8_tell_307 (by decide) ?_
        refine s_VV (pc := 309) mX8_says (ci := 8) (a := b0) (As := [.int 59]) dX8_tell_309 lk_X8_401 in_X8_says mo_X8_says ⟨by decide, rfl⟩ ⟨by decide, by decide⟩ (Nat.le_of_ble_eq_true rfl) k_b0 (mSV_mono K0 (fun y_21 K0 => ?_))
        refine r_iinc (pc := 312) (v := l1 + 1) dX8_tell_312 rfl rfl (by decide) ?_
        refine r_goto (pc := 315) (L := [some (.ref b0), some (.int (l1 + 1))]) (tgt := 242) dX8_tell_315 (by decide) ?_
        exact r_le (L' := [some (.ref b0), some (.int (l1 + 1))]) ⟨rfl, ⟨rfl, trivial⟩⟩ K0
      · have K0 := K0.2 q
        refine r_aload_n (pc := 295) dX8_tell_295 rfl ?_
        refine r_aload_n (pc := 296) dX8_tell_296 rfl ?_
        refine r_iload_n (pc := 297) dX8_tell_297 rfl ?_
        refine r_bipush (pc := 298) (v := 6) dX8_tell_298 (by decide) ?_
        refine s_VI (pc := 300) mX8_ask0 (ci := 8) (a := b0) (As := [.int l1, .int 6]) dX8_tell_300 lk_X8_284 in_X8_ask0 mo_X8_ask0 ⟨by decide, rfl⟩ ⟨by decide, by decide⟩ (Nat.le_of_ble_eq_true rfl) k_b0 (sr_X8_ask0 k_b0 g_16 e_17 p_19 ⟨by decide, by decide⟩ ?_)
        refine s_VV (pc := 303) mX8_saysNumber (ci := 8) (a := b0) (As := [.int (ao (gi y_14 c_15) (l1 : Int32).toNatClampNeg 6)]) dX8_tell_303 lk_X8_410 in_X8_saysNumber mo_X8_saysNumber ⟨by decide, rfl⟩ ⟨by decide, by decide⟩ (Nat.le_of_ble_eq_true rfl) k_b0 (mSV_mono K0 (fun y_22 K0 => ?_))
        refine r_aload_n (pc := 306) dX8_tell_306 rfl ?_
        refine r_bipush (pc := 307) (v := 59) dX8_tell_307 (by decide) ?_
        refine s_VV (pc := 309) mX8_says (ci := 8) (a := b0) (As := [.int 59]) dX8_tell_309 lk_X8_401 in_X8_says mo_X8_says ⟨by decide, rfl⟩ ⟨by decide, by decide⟩ (Nat.le_of_ble_eq_true rfl) k_b0 (mSV_mono K0 (fun y_23 K0 => ?_))
        refine r_iinc (pc := 312) (v := l1 + 1) dX8_tell_312 rfl rfl (by decide) ?_
        refine r_goto (pc := 315) (L := [some (.ref b0), some (.int (l1 + 1))]) (tgt := 242) dX8_tell_315 (by decide) ?_
        exact r_le (L' := [some (.ref b0), some (.int (l1 + 1))]) ⟨rfl, ⟨rfl, trivial⟩⟩ K0
section
theorem sp_X8_tell_1 {x : Cn} {Q : Int32 → Cn → Prop} {T : TT} {W C S A N : Nat} (M : MRf x 718) (hT : gi x 718 = T) (F : WF T W C S A N) (hW : 0 < W) (hnm : ∀ c, c < C → ∃ v, (0 < v ∧ v < 387420489) ∧ T (54 + c) = nI v) (k : ∀ y, OFr x y → OR y (tl4 T W C S A) 2346 → Q (nI (tl4 T W C S A).length) y) : mSI mX8_tell [.ref 717] KW x Q := by
  have hW30 : W ≤ 30 := F.2.2.1
  have hC : C ≤ 8 := F.2.2.2.2.1
  have hS : S ≤ 24 := F.2.2.2.2.2.2.1
  have hA : A ≤ 24 := F.2.2.2.2.2.2.2.2.1
  have Mg : ∀ y : Cn, OFr x y → MRf y 718 := fun y fy => M.keep fy.1
  have tg : ∀ y : Cn, OFr x y → gi y 718 = T := fun y fy => by rw [← hT]; funext i; exact fy.2 718 i (by decide) (by omega)
  have l4 : ∀ y, OFr x y → OR y (tl3 T W C S) 1482 → GI mX8_tell 242 [some (.ref 717), some (.int 0)] [] KW y Q := by
    intro y fy wy
    refine lp_acc (fun a l => l ++ askS T a) (fun a l => ∀ z, OFr x z → OR z l (1482 + 36 * a) → GI mX8_tell 242 [some (.ref 717), some (.int (nI a))] [] KW z Q) A (tl3 T W C S) ?_ (fun a l ha n1 => ?_) y fy wy
    · intro z fz wz
      refine v_X8_tell_242 km (Mg z fz).1 km1 ⟨v0 (k := 3) (by decide) rfl rfl, fun _ => ?_, fun u => absurd (by rw [tg z fz, F.2.2.2.2.2.2.2.1]; exact Int32.le_refl _) u⟩
      rw [wz.1]
      exact k z fz (wz.le (by omega))
    · intro z fz wz
      obtain ⟨⟨cr, hc, ec⟩, ⟨d, hd, ed⟩, ⟨h, hh, eh⟩, -, ⟨f, t, f1, f2, f3, f4⟩, ⟨b, hb9, eb⟩⟩ := F.2.2.2.2.2.2.2.2.2.2.2.2.2 a ha
      obtain ⟨v, ⟨hv0, hv1⟩, hv2⟩ := hnm cr hc
      have ea : askS T a = askP v d h (ao T a 3) f t b := by
        unfold askS nmv
        rw [ec, ed, eh, f3, f4, eb, nI_clamp (by omega), nI_clamp (by omega), nI_clamp (by omega), nI_clamp (by omega), nI_clamp (by omega), nI_clamp (by omega), hv2, nI_clamp (by omega)]
      have ib : (350 : Int32) + 7 * nI a = nI (350 + 7 * a) := by
        have := ix2 a (v := 0) 0 rfl
        rw [Int32.add_zero] at this
        exact this
      refine v_X8_tell_242 km (Mg z fz).1 km1 ⟨v0 (k := 3) (by decide) rfl rfl, fun u => absurd (by rw [tg z fz, F.2.2.2.2.2.2.2.1] at u; exact u) (nI_ge ha (by omega)), fun _ => ?_⟩
      rw [ib, nI_1]
      refine sp_X8_saysCommon (j := 35) (m := 4) (f0 := 4) (way := ao T a 3) T (tg z fz) (by omega) (by decide) ec ed eh rfl f3 f4 (by omega) hv1 hv2 hd (by omega) (by omega) (by omega) (by decide) (by decide) (Mg z fz) wz (by omega) (fun y1 g1 w1 => ⟨718, (Mg y1 (fz.tr g1)).2.2.1, 518, km1, l24_nI (by omega) rfl, ?_⟩)
      rw [tg y1 (fz.tr g1), nI_clamp (by omega), eb, show nI b ≤ 0 ↔ b ≤ 0 from nI_leI (b := 0) (by omega) (by decide)]
      have fin : ∀ (y2 : Cn) B2, OFr x y2 → OR y2 (l ++ comP (wd 35) v d h (ao T a 3) f t ++ (if b = 0 then [] else wd 36 ++ numL b)) B2 → B2 + 1 ≤ 1482 + 36 * (a + 1) → mSV mX8_says [.ref 717, .int 59] KW y2 (fun y_11 => GI mX8_tell 242 [some (.ref 717), some (.int (nI (a + 1)))] [] KW y_11 Q) := by
        intro y2 B2 G2 w2 hB2
        refine sp_X8_says (n := 59) (by decide) (Mg y2 G2) w2 (by omega) (fun y3 g3 w3 => n1 _ rfl y3 (G2.tr g3) ?_)
        have e : l ++ comP (wd 35) v d h (ao T a 3) f t ++ (if b = 0 then [] else wd 36 ++ numL b) ++ [59] = l ++ askS T a := by
          rw [ea]
          simp only [askP, List.append_assoc]
        rw [e] at w3
        exact w3.le (by omega)
      have G1 := fz.tr g1
      refine ⟨fun u => ⟨fun _ => fin y1 _ G1 (by rw [if_pos (by omega), List.append_nil]; exact w1) (by omega), fun u2 => absurd u u2⟩, fun u => sp_X8_saysText (j := 36) (m := 4) (mSq_at (by decide)) (by decide) (Mg y1 G1) w1 (by omega) (fun y2 g2 w2 => ⟨718, (Mg y2 (G1.tr g2)).2.2.1, 518, km1, l24_nI (by omega) rfl, ?_⟩)⟩
      rw [tg y2 (G1.tr g2), eb, show nI b ≤ 0 ↔ b ≤ 0 from nI_leI (b := 0) (by omega) (by decide)]
      refine ⟨fun u2 => absurd u2 u, fun _ => sp_X8_saysNumber (n := b) (by omega) (Mg y2 (G1.tr g2)) w2 (by omega) (fun y3 g3 w3 => fin y3 (1482 + 36 * a + 23 + 4 + 4 + 2) (G1.tr (g2.tr g3)) ?_ (by omega))⟩
      rw [if_neg (by omega), ← List.append_assoc]
      exact w3
  have l3 : ∀ y, OFr x y → OR y (tl2 T W C) 594 → GI mX8_tell 188 [some (.ref 717), some (.int 0)] [] KW y Q := by
    intro y fy wy
    refine lp_acc (fun s l => l ++ serT T s) (fun s l => ∀ z, OFr x z → OR z l (594 + 37 * s) → GI mX8_tell 188 [some (.ref 717), some (.int (nI s))] [] KW z Q) S (tl2 T W C) ?_ (fun s l hs n1 => ?_) y fy wy
    · intro z fz wz
      exact v_X8_tell_188 km (Mg z fz).1 km1 ⟨v0 (k := 2) (by decide) rfl rfl, fun _ => l4 z fz (wz.le (by omega)), fun u => absurd (by rw [tg z fz, F.2.2.2.2.2.1]; exact Int32.le_refl _) u⟩
    · intro z fz wz
      obtain ⟨⟨cr, hc, ec⟩, ⟨d, hd, ed⟩, ⟨h, hh, eh⟩, -, o4, ⟨f, t, f1, f2, f3, f4⟩, -⟩ := F.2.2.2.2.2.2.2.2.2.2.2.2.1 s hs
      obtain ⟨v, ⟨hv0, hv1⟩, hv2⟩ := hnm cr hc
      have es : serT T s = serP v d h (so T s 3) f t (so T s 4) := by
        unfold serT nmv
        rw [ec, ed, eh, f3, f4, nI_clamp (by omega), nI_clamp (by omega), nI_clamp (by omega), nI_clamp (by omega), nI_clamp (by omega), hv2, nI_clamp (by omega)]
      have ib : (62 : Int32) + 12 * nI s = nI (62 + 12 * s) := by
        have := ix1 s (v := 0) 0 rfl
        rw [Int32.add_zero] at this
        exact this
      refine v_X8_tell_188 km (Mg z fz).1 km1 ⟨v0 (k := 2) (by decide) rfl rfl, fun u => absurd (by rw [tg z fz, F.2.2.2.2.2.1] at u; exact u) (nI_ge hs (by omega)), fun _ => ?_⟩
      rw [ib, nI_1]
      refine sp_X8_saysCommon (j := 31) (m := 7) (f0 := 5) (way := so T s 3) T (tg z fz) (by omega) (by decide) ec ed eh rfl f3 f4 (by omega) hv1 hv2 hd (by omega) (by omega) (by omega) (by decide) (by decide) (Mg z fz) wz (by omega) (fun y1 g1 w1 => ⟨718, (Mg y1 (fz.tr g1)).2.2.1, 518, km1, l24_nI (by omega) rfl, ?_⟩)
      have G1 := fz.tr g1
      rw [tg y1 G1, nI_clamp (by omega)]
      refine ⟨fun u => sp_X8_saysText (j := 34) (m := 1) (mSq_at (by decide)) (by decide) (Mg y1 G1) w1 (by omega) (fun y2 g2 w2 => n1 _ rfl y2 (G1.tr g2) ?_), fun u => sp_X8_saysText (j := 33) (m := 5) (mSq_at (by decide)) (by decide) (Mg y1 G1) w1 (by omega) (fun y2 g2 w2 => n1 _ rfl y2 (G1.tr g2) ?_)⟩
      · rw [es]
        unfold serP
        rw [if_neg u, ← List.append_assoc]
        exact w2.le (by omega)
      · rw [es]
        unfold serP
        rw [if_pos u, ← List.append_assoc]
        exact w2.le (by omega)
  have l2 : ∀ y, OFr x y → OR y (tl1 T W) 466 → GI mX8_tell 152 [some (.ref 717), some (.int 0)] [] KW y Q := by
    intro y fy wy
    refine lp_acc (fun c l => l ++ carP (nmv T c)) (fun cr l => ∀ z, OFr x z → OR z l (466 + 16 * cr) → GI mX8_tell 152 [some (.ref 717), some (.int (nI cr))] [] KW z Q) C (tl1 T W) ?_ (fun cr l hc n1 => ?_) y fy wy
    · intro z fz wz
      exact v_X8_tell_152 km (Mg z fz).1 km1 ⟨v0 (k := 1) (by decide) rfl rfl, fun _ => l3 z fz (wz.le (by omega)), fun u => absurd (by rw [tg z fz, F.2.2.2.1]; exact Int32.le_refl _) u⟩
    · intro z fz wz
      obtain ⟨v, ⟨hv0, hv1⟩, hv2⟩ := hnm cr hc
      have ec : nmv T cr = v := by
        unfold nmv
        rw [hv2, nI_clamp (by omega)]
      refine v_X8_tell_152 km (Mg z fz).1 km1 ⟨v0 (k := 1) (by decide) rfl rfl, fun u => absurd (by rw [tg z fz, F.2.2.2.1] at u; exact u) (nI_ge hc (by omega)), fun _ => ?_⟩
      rw [nI_1]
      refine sp_X8_saysText (j := 30) (m := 8) (mSq_at (by decide)) (by decide) (Mg z fz) wz (by omega) (fun y1 g1 w1 => sp_X8_saysName (v := v) (by omega) hv1 (by rw [tg y1 (fz.tr g1)]; exact hv2) (Mg y1 (fz.tr g1)) w1 (by omega) (fun y2 g2 w2 => sp_X8_says (n := 59) (by decide) (Mg y2 (fz.tr (g1.tr g2))) w2 (by omega) (fun y3 g3 w3 => n1 _ rfl y3 (fz.tr (g1.tr (g2.tr g3))) ?_)))
      have e : l ++ wq (mSq 30) ++ nmL v ++ [59] = l ++ carP (nmv T cr) := by
        rw [ec]
        simp only [carP, List.append_assoc]
      rw [e] at w3
      exact w3.le (by omega)
  have l1 : ∀ y, OFr x y → OR y (tl0 W) 10 → GI mX8_tell 40 [some (.ref 717), some (.int 0)] [] KW y Q := by
    intro y fy wy
    refine lp_acc (fun h l => l ++ limT T h) (fun h l => ∀ z, OFr x z → OR z l (10 + 19 * h) → GI mX8_tell 40 [some (.ref 717), some (.int (nI h))] [] KW z Q) 24 (tl0 W) ?_ (fun h l hh n1 => ?_) y fy wy
    · intro z fz wz
      exact v_X8_tell_40 km (Mg z fz).1 km1 ⟨fun _ => l2 z fz wz, fun u => absurd (Int32.le_refl _) u⟩
    · intro z fz wz
      obtain ⟨a, b, ha, hb', ea, eb⟩ := F.2.2.2.2.2.2.2.2.2.2.2.1 h hh
      have put : ¬ (T (6 + 2 * h) = 4 ∧ T (7 + 2 * h) = 4) → mSV mX8_saysText [.ref 717, .ref (mSB + 28)] KW z (fun y_4 => mSV mX8_saysNumber [.ref 717, .int (nI h)] KW y_4 (fun y_5 => mSV mX8_says [.ref 717, .int 32] KW y_5 (fun y_6 => gr y_6 717 1 = some 718 ∧ mSV mX8_saysNumber [.ref 717, .int (gi y_6 718 (6 + 2 * h))] KW y_6 (fun y_8 => mSV mX8_saysText [.ref 717, .ref (mSB + 29)] KW y_8 (fun y_9 => gr y_9 717 1 = some 718 ∧ mSV mX8_saysNumber [.ref 717, .int (gi y_9 718 (7 + 2 * h))] KW y_9 (fun y_12 => mSV mX8_says [.ref 717, .int 59] KW y_12 (fun y_13 => GI mX8_tell 40 [some (.ref 717), some (.int (nI (h + 1)))] [] KW y_13 Q))))))) := by
        intro hne
        have el : limT T h = limP h a b := by
          unfold limT
          rw [if_neg hne, ea, eb, nI_clamp (by omega), nI_clamp (by omega)]
        refine sp_X8_saysText (j := 28) (m := 6) (mSq_at (by decide)) (by decide) (Mg z fz) wz (by omega) (fun y1 g1 w1 => sp_X8_saysNumber (n := h) (by omega) (Mg y1 (fz.tr g1)) w1 (by omega) (fun y2 g2 w2 => sp_X8_says (n := 32) (by decide) (Mg y2 (fz.tr (g1.tr g2))) w2 (by omega) (fun y3 g3 w3 => ⟨(Mg y3 (fz.tr (g1.tr (g2.tr g3)))).1, ?_⟩)))
        have G3 := fz.tr (g1.tr (g2.tr g3))
        rw [tg y3 G3, ea]
        refine sp_X8_saysNumber (n := a) (by omega) (Mg y3 G3) w3 (by omega) (fun y4 g4 w4 => sp_X8_saysText (j := 29) (m := 4) (mSq_at (by decide)) (by decide) (Mg y4 (G3.tr g4)) w4 (by omega) (fun y5 g5 w5 => ⟨(Mg y5 (G3.tr (g4.tr g5))).1, ?_⟩))
        have G5 := G3.tr (g4.tr g5)
        rw [tg y5 G5, eb]
        refine sp_X8_saysNumber (n := b) (by omega) (Mg y5 G5) w5 (by omega) (fun y6 g6 w6 => sp_X8_says (n := 59) (by decide) (Mg y6 (G5.tr g6)) w6 (by omega) (fun y7 g7 w7 => n1 _ rfl y7 (G5.tr (g6.tr g7)) ?_))
        have e : l ++ wq (mSq 28) ++ numL h ++ [32] ++ numL a ++ wq (mSq 29) ++ numL b ++ [59] = l ++ limT T h := by
          rw [el]
          simp only [limP, List.append_assoc]
        rw [e] at w7
        exact w7.le (by omega)
      refine v_X8_tell_40 km (Mg z fz).1 km1 ⟨fun u => absurd u (nI_ge (b := 24) hh (by decide)), fun _ => ?_⟩
      rw [ixh1, ixh, nI_clamp (show 6 + 2 * h < 2 ^ 31 by omega), nI_clamp (show 7 + 2 * h < 2 ^ 31 by omega), nI_1, tg z fz]
      have i7 : vp_in (nI (7 + 2 * h)) 518 := vp_in_nI (by omega) (by decide)
      refine ⟨vp_in_nI (by omega) (by decide), fun u => mSV_mono (put (fun g => u g.1)) (fun y1 q1 => mSV_mono q1 (fun y2 q2 => mSV_mono q2 (fun y3 q3 => ⟨q3.1, mSV_mono q3.2 (fun y4 q4 => mSV_mono q4 (fun y5 q5 => ⟨q5.1, i7, q5.2⟩))⟩))), fun u => ⟨i7, fun u2 => put (fun g => u2 g.2), fun u2 => ?_⟩⟩
      have el : limT T h = [] := by
        unfold limT
        rw [if_pos ⟨u, u2⟩]
      exact n1 l (by rw [el, List.append_nil]) z fz (wz.le (by omega))
  have w0 : OR (ui x 717 22 0) [] 0 := ⟨by rw [gi_ui, if_pos ⟨rfl, rfl⟩]; rfl, fun i hi => absurd hi (Nat.not_lt_zero _), Nat.le_refl _⟩
  have f0 : OFr x (ui x 717 22 0) := ⟨rfl, fun a j a1 a2 => by rw [gi_ui, if_neg a2]⟩
  have gW : gi x 718 0 = nI W := by rw [hT]; exact F.1
  refine v_X8_tell_0 km M.1 km1 ⟨v0 (k := 0) (by decide) rfl rfl, fun _ => sp_X8_saysText (j := 27) (m := 6) (mSq_at (by decide)) (by decide) (Mg _ f0) w0 (by omega) (fun y1 f1 w1 => ⟨(Mg _ (f0.tr f1)).1, ?_⟩), fun u => absurd (by rw [gW]; exact nI_lt (a := 0) hW (by omega)) u⟩
  rw [tg _ (f0.tr f1), F.1]
  refine sp_X8_saysNumber (by omega) (Mg _ (f0.tr f1)) w1 (by omega) (fun y2 f2 w2 => sp_X8_says (n := 59) (by decide) (Mg _ (f0.tr (f1.tr f2))) w2 (by omega) (fun y3 f3 w3 => l1 y3 (f0.tr (f1.tr (f2.tr f3))) ?_))
  have e : [] ++ wq (mSq 27) ++ numL W ++ [59] = tl0 W := by
    simp only [tl0, List.nil_append]
  rw [e] at w3
  exact w3.le (by omega)
end
set_option maxHeartbeats 2000000 in
theorem v_X7_tell_0 {K : Sh} {x : Cn} {Q : Int32 → Cn → Prop} {b0 : Nat} {b0_2 : Nat} {b0_10 : Nat} {b0_3 : Nat} (k_b0 : kk K b0 = some (7, 0)) (g_b0_2 : gr x b0 2 = some b0_2) (k_b0_2 : kk K b0_2 = some (4, 0)) (g_b0_10 : gr x b0 10 = some b0_10) (g_b0_3 : gr x b0 3 = some b0_3) (k_b0_10 : kk K b0_10 = some (6, 0)) (K0 : ((0 < gi x b0_2 0) → (mSI mX6_write [.ref b0_10, .ref b0_2, .ref b0_3] K x (fun r_3 y_2 => Q r_3 y_2))) ∧ (¬ (0 < gi x b0_2 0) → (Q (-2) x))) : mSI mX7_tell [.ref b0] K x Q := by
  refine s_I (by decide) (by simp [Value.category]) (Nat.le_of_ble_eq_true rfl) ?_
  show mGM mX7_tell 0 [some (.ref b0)] [] (hp K x) (PI K Q)
  refine r_aload_n (pc := 0) dX7_tell_0 rfl ?_
  refine s_VI (pc := 1) mX7_hasText (ci := 7) (a := b0) (As := []) dX7_tell_1 lk_X7_121 in_X7_hasText mo_X7_hasText ⟨by decide, rfl⟩ ⟨by decide, by decide⟩ (Nat.le_of_ble_eq_true rfl) k_b0 (sp_X7_hasText k_b0 g_b0_2 k_b0_2 ?_)
  refine r_if_ne (pc := 4) (tgt := 10) dX7_tell_4 (by decide) (fun q => ?_) (fun q => ?_)
  · have q := b2i_nz q
    have K0 := K0.1 q
    refine r_aload_n (pc := 10) dX7_tell_10 rfl ?_
    refine s_getR (pc := 11) dX7_tell_11 fl_X7_61 rfl k_b0 g_b0_10 ?_
    refine r_aload_n (pc := 14) dX7_tell_14 rfl ?_
    refine s_getR (pc := 15) dX7_tell_15 fl_X7_20 rfl k_b0 g_b0_2 ?_
    refine r_aload_n (pc := 18) dX7_tell_18 rfl ?_
    refine s_getR (pc := 19) dX7_tell_19 fl_X7_27 rfl k_b0 g_b0_3 ?_
    refine s_VI (pc := 22) mX6_write (ci := 6) (a := b0_10) (As := [.ref b0_2, .ref b0_3]) dX7_tell_22 lk_X7_379 in_X6_write mo_X6_write ⟨by decide, rfl⟩ ⟨by decide, by decide⟩ (Nat.le_of_ble_eq_true rfl) k_b0_10 (mSI_mono K0 (fun r_3 y_2 K0 => ?_))
    exact s_iret rfl dX7_tell_25 K0
  · have q := (b2i_z _).mp q
    have K0 := K0.2 q
    refine r_bipush (pc := 7) (v := (-2)) dX7_tell_7 (by decide) ?_
    exact s_iret rfl dX7_tell_9 K0
theorem eq_tell : Both mX7_tell mX8_tell [] := by
  intro x R
  obtain ⟨W, C, S, A, N, E, nm, hs⟩ := R.sea
  have hn := E.nums
  have hW30 : W ≤ 30 := hn.2.2.2.2.1
  have t0 := (Rel.t2 E).1
  have c1 := R.1
  refine v_X7_tell_0 k0 R.1.2.1 (ks0 E.1) R.1.c10 R.1.2.2.1 k175 ?_
  rw [hn.1]
  refine ⟨fun z => sp_X6_write R.1 E nm (fun y fy wy => ?_), fun z => v_X8_tell_0 km R.2.1.1 km1 ⟨v0 (k := 0) (by decide) rfl rfl, fun u => absurd (by rw [t0] at u; exact u) z, fun _ => ⟨rfl, R⟩⟩⟩
  have hW : 0 < W := (nI_ltI (a := 0) (b := W) (by decide) (by omega)).mp z
  have My : MRf y 718 := R.2.1.keep fy.1
  have e718 : gi y 718 = gi x 718 := funext (fun i => fy.2 718 i (by decide) (by omega))
  refine sp_X8_tell_1 My e718 E.2.2.2 hW (fun c hc => by obtain ⟨v, h1, h2, -⟩ := nm.2 c hc; exact ⟨v, h1, h2⟩) (fun u fu wu => ⟨rfl, ?_⟩)
  have eq : ∀ a j, a ≠ 176 → ¬ (a = 175 ∧ j = 1) → a ≠ 725 → ¬ (a = 717 ∧ j = 22) → gi u a j = gi x a j := fun a j a1 a2 a3 a4 => (fu.2 a j a3 a4).trans (fy.2 a j a1 a2)
  have er : u.2 = x.2 := fu.1.trans fy.1
  have e8 : gi u 718 = gi x 718 := funext (fun i => eq 718 i (by decide) (by omega) (by decide) (by omega))
  refine ⟨R.1.keep er, R.2.1.keep er, ⟨?_, ?_⟩, R.2.2.2.1.keep (eq 0 1 (by decide) (by omega) (by decide) (by omega)) (eq 717 5 (by decide) (by omega) (by decide) (by omega)) (fun i => eq 1 i (by decide) (by omega) (by decide) (by omega)) (fun i => eq 720 i (by decide) (by omega) (by decide) (by omega)), ⟨(tl4 (gi x 718) W C S A).length, ?_, ?_, wu.1, fun i hi => ?_⟩, W, C, S, A, N, ?_, ?_, ?_⟩
  · trivial
  · trivial
  · have := wy.2.2; omega
  · rw [fu.2 175 1 (by decide) (by omega)]; exact wy.1
  · rw [fu.2 176 i (by decide) (by omega), (wy.2.1 i hi).1, (wu.2.1 i hi).1]
  · rw [e8]; exact E.keep er (fun a j a1 a2 _ => eq a j (by omega) (by omega) (by omega) (by omega))
  · rw [e8]; exact nm.keep (eq 56 0 (by decide) (by omega) (by decide) (by omega)) (fun i => eq 57 i (by decide) (by omega) (by decide) (by omega)) (fun _ _ => rfl)
  · rw [e8]; exact hs.keep c1 er (eq 717 19 (by decide) (by omega) (by decide) (by omega)) (eq 0 5 (by decide) (by omega) (by decide) (by omega)) (fun a j a1 a2 => eq a j (by omega) (by omega) (by omega) (by omega)) (fun i => eq 724 i (by decide) (by omega) (by decide) (by omega)) (fun _ _ => rfl)


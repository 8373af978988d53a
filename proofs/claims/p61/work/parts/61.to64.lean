/-! 61.tell3.lean.txt -/
section
theorem g_ldcwS {B : BT} {c : Nat × Nat} {ad : Nat → Nat} {M : MR} {P : MP} {pc : Nat} {L : List (Option Value)} {st : List Value} {h : HP} {j i : Nat} {tx : String} {by9 : List Int32} (X : mCx B c ad M P) (d : decode M.2.1 pc = .ok (.ldc_w i, 3)) (hv : mS[j]? = some (M.1.cls, i, tx, by9)) (k : mG B c ad M.2.2.1 (pc + 3) L (.ref (mSB + j) :: st) h) : mG B c ad M.2.2.1 pc L (st) h := by
  obtain ⟨p, l, e0, R, s, m, args, below, meth, cd, Q, D, A⟩ := B
  intro H locs ls h1 h2 h3 T hT X2
  obtain ⟨t, a1, b1⟩ := k H locs ls h1 h2 h3 T hT X2
  have hZ := (X.2.2.2.2.2.2.2.2.1.2.2.1 j _ hv).1
  have hb := X.2.1
  exact ⟨t, Stand.ldcStringW X2 X.1 X.2.2.2.1 (text := tx) hZ.1 hZ.2 rfl (by rw [hb]; exact d) t a1, b1⟩
theorem r_ldcwS {M : MR} {P : MP} {pc : Nat} {L : List (Option Value)} {st : List Value} {h : HP} {j i : Nat} {tx : String} {by9 : List Int32} (d : decode M.2.1 pc = .ok (.ldc_w i, 3)) (hv : mS[j]? = some (M.1.cls, i, tx, by9)) (k : mGM M (pc + 3) L (.ref (mSB + j) :: st) h P) : mGM M pc L (st) h P := fun B c ad X => g_ldcwS X d hv (k B c ad X)
set_option maxHeartbeats 2000000 in
theorem v_X8_says_0 {K : Sh} {x : Cn} {Q : Cn → Prop} {b0 : Nat} {l1 : Int32} {b0_21 : Nat} {n_b0_21 : Nat} (k_b0 : kk K b0 = some (8, 0)) (g_b0_21 : gr x b0 21 = some b0_21) (k_b0_21 : kk K b0_21 = some (21, n_b0_21)) (K0 : vp_in (gi x b0 22) n_b0_21 ∧ (∀ r_2 : Int32, r_2 = gi (ui x b0_21 ((gi x b0 22) : Int32).toNatClampNeg (((l1 : Int32).toInt8.toInt32 : Int32).toInt8.toInt32)) b0 22 → (Q (ui (ui x b0_21 ((gi x b0 22) : Int32).toNatClampNeg (((l1 : Int32).toInt8.toInt32 : Int32).toInt8.toInt32)) b0 22 (r_2 + 1))))) : mSV mX8_says [.ref b0, .int l1] K x Q := by
  refine s_V (by decide) (by simp [Value.category]) (Nat.le_of_ble_eq_true rfl) ?_
  show mGM mX8_says 0 [some (.ref b0), some (.int l1)] [] (hp K x) (PV K Q)
  refine r_aload_n (pc := 0) dX8_says_0 rfl ?_
  refine s_getR (pc := 1) dX8_says_1 fl_X8_39 rfl k_b0 g_b0_21 ?_
  refine r_aload_n (pc := 4) dX8_says_4 rfl ?_
  refine s_getI (pc := 5) dX8_says_5 fl_X8_398 rfl k_b0 ?_
  refine r_iload_n (pc := 8) dX8_says_8 rfl ?_
  refine r_i2b (pc := 9) dX8_says_9 ?_
  obtain ⟨i_1, K0⟩ := K0
  refine s_bast (pc := 10) dX8_says_10 k_b0_21 i_1 ?_
  refine r_aload_n (pc := 11) dX8_says_11 rfl ?_
  refine r_dup (pc := 12) dX8_says_12 rfl ?_
  refine s_getI (pc := 13) dX8_says_13 fl_X8_398 rfl k_b0 ?_
  obtain ⟨r_2, w_3⟩ : ∃ z : Int32, z = gi (ui x b0_21 ((gi x b0 22) : Int32).toNatClampNeg (((l1 : Int32).toInt8.toInt32 : Int32).toInt8.toInt32)) b0 22 := ⟨_, rfl⟩
  rw [← w_3]
  have K0 := K0 r_2 w_3
  refine r_iconst (pc := 16) (v := 1) dX8_says_16 (by decide) ?_
  refine r_iadd (pc := 17) dX8_says_17 ?_
  refine s_putI (pc := 18) dX8_says_18 fl_X8_398 rfl rfl k_b0 ?_
  exact s_ret rfl dX8_says_21 K0
section
theorem sp_X8_says {x : Cn} {Q : Cn → Prop} {l : List Nat} {B n : Nat} (hn : n < 128) (M : MRf x 718) (w : OR x l B) (hB : B < 2400) (k : ∀ y, OFr x y → OR y (l ++ [n]) (B + 1) → Q y) : mSV mX8_says [.ref 717, .int (nI n)] KW x Q := by
  have hl := w.2.2
  refine v_X8_says_0 km M.2.2.2.2.2.2.2.2 km725 ?_
  rw [w.1, nI_clamp (by omega), b8 n hn, b8 n hn]
  refine ⟨vp_in_nI (by omega) (by decide), fun r hr => ?_⟩
  have er : r = nI l.length := by rw [hr, gi_ui, if_neg (by omega)]; exact w.1
  rw [er, nI_1]
  refine k _ ⟨rfl, fun a j a1 a2 => by rw [gi_ui, if_neg a2, gi_ui, if_neg (fun u => a1 u.1)]⟩ ⟨?_, fun i hi => ?_, ?_⟩
  · rw [gi_ui, if_pos ⟨rfl, rfl⟩, List.length_append]; rfl
  · rw [List.length_append] at hi
    have hi : i < l.length + 1 := hi
    rw [gi_ui, if_neg (by omega), gi_ui]
    by_cases c1 : i = l.length
    · rw [if_pos ⟨rfl, c1⟩, gD_r (by omega), c1, Nat.sub_self]; exact ⟨rfl, hn⟩
    · rw [if_neg (fun u => c1 u.2), gD_l (by omega)]; exact w.2.1 i (by omega)
  · rw [List.length_append]; show l.length + 1 ≤ B + 1; omega
end
set_option maxHeartbeats 2000000 in
theorem v_X8_saysText_0 {K : Sh} {x : Cn} {Q : Cn → Prop} {b0 : Nat} {j1 : Nat} {q1 : String × Nat × String × List Int32} (hj1 : mS[j1]? = some q1)   (K0 : GV mX8_saysText 2 [some (.ref b0), some (.ref (mSB + j1)), some (.int 0)] [] K x Q) : mSV mX8_saysText [.ref b0, .ref (mSB + j1)] K x Q := by
  refine s_V (by decide) (by simp [Value.category]) (Nat.le_of_ble_eq_true rfl) ?_
  show mGM mX8_saysText 0 [some (.ref b0), some (.ref (mSB + j1)), none] [] (hp K x) (PV K Q)
  refine r_iconst (pc := 0) (v := 0) dX8_saysText_0 (by decide) ?_
  refine r_istore_n (pc := 1) dX8_saysText_1 (by decide) ?_
  exact r_le (L' := [some (.ref b0), some (.ref (mSB + j1)), some (.int 0)]) ⟨rfl, ⟨rfl, ⟨rfl, trivial⟩⟩⟩ K0
set_option maxHeartbeats 2000000 in
theorem v_X8_saysText_2 {K : Sh} {x : Cn} {Q : Cn → Prop} {b0 : Nat} {j1 : Nat} {q1 : String × Nat × String × List Int32} (hj1 : mS[j1]? = some q1) {l2 : Int32}  (k_b0 : kk K b0 = some (8, 0)) (K0 : ((nI q1.2.2.2.length) ≤ l2 → (Q x)) ∧ (¬ (nI q1.2.2.2.length) ≤ l2 → (∃ n_2 : Nat, l2 = nI n_2 ∧ (n_2 < q1.2.2.2.length ∧ (mSV mX8_says [.ref b0, .int (q1.2.2.2.getD n_2 0)] K x (fun y_3 => GV mX8_saysText 2 [some (.ref b0), some (.ref (mSB + j1)), some (.int (l2 + 1))] [] K y_3 Q)))))) : GV mX8_saysText 2 [some (.ref b0), some (.ref (mSB + j1)), some (.int l2)] [] K x Q := by
  show mGM mX8_saysText 2 [some (.ref b0), some (.ref (mSB + j1)), some (.int l2)] [] (hp K x) (PV K Q)
  refine r_iload_n (pc := 2) dX8_saysText_2 rfl ?_
  refine r_aload_n (pc := 3) dX8_saysText_3 rfl ?_
  refine s_VIs (pc := 4) mJ0_length_8abf5 (j := j1) (q := q1) (As := []) dX8_saysText_4 lk_X8_138 in_J0_length_8abf5 mo_J0_length_8abf5 hj1 rfl ⟨by decide, by decide⟩ (Nat.le_of_ble_eq_true rfl) (sp_len hj1 ?_)
  refine r_icmp_ge (pc := 7) (tgt := 25) dX8_saysText_7 (by decide) (fun q => ?_) (fun q => ?_)
  · have K0 := K0.1 q
    exact s_ret rfl dX8_saysText_25 K0
  · have K0 := K0.2 q
    refine r_aload_n (pc := 10) dX8_saysText_10 rfl ?_
    refine r_aload_n (pc := 11) dX8_saysText_11 rfl ?_
    refine r_iload_n (pc := 12) dX8_saysText_12 rfl ?_
    obtain ⟨n_2, en_2, un_2, K0⟩ := K0
    refine s_VIs (pc := 13) mJ0_charAt_5068e (j := j1) (q := q1) (As := [.int l2]) dX8_saysText_13 lk_X8_143 in_J0_charAt_5068e mo_J0_charAt_5068e hj1 rfl ⟨by decide, by decide⟩ (Nat.le_of_ble_eq_true rfl) (sp_chv hj1 en_2 un_2 ?_)
    refine s_VV (pc := 16) mX8_says (ci := 8) (a := b0) (As := [.int (q1.2.2.2.getD n_2 0)]) dX8_saysText_16 lk_X8_401 in_X8_says mo_X8_says ⟨by decide, rfl⟩ ⟨by decide, by decide⟩ (Nat.le_of_ble_eq_true rfl) k_b0 (mSV_mono K0 (fun y_3 K0 => ?_))
    refine r_iinc (pc := 19) (v := l2 + 1) dX8_saysText_19 rfl rfl (by decide) ?_
    refine r_goto (pc := 22) (L := [some (.ref b0), some (.ref (mSB + j1)), some (.int (l2 + 1))]) (tgt := 2) dX8_saysText_22 (by decide) ?_
    exact r_le (L' := [some (.ref b0), some (.ref (mSB + j1)), some (.int (l2 + 1))]) ⟨rfl, ⟨rfl, ⟨rfl, trivial⟩⟩⟩ K0
section
theorem sp_X8_saysText {x : Cn} {Q : Cn → Prop} {l : List Nat} {B j m : Nat} {q : String × Nat × String × List Int32} (hj : mS[j]? = some q) (hm : q.2.2.2.length ≤ m) (M : MRf x 718) (w : OR x l B) (hB : B + m ≤ 2400) (k : ∀ y, OFr x y → OR y (l ++ wq q) (B + m) → Q y) : mSV mX8_saysText [.ref 717, .ref (mSB + j)] KW x Q := by
  have key : ∀ r n v, n + r = q.2.2.2.length → OFr x v → OR v (l ++ (wq q).take n) (B + n) → GV mX8_saysText 2 [some (.ref 717), some (.ref (mSB + j)), some (.int (nI n))] [] KW v Q := by
    intro r
    induction r with
    | zero =>
      intro n v hn fv wv
      refine v_X8_saysText_2 hj km ⟨fun _ => k v fv ?_, fun z => absurd (nI_le (by omega) (by omega)) z⟩
      rw [List.take_of_length_le (by rw [wq_len]; omega)] at wv
      exact wv.le (by omega)
    | succ r ih =>
      intro n v hn fv wv
      have ha := wq_at hj (n := n) (by omega)
      refine v_X8_saysText_2 hj km ⟨fun z => absurd z (nI_ge (by omega) (by omega)), fun _ => ⟨n, rfl, by omega, ?_⟩⟩
      rw [ha.1, nI_1]
      refine sp_X8_says ha.2 (M.keep fv.1) wv (by omega) (fun u fu wu => ih (n + 1) u (by omega) (fv.tr fu) ?_)
      have e : (wq q).take (n + 1) = (wq q).take n ++ [(wq q).getD n 0] := by
        rw [List.take_add_one, List.getD_eq_getElem?_getD, List.getElem?_eq_getElem (by rw [wq_len]; omega)]
        rfl
      rw [e, ← List.append_assoc]
      exact wu
  exact v_X8_saysText_0 hj (key q.2.2.2.length 0 x (by omega) (OFr.rf x) (by rw [List.take_zero, List.append_nil]; exact w))
end
set_option maxHeartbeats 2000000 in
theorem v_X8_saysNumber_0 {K : Sh} {x : Cn} {Q : Cn → Prop} {b0 : Nat} {l1 : Int32}  (k_b0 : kk K b0 = some (8, 0)) (K0 : (l1 < 10 → (mSV mX8_says [.ref b0, .int (48 + (l1 - l1 / 10 * 10))] K x (fun y_2 => Q y_2))) ∧ (¬ l1 < 10 → (mSV mX8_says [.ref b0, .int (48 + (l1 / 10))] K x (fun y_3 => mSV mX8_says [.ref b0, .int (48 + (l1 - l1 / 10 * 10))] K y_3 (fun y_4 => Q y_4))))) : mSV mX8_saysNumber [.ref b0, .int l1] K x Q := by
  refine s_V (by decide) (by simp [Value.category]) (Nat.le_of_ble_eq_true rfl) ?_
  show mGM mX8_saysNumber 0 [some (.ref b0), some (.int l1)] [] (hp K x) (PV K Q)
  refine r_iload_n (pc := 0) dX8_saysNumber_0 rfl ?_
  refine r_bipush (pc := 1) (v := 10) dX8_saysNumber_1 (by decide) ?_
  refine r_icmp_lt (pc := 3) (tgt := 17) dX8_saysNumber_3 (by decide) (fun q => ?_) (fun q => ?_)
  · have K0 := K0.1 q
    refine r_aload_n (pc := 17) dX8_saysNumber_17 rfl ?_
    refine r_bipush (pc := 18) (v := 48) dX8_saysNumber_18 (by decide) ?_
    refine r_iload_n (pc := 20) dX8_saysNumber_20 rfl ?_
    refine r_bipush (pc := 21) (v := 10) dX8_saysNumber_21 (by decide) ?_
    refine r_irem (pc := 23) dX8_saysNumber_23 (by decide) ?_
    refine r_iadd (pc := 24) dX8_saysNumber_24 ?_
    refine s_VV (pc := 25) mX8_says (ci := 8) (a := b0) (As := [.int (48 + (l1 - l1 / 10 * 10))]) dX8_saysNumber_25 lk_X8_401 in_X8_says mo_X8_says ⟨by decide, rfl⟩ ⟨by decide, by decide⟩ (Nat.le_of_ble_eq_true rfl) k_b0 (mSV_mono K0 (fun y_2 K0 => ?_))
    exact s_ret rfl dX8_saysNumber_28 K0
  · have K0 := K0.2 q
    refine r_aload_n (pc := 6) dX8_saysNumber_6 rfl ?_
    refine r_bipush (pc := 7) (v := 48) dX8_saysNumber_7 (by decide) ?_
    refine r_iload_n (pc := 9) dX8_saysNumber_9 rfl ?_
    refine r_bipush (pc := 10) (v := 10) dX8_saysNumber_10 (by decide) ?_
    refine r_idiv (pc := 12) dX8_saysNumber_12 (by decide) ?_
    refine r_iadd (pc := 13) dX8_saysNumber_13 ?_
    refine s_VV (pc := 14) mX8_says (ci := 8) (a := b0) (As := [.int (48 + (l1 / 10))]) dX8_saysNumber_14 lk_X8_401 in_X8_says mo_X8_says ⟨by decide, rfl⟩ ⟨by decide, by decide⟩ (Nat.le_of_ble_eq_true rfl) k_b0 (mSV_mono K0 (fun y_3 K0 => ?_))
    refine r_aload_n (pc := 17) dX8_saysNumber_17 rfl ?_
    refine r_bipush (pc := 18) (v := 48) dX8_saysNumber_18 (by decide) ?_
    refine r_iload_n (pc := 20) dX8_saysNumber_20 rfl ?_
    refine r_bipush (pc := 21) (v := 10) dX8_saysNumber_21 (by decide) ?_
    refine r_irem (pc := 23) dX8_saysNumber_23 (by decide) ?_
    refine r_iadd (pc := 24) dX8_saysNumber_24 ?_
    refine s_VV (pc := 25) mX8_says (ci := 8) (a := b0) (As := [.int (48 + (l1 - l1 / 10 * 10))]) dX8_saysNumber_25 lk_X8_401 in_X8_says mo_X8_says ⟨by decide, rfl⟩ ⟨by decide, by decide⟩ (Nat.le_of_ble_eq_true rfl) k_b0 (mSV_mono K0 (fun y_4 K0 => ?_))
    exact s_ret rfl dX8_saysNumber_28 K0
section
theorem sp_X8_saysNumber {x : Cn} {Q : Cn → Prop} {l : List Nat} {B n : Nat} (hn : n < 100) (M : MRf x 718) (w : OR x l B) (hB : B + 2 ≤ 2400) (k : ∀ y, OFr x y → OR y (l ++ numL n) (B + 2) → Q y) : mSV mX8_saysNumber [.ref 717, .int (nI n)] KW x Q := by
  have e1 : nI n - nI n / 10 * 10 = nI (n % 10) := pk_rem (d := 10) (by omega) (by decide) (by decide)
  have e2 : nI n / 10 = nI (n / 10) := pk_div (d := 10) (by omega) (by decide) (by decide)
  refine v_X8_saysNumber_0 km ?_
  rw [e1, e2, n48, n48, show nI n < 10 ↔ n < 10 from nI_ltI (b := 10) (by omega) (by decide)]
  refine ⟨fun z => sp_X8_says (by omega) M w (by omega) (fun v fv wv => k v fv ?_), fun z => sp_X8_says (by omega) M w (by omega) (fun v fv wv => sp_X8_says (by omega) (M.keep fv.1) wv (by omega) (fun u fu wu => k u (fv.tr fu) ?_))⟩
  · unfold numL
    rw [if_pos z]
    rw [show n % 10 = n by omega] at wv
    exact wv.le (by omega)
  · unfold numL
    rw [if_neg z]
    rw [List.append_assoc] at wu
    exact wu
end
set_option maxHeartbeats 2000000 in
theorem v_X8_saysName_0 {K : Sh} {x : Cn} {Q : Cn → Prop} {b0 : Nat} {l1 : Int32}   (K0 : GV mX8_saysName 2 [some (.ref b0), some (.int l1), some (.int 0)] [] K x Q) : mSV mX8_saysName [.ref b0, .int l1] K x Q := by
  refine s_V (by decide) (by simp [Value.category]) (Nat.le_of_ble_eq_true rfl) ?_
  show mGM mX8_saysName 0 [some (.ref b0), some (.int l1), none] [] (hp K x) (PV K Q)
  refine r_iconst (pc := 0) (v := 0) dX8_saysName_0 (by decide) ?_
  refine r_istore_n (pc := 1) dX8_saysName_1 (by decide) ?_
  exact r_le (L' := [some (.ref b0), some (.int l1), some (.int 0)]) ⟨rfl, ⟨rfl, ⟨rfl, trivial⟩⟩⟩ K0
set_option maxHeartbeats 2000000 in
theorem v_X8_saysName_2 {K : Sh} {x : Cn} {Q : Cn → Prop} {b0 : Nat} {l1 : Int32} {l2 : Int32} {b0_1 : Nat} {n_b0_1 : Nat} (k_b0 : kk K b0 = some (8, 0)) (g_b0_1 : gr x b0 1 = some b0_1) (k_b0_1 : kk K b0_1 = some (20, n_b0_1)) (K0 : (6 ≤ l2 → (Q x)) ∧ (¬ 6 ≤ l2 → (vp_in (54 + l1) n_b0_1 ∧ (mSI mX8_letterOf [.int (gi x b0_1 ((54 + l1) : Int32).toNatClampNeg), .int l2] K x (fun r_4 y_3 => (r_4 ≤ 0 → (GV mX8_saysName 2 [some (.ref b0), some (.int l1), some (.int (l2 + 1))] [] K y_3 Q)) ∧ (¬ r_4 ≤ 0 → (gr y_3 b0 1 = some b0_1 ∧ (mSI mX8_letterOf [.int (gi y_3 b0_1 ((54 + l1) : Int32).toNatClampNeg), .int l2] K y_3 (fun r_8 y_7 => mSV mX8_says [.ref b0, .int ((97 + r_8) - 1)] K y_7 (fun y_9 => GV mX8_saysName 2 [some (.ref b0), some (.int l1), some (.int (l2 + 1))] [] K y_9 Q)))))))))) : GV mX8_saysName 2 [some (.ref b0), some (.int l1), some (.int l2)] [] K x Q := by
  show mGM mX8_saysName 2 [some (.ref b0), some (.int l1), some (.int l2)] [] (hp K x) (PV K Q)
  refine r_iload_n (pc := 2) dX8_saysName_2 rfl ?_
  refine r_bipush (pc := 3) (v := 6) dX8_saysName_3 (by decide) ?_
  refine r_icmp_ge (pc := 5) (tgt := 52) dX8_saysName_5 (by decide) (fun q => ?_) (fun q => ?_)
  · have K0 := K0.1 q
    exact s_ret rfl dX8_saysName_52 K0
  · have K0 := K0.2 q
    refine r_aload_n (pc := 8) dX8_saysName_8 rfl ?_
    refine s_getR (pc := 9) dX8_saysName_9 fl_X8_9 rfl k_b0 g_b0_1 ?_
    refine r_bipush (pc := 12) (v := 54) dX8_saysName_12 (by decide) ?_
    refine r_iload_n (pc := 14) dX8_saysName_14 rfl ?_
    refine r_iadd (pc := 15) dX8_saysName_15 ?_
    obtain ⟨i_2, K0⟩ := K0
    refine s_iald (pc := 16) dX8_saysName_16 k_b0_1 i_2 ?_
    refine r_iload_n (pc := 17) dX8_saysName_17 rfl ?_
    refine s_SI (pc := 18) mX8_letterOf (As := [.int (gi x b0_1 ((54 + l1) : Int32).toNatClampNeg), .int l2]) dX8_saysName_18 lk_X8_270 st_X8_letterOf mo_X8_letterOf ⟨by decide, by decide⟩ (Nat.le_of_ble_eq_true rfl) (mSI_mono K0 (fun r_4 y_3 K0 => ?_))
    refine r_if_le (pc := 21) (tgt := 46) dX8_saysName_21 (by decide) (fun q => ?_) (fun q => ?_)
    · have K0 := K0.1 q
      refine r_iinc (pc := 46) (v := l2 + 1) dX8_saysName_46 rfl rfl (by decide) ?_
      refine r_goto (pc := 49) (L := [some (.ref b0), some (.int l1), some (.int (l2 + 1))]) (tgt := 2) dX8_saysName_49 (by decide) ?_
      exact r_le (L' := [some (.ref b0), some (.int l1), some (.int (l2 + 1))]) ⟨rfl, ⟨rfl, ⟨rfl, trivial⟩⟩⟩ K0
    · have K0 := K0.2 q
      refine r_aload_n (pc := 24) dX8_saysName_24 rfl ?_
      refine r_bipush (pc := 25) (v := 97) dX8_saysName_25 (by decide) ?_
      refine r_aload_n (pc := 27) dX8_saysName_27 rfl ?_
      obtain ⟨g_6, K0⟩ := K0
      refine s_getR (pc := 28) dX8_saysName_28 fl_X8_9 rfl k_b0 g_6 ?_
      refine r_bipush (pc := 31) (v := 54) dX8_saysName_31 (by decide) ?_
      refine r_iload_n (pc := 33) dX8_saysName_33 rfl ?_
      refine r_iadd (pc := 34) dX8_saysName_34 ?_
      refine s_iald (pc := 35) dX8_saysName_35 k_b0_1 i_2 ?_
      refine r_iload_n (pc := 36) dX8_saysName_36 rfl ?_
      refine s_SI (pc := 37) mX8_letterOf (As := [.int (gi y_3 b0_1 ((54 + l1) : Int32).toNatClampNeg), .int l2]) dX8_saysName_37 lk_X8_270 st_X8_letterOf mo_X8_letterOf ⟨by decide, by decide⟩ (Nat.le_of_ble_eq_true rfl) (mSI_mono K0 (fun r_8 y_7 K0 => ?_))
      refine r_iadd (pc := 40) dX8_saysName_40 ?_
      refine r_iconst (pc := 41) (v := 1) dX8_saysName_41 (by decide) ?_
      refine r_isub (pc := 42) dX8_saysName_42 ?_
      refine s_VV (pc := 43) mX8_says (ci := 8) (a := b0) (As := [.int ((97 + r_8) - 1)]) dX8_saysName_43 lk_X8_401 in_X8_says mo_X8_says ⟨by decide, rfl⟩ ⟨by decide, by decide⟩ (Nat.le_of_ble_eq_true rfl) k_b0 (mSV_mono K0 (fun y_9 K0 => ?_))
      refine r_iinc (pc := 46) (v := l2 + 1) dX8_saysName_46 rfl rfl (by decide) ?_
      refine r_goto (pc := 49) (L := [some (.ref b0), some (.int l1), some (.int (l2 + 1))]) (tgt := 2) dX8_saysName_49 (by decide) ?_
      exact r_le (L' := [some (.ref b0), some (.int l1), some (.int (l2 + 1))]) ⟨rfl, ⟨rfl, ⟨rfl, trivial⟩⟩⟩ K0
section
theorem sp_X8_saysName {x : Cn} {Q : Cn → Prop} {l : List Nat} {B cr v : Nat} (hc : cr < 8) (hv1 : v < 387420489) (hv : gi x 718 (54 + cr) = nI v) (M : MRf x 718) (w : OR x l B) (hB : B + 6 ≤ 2400) (k : ∀ y, OFr x y → OR y (l ++ nmL v) (B + 6) → Q y) : mSV mX8_saysName [.ref 717, .int (nI cr)] KW x Q := by
  refine v_X8_saysName_0 ?_
  refine lp_acc (nmS v) (fun i l' => ∀ z, OFr x z → OR z l' (B + i) → GV mX8_saysName 2 [some (.ref 717), some (.int (nI cr)), some (.int (nI i))] [] KW z Q) 6 l ?_ (fun i l' hi n1 => ?_) x (OFr.rf x) w
  · intro z fz wz
    have Mz := M.keep fz.1
    refine v_X8_saysName_2 km Mz.1 km1 ⟨fun _ => k z fz ?_, fun u => absurd (by decide) u⟩
    rw [nm_acc] at wz
    exact wz
  · intro z fz wz
    have Mz := M.keep fz.1
    have hd := dg_lt v i
    have gz : gi z 718 (54 + cr) = nI v := (fz.2 718 _ (by decide) (by omega)).trans hv
    have ix : (54 : Int32) + nI cr = nI (54 + cr) := nI_add 54 cr
    refine v_X8_saysName_2 km Mz.1 km1 ⟨fun u => absurd u (nI_ge (b := 6) hi (by decide)), fun _ => ?_⟩
    rw [ix, nI_clamp (by omega), gz, nI_1]
    refine ⟨vp_in_nI (by omega) (by decide), sp_X8_letterOf (by omega) hi ?_⟩
    rw [show nI (v / 27 ^ (5 - i) % 27) ≤ 0 ↔ dg v i ≤ 0 from nI_leI (a := dg v i) (b := 0) (by omega) (by decide)]
    refine ⟨fun u => n1 l' ?_ z fz (wz.le (by omega)), fun u => ⟨Mz.1, ?_⟩⟩
    · unfold nmS; rw [if_pos (by omega)]
    · rw [gz]
      refine sp_X8_letterOf (by omega) hi ?_
      rw [show (97 + nI (v / 27 ^ (5 - i) % 27)) - 1 = nI (96 + dg v i) from (by rw [show (97 : Int32) + nI (v / 27 ^ (5 - i) % 27) = nI (97 + dg v i) from nI_add 97 _, show nI (97 + dg v i) - 1 = nI (97 + dg v i - 1) from pk_sub (b := 1) (by omega)]; congr 1; omega)]
      refine sp_X8_says (by omega) Mz wz (by omega) (fun z2 f2 w2 => n1 _ ?_ z2 (fz.tr f2) w2)
      unfold nmS; rw [if_neg (by omega)]
end
set_option maxHeartbeats 2000000 in
theorem v_X8_dayOf_0 {K : Sh} {x : Cn} {Q : Nat → Cn → Prop} {l0 : Int32}   (K0 : (l0 = 0 → (Q (mSB + 15) x)) ∧ (l0 = 1 → (Q (mSB + 16) x)) ∧ (l0 = 2 → (Q (mSB + 17) x)) ∧ (l0 = 3 → (Q (mSB + 18) x)) ∧ (l0 = 4 → (Q (mSB + 19) x)) ∧ (l0 = 5 → (Q (mSB + 20) x)) ∧ ((¬ l0 = 0 ∧ ¬ l0 = 1 ∧ ¬ l0 = 2 ∧ ¬ l0 = 3 ∧ ¬ l0 = 4 ∧ ¬ l0 = 5) → (Q (mSB + 21) x))) : mSR mX8_dayOf [.int l0] K x Q := by
  refine s_R (by decide) (by simp [Value.category]) (Nat.le_of_ble_eq_true rfl) ?_
  show mGM mX8_dayOf 0 [some (.int l0)] [] (hp K x) (PR K Q)
  refine r_iload_n (pc := 0) dX8_dayOf_0 rfl ?_
  by_cases q0 : l0 = 0
  · have K0 := K0.1 q0
    refine r_tabIn (pc := 1) (tgt := 40) (off := 39) dX8_dayOf_1 (by rw [q0]; decide) (by rw [q0]; decide) (by rw [q0]; decide) (by decide) ?_
    refine r_ldcS (pc := 40) (j := 15) dX8_dayOf_40 rfl ?_
    exact s_aret rfl dX8_dayOf_42 K0
  have K0 := K0.2
  by_cases q1 : l0 = 1
  · have K0 := K0.1 q1
    refine r_tabIn (pc := 1) (tgt := 43) (off := 42) dX8_dayOf_1 (by rw [q1]; decide) (by rw [q1]; decide) (by rw [q1]; decide) (by decide) ?_
    refine r_ldcS (pc := 43) (j := 16) dX8_dayOf_43 rfl ?_
    exact s_aret rfl dX8_dayOf_45 K0
  have K0 := K0.2
  by_cases q2 : l0 = 2
  · have K0 := K0.1 q2
    refine r_tabIn (pc := 1) (tgt := 46) (off := 45) dX8_dayOf_1 (by rw [q2]; decide) (by rw [q2]; decide) (by rw [q2]; decide) (by decide) ?_
    refine r_ldcS (pc := 46) (j := 17) dX8_dayOf_46 rfl ?_
    exact s_aret rfl dX8_dayOf_48 K0
  have K0 := K0.2
  by_cases q3 : l0 = 3
  · have K0 := K0.1 q3
    refine r_tabIn (pc := 1) (tgt := 49) (off := 48) dX8_dayOf_1 (by rw [q3]; decide) (by rw [q3]; decide) (by rw [q3]; decide) (by decide) ?_
    refine r_ldcS (pc := 49) (j := 18) dX8_dayOf_49 rfl ?_
    exact s_aret rfl dX8_dayOf_51 K0
  have K0 := K0.2
  by_cases q4 : l0 = 4
  · have K0 := K0.1 q4
    refine r_tabIn (pc := 1) (tgt := 52) (off := 51) dX8_dayOf_1 (by rw [q4]; decide) (by rw [q4]; decide) (by rw [q4]; decide) (by decide) ?_
    refine r_ldcS (pc := 52) (j := 19) dX8_dayOf_52 rfl ?_
    exact s_aret rfl dX8_dayOf_54 K0
  have K0 := K0.2
  by_cases q5 : l0 = 5
  · have K0 := K0.1 q5
    refine r_tabIn (pc := 1) (tgt := 55) (off := 54) dX8_dayOf_1 (by rw [q5]; decide) (by rw [q5]; decide) (by rw [q5]; decide) (by decide) ?_
    refine r_ldcS (pc := 55) (j := 20) dX8_dayOf_55 rfl ?_
    exact s_aret rfl dX8_dayOf_57 K0
  have K0 := K0.2
  have K0 := K0 ⟨q0, q1, q2, q3, q4, q5⟩
  refine r_tabOut (pc := 1) (tgt := 58) dX8_dayOf_1 (by have z0 : ¬ Int32.toInt (l0) = 0 := fun z => q0 (Int32.toInt_inj.mp (z.trans (by decide))); have z1 : ¬ Int32.toInt (l0) = 1 := fun z => q1 (Int32.toInt_inj.mp (z.trans (by decide))); have z2 : ¬ Int32.toInt (l0) = 2 := fun z => q2 (Int32.toInt_inj.mp (z.trans (by decide))); have z3 : ¬ Int32.toInt (l0) = 3 := fun z => q3 (Int32.toInt_inj.mp (z.trans (by decide))); have z4 : ¬ Int32.toInt (l0) = 4 := fun z => q4 (Int32.toInt_inj.mp (z.trans (by decide))); have z5 : ¬ Int32.toInt (l0) = 5 := fun z => q5 (Int32.toInt_inj.mp (z.trans (by decide))); omega) (by decide) ?_
  refine r_ldcS (pc := 58) (j := 21) dX8_dayOf_58 rfl ?_
  exact s_aret rfl dX8_dayOf_60 K0
section
theorem sp_X8_dayOf {K : Sh} {x : Cn} {Q : Nat → Cn → Prop} {d : Nat} (hd : d < 7) (k : Q (mSB + (15 + d)) x) : mSR mX8_dayOf [.int (nI d)] K x Q := by
  have e : ∀ m, m < 7 → (nI d = nI m ↔ d = m) := fun m hm => nI_eq (by omega) (by omega)
  have : d = 0 ∨ d = 1 ∨ d = 2 ∨ d = 3 ∨ d = 4 ∨ d = 5 ∨ d = 6 := by omega
  refine v_X8_dayOf_0 ?_
  rcases this with rfl | rfl | rfl | rfl | rfl | rfl | rfl
  · exact ⟨fun _ => k, fun z => absurd z (by decide), fun z => absurd z (by decide), fun z => absurd z (by decide), fun z => absurd z (by decide), fun z => absurd z (by decide), fun z => absurd rfl z.1⟩
  · exact ⟨fun z => absurd z (by decide), fun _ => k, fun z => absurd z (by decide), fun z => absurd z (by decide), fun z => absurd z (by decide), fun z => absurd z (by decide), fun z => absurd rfl z.2.1⟩
  · exact ⟨fun z => absurd z (by decide), fun z => absurd z (by decide), fun _ => k, fun z => absurd z (by decide), fun z => absurd z (by decide), fun z => absurd z (by decide), fun z => absurd rfl z.2.2.1⟩
  · exact ⟨fun z => absurd z (by decide), fun z => absurd z (by decide), fun z => absurd z (by decide), fun _ => k, fun z => absurd z (by decide), fun z => absurd z (by decide), fun z => absurd rfl z.2.2.2.1⟩
  · exact ⟨fun z => absurd z (by decide), fun z => absurd z (by decide), fun z => absurd z (by decide), fun z => absurd z (by decide), fun _ => k, fun z => absurd z (by decide), fun z => absurd rfl z.2.2.2.2.1⟩
  · exact ⟨fun z => absurd z (by decide), fun z => absurd z (by decide), fun z => absurd z (by decide), fun z => absurd z (by decide), fun z => absurd z (by decide), fun _ => k, fun z => absurd rfl z.2.2.2.2.2⟩
  · exact ⟨fun z => absurd z (by decide), fun z => absurd z (by decide), fun z => absurd z (by decide), fun z => absurd z (by decide), fun z => absurd z (by decide), fun z => absurd z (by decide), fun _ => k⟩
end
set_option maxHeartbeats 2000000 in
theorem v_X8_saysCommon_0 {K : Sh} {x : Cn} {Q : Cn → Prop} {b0 : Nat} {b1 : Nat} {l2 : Int32} {l3 : Int32}  (k_b0 : kk K b0 = some (8, 0)) (K0 : mSV mX8_saysText [.ref b0, .ref b1] K x (fun y_1 => ∃ c_2 : Nat, gr y_1 b0 1 = some c_2 ∧ (∃ n_5 : Nat, kk K c_2 = some (20, n_5) ∧ (vp_in l2 n_5 ∧ (mSV mX8_saysName [.ref b0, .int (gi y_1 c_2 (l2 : Int32).toNatClampNeg)] K y_1 (fun y_7 => mSV mX8_says [.ref b0, .int 32] K y_7 (fun y_8 => ∃ c_9 : Nat, gr y_8 b0 1 = some c_9 ∧ (∃ n_12 : Nat, kk K c_9 = some (20, n_12) ∧ (vp_in (l2 + 1) n_12 ∧ (mSR mX8_dayOf [.int (gi y_8 c_9 ((l2 + 1) : Int32).toNatClampNeg)] K y_8 (fun r_15 y_14 => mSV mX8_saysText [.ref b0, .ref r_15] K y_14 (fun y_16 => mSV mX8_says [.ref b0, .int 32] K y_16 (fun y_17 => ∃ c_18 : Nat, gr y_17 b0 1 = some c_18 ∧ (∃ n_21 : Nat, kk K c_18 = some (20, n_21) ∧ (vp_in (l2 + 2) n_21 ∧ (mSV mX8_saysNumber [.ref b0, .int (gi y_17 c_18 ((l2 + 2) : Int32).toNatClampNeg)] K y_17 (fun y_23 => ∃ c_24 : Nat, gr y_23 b0 1 = some c_24 ∧ (∃ n_27 : Nat, kk K c_24 = some (20, n_27) ∧ (vp_in (l2 + 3) n_27 ∧ ((¬ (gi y_23 c_24 ((l2 + 3) : Int32).toNatClampNeg) = 0 → (mSV mX8_saysText [.ref b0, .ref (mSB + 32)] K y_23 (fun y_30 => ∃ c_31 : Nat, gr y_30 b0 1 = some c_31 ∧ (∃ n_34 : Nat, kk K c_31 = some (20, n_34) ∧ (vp_in (l2 + l3) n_34 ∧ (mSV mX8_saysNumber [.ref b0, .int (gi y_30 c_31 ((l2 + l3) : Int32).toNatClampNeg)] K y_30 (fun y_36 => mSV mX8_says [.ref b0, .int 45] K y_36 (fun y_37 => ∃ c_38 : Nat, gr y_37 b0 1 = some c_38 ∧ (∃ n_41 : Nat, kk K c_38 = some (20, n_41) ∧ (vp_in ((l2 + l3) + 1) n_41 ∧ (mSV mX8_saysNumber [.ref b0, .int (gi y_37 c_38 (((l2 + l3) + 1) : Int32).toNatClampNeg)] K y_37 (fun y_43 => Q y_43)))))))))))) ∧ ((gi y_23 c_24 ((l2 + 3) : Int32).toNatClampNeg) = 0 → (mSV mX8_saysText [.ref b0, .ref (mSB + 29)] K y_23 (fun y_44 => ∃ c_45 : Nat, gr y_44 b0 1 = some c_45 ∧ (∃ n_48 : Nat, kk K c_45 = some (20, n_48) ∧ (vp_in (l2 + l3) n_48 ∧ (mSV mX8_saysNumber [.ref b0, .int (gi y_44 c_45 ((l2 + l3) : Int32).toNatClampNeg)] K y_44 (fun y_50 => mSV mX8_says [.ref b0, .int 45] K y_50 (fun y_51 => ∃ c_52 : Nat, gr y_51 b0 1 = some c_52 ∧ (∃ n_55 : Nat, kk K c_52 = some (20, n_55) ∧ (vp_in ((l2 + l3) + 1) n_55 ∧ (mSV mX8_saysNumber [.ref b0, .int (gi y_51 c_52 (((l2 + l3) + 1) : Int32).toNatClampNeg)] K y_51 (fun y_57 => Q y_57)))))))))))))))))))))))))))))))) : mSV mX8_saysCommon [.ref b0, .ref b1, .int l2, .int l3] K x Q := by
  refine s_V (by decide) (by simp [Value.category]) (Nat.le_of_ble_eq_true rfl) ?_
  show mGM mX8_saysCommon 0 [some (.ref b0), some (.ref b1), some (.int l2), some (.int l3)] [] (hp K x) (PV K Q)
  refine r_aload_n (pc := 0) dX8_saysCommon_0 rfl ?_
  refine r_aload_n (pc := 1) dX8_saysCommon_1 rfl ?_
  refine s_VV (pc := 2) mX8_saysText (ci := 8) (a := b0) (As := [.ref b1]) dX8_saysCommon_2 lk_X8_404 in_X8_saysText mo_X8_saysText ⟨by decide, rfl⟩ ⟨by decide, by decide⟩ (Nat.le_of_ble_eq_true rfl) k_b0 (mSV_mono K0 (fun y_1 K0 => ?_))
  refine r_aload_n (pc := 5) dX8_saysCommon_5 rfl ?_
  refine r_aload_n (pc := 6) dX8_saysCommon_6 rfl ?_
  obtain ⟨c_2, g_3, K0⟩ := K0
  refine s_getR (pc := 7) dX8_saysCommon_7 fl_X8_9 rfl k_b0 g_3 ?_
  refine r_iload_n (pc := 10) dX8_saysCommon_10 rfl ?_
  obtain ⟨n_5, e_4, K0⟩ := K0
  obtain ⟨i_6, K0⟩ := K0
  refine s_iald (pc := 11) dX8_saysCommon_11 e_4 i_6 ?_
  refine s_VV (pc := 12) mX8_saysName (ci := 8) (a := b0) (As := [.int (gi y_1 c_2 (l2 : Int32).toNatClampNeg)]) dX8_saysCommon_12 lk_X8_407 in_X8_saysName mo_X8_saysName ⟨by decide, rfl⟩ ⟨by decide, by decide⟩ (Nat.le_of_ble_eq_true rfl) k_b0 (mSV_mono K0 (fun y_7 K0 => ?_))
  refine r_aload_n (pc := 15) dX8_saysCommon_15 rfl ?_
  refine r_bipush (pc := 16) (v := 32) dX8_saysCommon_16 (by decide) ?_
  refine s_VV (pc := 18) mX8_says (ci := 8) (a := b0) (As := [.int 32]) dX8_saysCommon_18 lk_X8_401 in_X8_says mo_X8_says ⟨by decide, rfl⟩ ⟨by decide, by decide⟩ (Nat.le_of_ble_eq_true rfl) k_b0 (mSV_mono K0 (fun y_8 K0 => ?_))
  refine r_aload_n (pc := 21) dX8_saysCommon_21 rfl ?_
  refine r_aload_n (pc := 22) dX8_saysCommon_22 rfl ?_
  obtain ⟨c_9, g_10, K0⟩ := K0
  refine s_getR (pc := 23) dX8_saysCommon_23 fl_X8_9 rfl k_b0 g_10 ?_
  refine r_iload_n (pc := 26) dX8_saysCommon_26 rfl ?_
  refine r_iconst (pc := 27) (v := 1) dX8_saysCommon_27 (by decide) ?_
  refine r_iadd (pc := 28) dX8_saysCommon_28 ?_
  obtain ⟨n_12, e_11, K0⟩ := K0
  obtain ⟨i_13, K0⟩ := K0
  refine s_iald (pc := 29) dX8_saysCommon_29 e_11 i_13 ?_
  refine s_SR (pc := 30) mX8_dayOf (As := [.int (gi y_8 c_9 ((l2 + 1) : Int32).toNatClampNeg)]) dX8_saysCommon_30 lk_X8_178 st_X8_dayOf mo_X8_dayOf ⟨by decide, by decide⟩ (Nat.le_of_ble_eq_true rfl) (mSR_mono K0 (fun r_15 y_14 K0 => ?_))
  refine s_VV (pc := 33) mX8_saysText (ci := 8) (a := b0) (As := [.ref r_15]) dX8_saysCommon_33 lk_X8_404 in_X8_saysText mo_X8_saysText ⟨by decide, rfl⟩ ⟨by decide, by decide⟩ (Nat.le_of_ble_eq_true rfl) k_b0 (mSV_mono K0 (fun y_16 K0 => ?_))
  refine r_aload_n (pc := 36) dX8_saysCommon_36 rfl ?_
  refine r_bipush (pc := 37) (v := 32) dX8_saysCommon_37 (by decide) ?_
  refine s_VV (pc := 39) mX8_says (ci := 8) (a := b0) (As := [.int 32]) dX8_saysCommon_39 lk_X8_401 in_X8_says mo_X8_says ⟨by decide, rfl⟩ ⟨by decide, by decide⟩ (Nat.le_of_ble_eq_true rfl) k_b0 (mSV_mono K0 (fun y_17 K0 => ?_))
  refine r_aload_n (pc := 42) dX8_saysCommon_42 rfl ?_
  refine r_aload_n (pc := 43) dX8_saysCommon_43 rfl ?_
  obtain ⟨c_18, g_19, K0⟩ := K0
  refine s_getR (pc := 44) dX8_saysCommon_44 fl_X8_9 rfl k_b0 g_19 ?_
  refine r_iload_n (pc := 47) dX8_saysCommon_47 rfl ?_
  refine r_iconst (pc := 48) (v := 2) dX8_saysCommon_48 (by decide) ?_
  refine r_iadd (pc := 49) dX8_saysCommon_49 ?_
  obtain ⟨n_21, e_20, K0⟩ := K0
  obtain ⟨i_22, K0⟩ := K0
  refine s_iald (pc := 50) dX8_saysCommon_50 e_20 i_22 ?_
  refine s_VV (pc := 51) mX8_saysNumber (ci := 8) (a := b0) (As := [.int (gi y_17 c_18 ((l2 + 2) : Int32).toNatClampNeg)]) dX8_saysCommon_51 lk_X8_410 in_X8_saysNumber mo_X8_saysNumber ⟨by decide, rfl⟩ ⟨by decide, by decide⟩ (Nat.le_of_ble_eq_true rfl) k_b0 (mSV_mono K0 (fun y_23 K0 => ?_))
  refine r_aload_n (pc := 54) dX8_saysCommon_54 rfl ?_
  refine r_aload_n (pc := 55) dX8_saysCommon_55 rfl ?_
  obtain ⟨c_24, g_25, K0⟩ := K0
  refine s_getR (pc := 56) dX8_saysCommon_56 fl_X8_9 rfl k_b0 g_25 ?_
  refine r_iload_n (pc := 59) dX8_saysCommon_59 rfl ?_
  refine r_iconst (pc := 60) (v := 3) dX8_saysCommon_60 (by decide) ?_
  refine r_iadd (pc := 61) dX8_saysCommon_61 ?_
  obtain ⟨n_27, e_26, K0⟩ := K0
  obtain ⟨i_28, K0⟩ := K0
  refine s_iald (pc := 62) dX8_saysCommon_62 e_26 i_28 ?_
  refine r_if_ne (pc := 63) (tgt := 72) dX8_saysCommon_63 (by decide) (fun q => ?_) (fun q => ?_)
  · have K0 := K0.1 q
    refine r_ldcwS (pc := 72) (j := 32) dX8_saysCommon_72 rfl ?_
    refine s_VV (pc := 75) mX8_saysText (ci := 8) (a := b0) (As := [.ref (mSB + 32)]) dX8_saysCommon_75 lk_X8_404 in_X8_saysText mo_X8_saysText ⟨by decide, rfl⟩ ⟨by decide, by decide⟩ (Nat.le_of_ble_eq_true rfl) k_b0 (mSV_mono K0 (fun y_30 K0 => ?_))
    refine r_aload_n (pc := 78) dX8_saysCommon_78 rfl ?_
    refine r_aload_n (pc := 79) dX8_saysCommon_79 rfl ?_
    obtain ⟨c_31, g_32, K0⟩ := K0
    refine s_getR (pc := 80) dX8_saysCommon_80 fl_X8_9 rfl k_b0 g_32 ?_
    refine r_iload_n (pc := 83) dX8_saysCommon_83 rfl ?_
    refine r_iload_n (pc := 84) dX8_saysCommon_84 rfl ?_
    refine r_iadd (pc := 85) dX8_saysCommon_85 ?_
    obtain ⟨n_34, e_33, K0⟩ := K0
    obtain ⟨i_35, K0⟩ := K0
    refine s_iald (pc := 86) dX8_saysCommon_86 e_33 i_35 ?_
    refine s_VV (pc := 87) mX8_saysNumber (ci := 8) (a := b0) (As := [.int (gi y_30 c_31 ((l2 + l3) : Int32).toNatClampNeg)]) dX8_saysCommon_87 lk_X8_410 in_X8_saysNumber mo_X8_saysNumber ⟨by decide, rfl⟩ ⟨by decide, by decide⟩ (Nat.le_of_ble_eq_true rfl) k_b0 (mSV_mono K0 (fun y_36 K0 => ?_))
    refine r_aload_n (pc := 90) dX8_saysCommon_90 rfl ?_
    refine r_bipush (pc := 91) (v := 45) dX8_saysCommon_91 (by decide) ?_
    refine s_VV (pc := 93) mX8_says (ci := 8) (a := b0) (As := [.int 45]) dX8_saysCommon_93 lk_X8_401 in_X8_says mo_X8_says ⟨by decide, rfl⟩ ⟨by decide, by decide⟩ (Nat.le_of_ble_eq_true rfl) k_b0 (mSV_mono K0 (fun y_37 K0 => ?_))
    refine r_aload_n (pc := 96) dX8_saysCommon_96 rfl ?_
    refine r_aload_n (pc := 97) dX8_saysCommon_97 rfl ?_
    obtain ⟨c_38, g_39, K0⟩ := K0
    refine s_getR (pc := 98) dX8_saysCommon_98 fl_X8_9 rfl k_b0 g_39 ?_
    refine r_iload_n (pc := 101) dX8_saysCommon_101 rfl ?_
    refine r_iload_n (pc := 102) dX8_saysCommon_102 rfl ?_
    refine r_iadd (pc := 103) dX8_saysCommon_103 ?_
    refine r_iconst (pc := 104) (v := 1) dX8_saysCommon_104 (by decide) ?_
    refine r_iadd (pc := 105) dX8_saysCommon_105 ?_
    obtain ⟨n_41, e_40, K0⟩ := K0
    obtain ⟨i_42, K0⟩ := K0
    refine s_iald (pc := 106) dX8_saysCommon_106 e_40 i_42 ?_
    refine s_VV (pc := 107) mX8_saysNumber (ci := 8) (a := b0) (As := [.int (gi y_37 c_38 (((l2 + l3) + 1) : Int32).toNatClampNeg)]) dX8_saysCommon_107 lk_X8_410 in_X8_saysNumber mo_X8_saysNumber ⟨by decide, rfl⟩ ⟨by decide, by decide⟩ (Nat.le_of_ble_eq_true rfl) k_b0 (mSV_mono K0 (fun y_43 K0 => ?_))
    exact s_ret rfl dX8_saysCommon_110 K0
  · have K0 := K0.2 q
    refine r_ldcwS (pc := 66) (j := 29) dX8_saysCommon_66 rfl ?_
    refine r_goto (pc := 69) (tgt := 75) dX8_saysCommon_69 (by decide) ?_
    refine s_VV (pc := 75) mX8_saysText (ci := 8) (a := b0) (As := [.ref (mSB + 29)]) dX8_saysCommon_75 lk_X8_404 in_X8_saysText mo_X8_saysText ⟨by decide, rfl⟩ ⟨by decide, by decide⟩ (Nat.le_of_ble_eq_true rfl) k_b0 (mSV_mono K0 (fun y_44 K0 => ?_))
    refine r_aload_n (pc := 78) dX8_saysCommon_78 rfl ?_
    refine r_aload_n (pc := 79) dX8_saysCommon_79 rfl ?_
    obtain ⟨c_45, g_46, K0⟩ := K0
    refine s_getR (pc := 80) dX8_saysCommon_80 fl_X8_9 rfl k_b0 g_46 ?_
    refine r_iload_n (pc := 83) dX8_saysCommon_83 rfl ?_
    refine r_iload_n (pc := 84) dX8_saysCommon_84 rfl ?_
    refine r_iadd (pc := 85) dX8_saysCommon_85 ?_
    obtain ⟨n_48, e_47, K0⟩ := K0
    obtain ⟨i_49, K0⟩ := K0
    refine s_iald (pc := 86) dX8_saysCommon_86 e_47 i_49 ?_
    refine s_VV (pc := 87) mX8_saysNumber (ci := 8) (a := b0) (As := [.int (gi y_44 c_45 ((l2 + l3) : Int32).toNatClampNeg)]) dX8_saysCommon_87 lk_X8_410 in_X8_saysNumber mo_X8_saysNumber ⟨by decide, rfl⟩ ⟨by decide, by decide⟩ (Nat.le_of_ble_eq_true rfl) k_b0 (mSV_mono K0 (fun y_50 K0 => ?_))
    refine r_aload_n (pc := 90) dX8_saysCommon_90 rfl ?_
    refine r_bipush (pc := 91) (v := 45) dX8_saysCommon_91 (by decide) ?_
    refine s_VV (pc := 93) mX8_says (ci := 8) (a := b0) (As := [.int 45]) dX8_saysCommon_93 lk_X8_401 in_X8_says mo_X8_says ⟨by decide, rfl⟩ ⟨by decide, by decide⟩ (Nat.le_of_ble_eq_true rfl) k_b0 (mSV_mono K0 (fun y_51 K0 => ?_))
    refine r_aload_n (pc := 96) dX8_saysCommon_96 rfl ?_
    refine r_aload_n (pc := 97) dX8_saysCommon_97 rfl ?_
    obtain ⟨c_52, g_53, K0⟩ := K0
    refine s_getR (pc := 98) dX8_saysCommon_98 fl_X8_9 rfl k_b0 g_53 ?_
    refine r_iload_n (pc := 101) dX8_saysCommon_101 rfl ?_
    refine r_iload_n (pc := 102) dX8_saysCommon_102 rfl ?_
    refine r_iadd (pc := 103) dX8_saysCommon_103 ?_
    refine r_iconst (pc := 104) (v := 1) dX8_saysCommon_104 (by decide) ?_
    refine r_iadd (pc := 105) dX8_saysCommon_105 ?_
    obtain ⟨n_55, e_54, K0⟩ := K0
    obtain ⟨i_56, K0⟩ := K0
    refine s_iald (pc := 106) dX8_saysCommon_106 e_54 i_56 ?_
    refine s_VV (pc := 107) mX8_saysNumber (ci := 8) (a := b0) (As := [.int (gi y_51 c_52 (((l2 + l3) + 1) : Int32).toNatClampNeg)]) dX8_saysCommon_107 lk_X8_410 in_X8_saysNumber mo_X8_saysNumber ⟨by decide, rfl⟩ ⟨by decide, by decide⟩ (Nat.le_of_ble_eq_true rfl) k_b0 (mSV_mono K0 (fun y_57 K0 => ?_))
    exact s_ret rfl dX8_saysCommon_110 K0
section
theorem sp_X8_saysCommon {x : Cn} {Q : Cn → Prop} {l : List Nat} {B cr v d h f t j m b0 f0 : Nat} {way : Int32} (T : TT) (hT : gi x 718 = T) (hb0 : b0 + f0 + 1 < 518 ∧ b0 + 3 < 518) (hf0 : f0 ≤ 5) (t0 : T b0 = nI cr) (t1 : T (b0 + 1) = nI d) (t2 : T (b0 + 2) = nI h) (t3 : T (b0 + 3) = way) (t5 : T (b0 + f0) = nI f) (t6 : T (b0 + f0 + 1) = nI t) (hc : cr < 8) (hv1 : v < 387420489) (hv : T (54 + cr) = nI v) (hd : d < 7) (hh : h < 100) (hf : f < 100) (ht : t < 100) (hj : j < 37) (hm : (mSq j).2.2.2.length ≤ m) (M : MRf x 718) (w : OR x l B) (hB : B + 23 + m ≤ 2400) (k : ∀ y, OFr x y → OR y (l ++ comP (wd j) v d h way f t) (B + 23 + m) → Q y) : mSV mX8_saysCommon [.ref 717, .ref (mSB + j), .int (nI b0), .int (nI f0)] KW x Q := by
  have Mg : ∀ y : Cn, OFr x y → MRf y 718 := fun y fy => M.keep fy.1
  have tg : ∀ y : Cn, OFr x y → ∀ i, gi y 718 i = T i := fun y fy i => by rw [fy.2 718 i (by decide) (by omega), hT]
  have i1 : nI b0 + 1 = nI (b0 + 1) := nI_1 b0
  have i2 : nI b0 + 2 = nI (b0 + 2) := nI_add b0 2
  have i3 : nI b0 + 3 = nI (b0 + 3) := nI_add b0 3
  have i5 : nI b0 + nI f0 = nI (b0 + f0) := nI_add b0 f0
  have i6 : nI (b0 + f0) + 1 = nI (b0 + f0 + 1) := nI_1 _
  refine v_X8_saysCommon_0 km (sp_X8_saysText (m := m) (mSq_at hj) hm M w (by omega) (fun y1 f1 w1 => ⟨718, (Mg y1 f1).1, 518, km1, vp_in_nI (by omega) (by decide), ?_⟩))
  rw [nI_clamp (by omega), tg y1 f1, t0]
  refine sp_X8_saysName hc hv1 (by rw [tg y1 f1]; exact hv) (Mg y1 f1) w1 (by omega) (fun y2 f2 w2 => ?_)
  have F2 := f1.tr f2
  refine sp_X8_says (n := 32) (by decide) (Mg y2 F2) w2 (by omega) (fun y3 f3 w3 => ?_)
  have F3 := F2.tr f3
  rw [i1, i2, i3, i5, i6, nI_clamp (show b0 + 1 < 2 ^ 31 by omega), nI_clamp (show b0 + 2 < 2 ^ 31 by omega), nI_clamp (show b0 + 3 < 2 ^ 31 by omega), nI_clamp (show b0 + f0 < 2 ^ 31 by omega), nI_clamp (show b0 + f0 + 1 < 2 ^ 31 by omega)]
  refine ⟨718, (Mg y3 F3).1, 518, km1, vp_in_nI (by omega) (by decide), ?_⟩
  rw [tg y3 F3, t1]
  refine sp_X8_dayOf hd (sp_X8_saysText (m := 3) (mSq_at (by omega)) (by rw [← wq_len]; show (wd (15 + d)).length ≤ 3; rw [day_wd d hd]; exact Nat.le_refl _) (Mg y3 F3) w3 (by omega) (fun y4 f4 w4 => ?_))
  rw [show wq (mSq (15 + d)) = dayL d from day_wd d hd] at w4
  have F4 := F3.tr f4
  refine sp_X8_says (n := 32) (by decide) (Mg y4 F4) w4 (by omega) (fun y5 f5 w5 => ⟨718, (Mg y5 (F4.tr f5)).1, 518, km1, vp_in_nI (by omega) (by decide), ?_⟩)
  have F5 := F4.tr f5
  rw [tg y5 F5, t2]
  refine sp_X8_saysNumber hh (Mg y5 F5) w5 (by omega) (fun y6 f6 w6 => ⟨718, (Mg y6 (F5.tr f6)).1, 518, km1, vp_in_nI (by omega) (by decide), ?_⟩)
  have F6 := F5.tr f6
  rw [tg y6 F6, t3]
  have rest : ∀ (y7 : Cn) (W7 : List Nat) B7, OFr x y7 → OR y7 (l ++ wd j ++ nmL v ++ [32] ++ dayL d ++ [32] ++ numL h ++ W7) B7 → B7 + 5 ≤ B + 23 + m → W7 = (if way = 0 then wd 29 else wd 32) → ∃ c_31, gr y7 717 1 = some c_31 ∧ (∃ n_34, kk KW c_31 = some (20, n_34) ∧ (vp_in (nI (b0 + f0)) n_34 ∧ mSV mX8_saysNumber [.ref 717, .int (gi y7 c_31 (b0 + f0))] KW y7 (fun y_36 => mSV mX8_says [.ref 717, .int 45] KW y_36 (fun y_37 => ∃ c_38, gr y_37 717 1 = some c_38 ∧ (∃ n_41, kk KW c_38 = some (20, n_41) ∧ (vp_in (nI (b0 + f0 + 1)) n_41 ∧ mSV mX8_saysNumber [.ref 717, .int (gi y_37 c_38 (b0 + f0 + 1))] KW y_37 (fun y_43 => Q y_43))))))) := by
    intro y7 W7 B7 F7 w7 hB7 hW7
    refine ⟨718, (Mg y7 F7).1, 518, km1, vp_in_nI (by omega) (by decide), ?_⟩
    rw [tg y7 F7, t5]
    refine sp_X8_saysNumber hf (Mg y7 F7) w7 (by omega) (fun y8 f8 w8 => sp_X8_says (n := 45) (by decide) (Mg y8 (F7.tr f8)) w8 (by omega) (fun y9 f9 w9 => ⟨718, (Mg y9 (F7.tr (f8.tr f9))).1, 518, km1, vp_in_nI (by omega) (by decide), ?_⟩))
    have F9 := F7.tr (f8.tr f9)
    rw [tg y9 F9, t6]
    refine sp_X8_saysNumber ht (Mg y9 F9) w9 (by omega) (fun y10 f10 w10 => k y10 (F9.tr f10) ?_)
    have e : l ++ wd j ++ nmL v ++ [32] ++ dayL d ++ [32] ++ numL h ++ W7 ++ numL f ++ [45] ++ numL t = l ++ comP (wd j) v d h way f t := by
      rw [hW7]
      simp only [comP, List.append_assoc]
    rw [e] at w10
    exact w10.le (by omega)
  refine ⟨fun z => sp_X8_saysText (j := 32) (m := 5) (mSq_at (by decide)) (by decide) (Mg y6 F6) w6 (by omega) (fun y7 f7 w7 => rest y7 _ _ (F6.tr f7) w7 (by omega) (by rw [if_neg z])), fun z => sp_X8_saysText (j := 29) (m := 4) (mSq_at (by decide)) (by decide) (Mg y6 F6) w6 (by omega) (fun y7 f7 w7 => rest y7 _ _ (F6.tr f7) w7 (by omega) (by rw [if_pos z]))⟩
end
set_option maxHeartbeats 2000000 in
theorem v_X8_tell_0 {K : Sh} {x : Cn} {Q : Int32 → Cn → Prop} {b0 : Nat} {b0_1 : Nat} {n_b0_1 : Nat} (k_b0 : kk K b0 = some (8, 0)) (g_b0_1 : gr x b0 1 = some b0_1) (k_b0_1 : kk K b0_1 = some (20, n_b0_1)) (K0 : vp_in 0 n_b0_1 ∧ (((0 < gi x b0_1 0) → (mSV mX8_saysText [.ref b0, .ref (mSB + 27)] K (ui x b0 22 0) (fun y_3 => gr y_3 b0 1 = some b0_1 ∧ (mSV mX8_saysNumber [.ref b0, .int (gi y_3 b0_1 0)] K y_3 (fun y_5 => mSV mX8_says [.ref b0, .int 59] K y_5 (fun y_6 => GI mX8_tell 40 [some (.ref b0), some (.int 0)] [] K y_6 Q)))))) ∧ (¬ (0 < gi x b0_1 0) → (Q (-2) x)))) : mSI mX8_tell [.ref b0] K x Q := by
  refine s_I (by decide) (by simp [Value.category]) (Nat.le_of_ble_eq_true rfl) ?_
  show mGM mX8_tell 0 [some (.ref b0), none] [] (hp K x) (PI K Q)
  refine r_aload_n (pc := 0) dX8_tell_0 rfl ?_
  obtain ⟨i_1, K0⟩ := K0
  refine s_VI (pc := 1) mX8_isThere (ci := 8) (a := b0) (As := []) dX8_tell_1 lk_X8_49 in_X8_isThere mo_X8_isThere ⟨by decide, rfl⟩ ⟨by decide, by decide⟩ (Nat.le_of_ble_eq_true rfl) k_b0 (sp_X8_isThere k_b0 g_b0_1 k_b0_1 i_1 ?_)
  refine r_if_ne (pc := 4) (tgt := 10) dX8_tell_4 (by decide) (fun q => ?_) (fun q => ?_)
  · have q := b2i_nz q
    have K0 := K0.1 q
    refine r_aload_n (pc := 10) dX8_tell_10 rfl ?_
    refine r_iconst (pc := 11) (v := 0) dX8_tell_11 (by decide) ?_
    refine s_putI (pc := 12) dX8_tell_12 fl_X8_398 rfl rfl k_b0 ?_
    refine r_aload_n (pc := 15) dX8_tell_15 rfl ?_
    refine r_ldcwS (pc := 16) (j := 27) dX8_tell_16 rfl ?_
    refine s_VV (pc := 19) mX8_saysText (ci := 8) (a := b0) (As := [.ref (mSB + 27)]) dX8_tell_19 lk_X8_404 in_X8_saysText mo_X8_saysText ⟨by decide, rfl⟩ ⟨by decide, by decide⟩ (Nat.le_of_ble_eq_true rfl) k_b0 (mSV_mono K0 (fun y_3 K0 => ?_))
    refine r_aload_n (pc := 22) dX8_tell_22 rfl ?_
    refine r_aload_n (pc := 23) dX8_tell_23 rfl ?_
    obtain ⟨g_4, K0⟩ := K0
    refine s_getR (pc := 24) dX8_tell_24 fl_X8_9 rfl k_b0 g_4 ?_
    refine r_iconst (pc := 27) (v := 0) dX8_tell_27 (by decide) ?_
    refine s_iald (pc := 28) dX8_tell_28 k_b0_1 i_1 ?_
    refine s_VV (pc := 29) mX8_saysNumber (ci := 8) (a := b0) (As := [.int (gi y_3 b0_1 0)]) dX8_tell_29 lk_X8_410 in_X8_saysNumber mo_X8_saysNumber ⟨by decide, rfl⟩ ⟨by decide, by decide⟩ (Nat.le_of_ble_eq_true rfl) k_b0 (mSV_mono K0 (fun y_5 K0 => ?_))
    refine r_aload_n (pc := 32) dX8_tell_32 rfl ?_
    refine r_bipush (pc := 33) (v := 59) dX8_tell_33 (by decide) ?_
    refine s_VV (pc := 35) mX8_says (ci := 8) (a := b0) (As := [.int 59]) dX8_tell_35 lk_X8_401 in_X8_says mo_X8_says ⟨by decide, rfl⟩ ⟨by decide, by decide⟩ (Nat.le_of_ble_eq_true rfl) k_b0 (mSV_mono K0 (fun y_6 K0 => ?_))
    refine r_iconst (pc := 38) (v := 0) dX8_tell_38 (by decide) ?_
    refine r_istore_n (pc := 39) dX8_tell_39 (by decide) ?_
    exact r_le (L' := [some (.ref b0), some (.int 0)]) ⟨rfl, ⟨rfl, trivial⟩⟩ K0
  · have q := (b2i_z _).mp q
    have K0 := K0.2 q
    refine r_bipush (pc := 7) (v := (-2)) dX8_tell_7 (by decide) ?_
    exact s_iret rfl dX8_tell_9 K0
set_option maxHeartbeats 2000000 in
theorem v_X8_tell_40 {K : Sh} {x : Cn} {Q : Int32 → Cn → Prop} {b0 : Nat} {l1 : Int32} {b0_1 : Nat} {n_b0_1 : Nat} (k_b0 : kk K b0 = some (8, 0)) (g_b0_1 : gr x b0 1 = some b0_1) (k_b0_1 : kk K b0_1 = some (20, n_b0_1)) (K0 : (24 ≤ l1 → (GI mX8_tell 152 [some (.ref b0), some (.int 0)] [] K x Q)) ∧ (¬ 24 ≤ l1 → (vp_in (6 + (2 * l1)) n_b0_1 ∧ ((¬ (gi x b0_1 ((6 + (2 * l1)) : Int32).toNatClampNeg) = 4 → (mSV mX8_saysText [.ref b0, .ref (mSB + 28)] K x (fun y_4 => mSV mX8_saysNumber [.ref b0, .int l1] K y_4 (fun y_5 => mSV mX8_says [.ref b0, .int 32] K y_5 (fun y_6 => gr y_6 b0 1 = some b0_1 ∧ (mSV mX8_saysNumber [.ref b0, .int (gi y_6 b0_1 ((6 + (2 * l1)) : Int32).toNatClampNeg)] K y_6 (fun y_8 => mSV mX8_saysText [.ref b0, .ref (mSB + 29)] K y_8 (fun y_9 => gr y_9 b0 1 = some b0_1 ∧ (vp_in ((6 + (2 * l1)) + 1) n_b0_1 ∧ (mSV mX8_saysNumber [.ref b0, .int (gi y_9 b0_1 (((6 + (2 * l1)) + 1) : Int32).toNatClampNeg)] K y_9 (fun y_12 => mSV mX8_says [.ref b0, .int 59] K y_12 (fun y_13 => GI mX8_tell 40 [some (.ref b0), some (.int (l1 + 1))] [] K y_13 Q)))))))))))) ∧ ((gi x b0_1 ((6 + (2 * l1)) : Int32).toNatClampNeg) = 4 → (vp_in ((6 + (2 * l1)) + 1) n_b0_1 ∧ ((¬ (gi x b0_1 (((6 + (2 * l1)) + 1) : Int32).toNatClampNeg) = 4 → (mSV mX8_saysText [.ref b0, .ref (mSB + 28)] K x (fun y_16 => mSV mX8_saysNumber [.ref b0, .int l1] K y_16 (fun y_17 => mSV mX8_says [.ref b0, .int 32] K y_17 (fun y_18 => gr y_18 b0 1 = some b0_1 ∧ (mSV mX8_saysNumber [.ref b0, .int (gi y_18 b0_1 ((6 + (2 * l1)) : Int32).toNatClampNeg)] K y_18 (fun y_20 => mSV mX8_saysText [.ref b0, .ref (mSB + 29)] K y_20 (fun y_21 => gr y_21 b0 1 = some b0_1 ∧ (mSV mX8_saysNumber [.ref b0, .int (gi y_21 b0_1 (((6 + (2 * l1)) + 1) : Int32).toNatClampNeg)] K y_21 (fun y_23 => mSV mX8_says [.ref b0, .int 59] K y_23 (fun y_24 => GI mX8_tell 40 [some (.ref b0), some (.int (l1 + 1))] [] K y_24 Q))))))))))) ∧ ((gi x b0_1 (((6 + (2 * l1)) + 1) : Int32).toNatClampNeg) = 4 → (GI mX8_tell 40 [some (.ref b0), some (.int (l1 + 1))] [] K x Q))))))))) : GI mX8_tell 40 [some (.ref b0), some (.int l1)] [] K x Q := by
  show mGM mX8_tell 40 [some (.ref b0), some (.int l1)] [] (hp K x) (PI K Q)
  refine r_iload_n (pc := 40) dX8_tell_40 rfl ?_
  refine r_bipush (pc := 41) (v := 24) dX8_tell_41 (by decide) ?_
  refine r_icmp_ge (pc := 43) (tgt := 150) dX8_tell_43 (by decide) (fun q => ?_) (fun q => ?_)
  · have K0 := K0.1 q
    refine r_iconst (pc := 150) (v := 0) dX8_tell_150 (by decide) ?_
    refine r_istore_n (pc := 151) dX8_tell_151 (by decide) ?_
    exact r_le (L' := [some (.ref b0), some (.int 0)]) ⟨rfl, ⟨rfl, trivial⟩⟩ K0
  · have K0 := K0.2 q
    refine r_aload_n (pc := 46) dX8_tell_46 rfl ?_
    refine s_getR (pc := 47) dX8_tell_47 fl_X8_9 rfl k_b0 g_b0_1 ?_
    refine r_bipush (pc := 50) (v := 6) dX8_tell_50 (by decide) ?_
    refine r_iconst (pc := 52) (v := 2) dX8_tell_52 (by decide) ?_
    refine r_iload_n (pc := 53) dX8_tell_53 rfl ?_
    refine r_imul (pc := 54) dX8_tell_54 ?_
    refine r_iadd (pc := 55) dX8_tell_55 ?_
    obtain ⟨i_2, K0⟩ := K0
    refine s_iald (pc := 56) dX8_tell_56 k_b0_1 i_2 ?_
    refine r_iconst (pc := 57) (v := 4) dX8_tell_57 (by decide) ?_
    refine r_icmp_ne (pc := 58) (tgt := 81) dX8_tell_58 (by decide) (fun q => ?_) (fun q => ?_)
    · have K0 := K0.1 q
      refine r_aload_n (pc := 81) dX8_tell_81 rfl ?_
      refine r_ldcwS (pc := 82) (j := 28) dX8_tell_82 rfl ?_
      refine s_VV (pc := 85) mX8_saysText (ci := 8) (a := b0) (As := [.ref (mSB + 28)]) dX8_tell_85 lk_X8_404 in_X8_saysText mo_X8_saysText ⟨by decide, rfl⟩ ⟨by decide, by decide⟩ (Nat.le_of_ble_eq_true rfl) k_b0 (mSV_mono K0 (fun y_4 K0 => ?_))
      refine r_aload_n (pc := 88) dX8_tell_88 rfl ?_
      refine r_iload_n (pc := 89) dX8_tell_89 rfl ?_
      refine s_VV (pc := 90) mX8_saysNumber (ci := 8) (a := b0) (As := [.int l1]) dX8_tell_90 lk_X8_410 in_X8_saysNumber mo_X8_saysNumber ⟨by decide, rfl⟩ ⟨by decide, by decide⟩ (Nat.le_of_ble_eq_true rfl) k_b0 (mSV_mono K0 (fun y_5 K0 => ?_))
      refine r_aload_n (pc := 93) dX8_tell_93 rfl ?_
      refine r_bipush (pc := 94) (v := 32) dX8_tell_94 (by decide) ?_
      refine s_VV (pc := 96) mX8_says (ci := 8) (a := b0) (As := [.int 32]) dX8_tell_96 lk_X8_401 in_X8_says mo_X8_says ⟨by decide, rfl⟩ ⟨by decide, by decide⟩ (Nat.le_of_ble_eq_true rfl) k_b0 (mSV_mono K0 (fun y_6 K0 => ?_))
      refine r_aload_n (pc := 99) dX8_tell_99 rfl ?_
      refine r_aload_n (pc := 100) dX8_tell_100 rfl ?_
      obtain ⟨g_7, K0⟩ := K0
      refine s_getR (pc := 101) dX8_tell_101 fl_X8_9 rfl k_b0 g_7 ?_
      refine r_bipush (pc := 104) (v := 6) dX8_tell_104 (by decide) ?_
      refine r_iconst (pc := 106) (v := 2) dX8_tell_106 (by decide) ?_
      refine r_iload_n (pc := 107) dX8_tell_107 rfl ?_
      refine r_imul (pc := 108) dX8_tell_108 ?_
      refine r_iadd (pc := 109) dX8_tell_109 ?_
      refine s_iald (pc := 110) dX8_tell_110 k_b0_1 i_2 ?_
      refine s_VV (pc := 111) mX8_saysNumber (ci := 8) (a := b0) (As := [.int (gi y_6 b0_1 ((6 + (2 * l1)) : Int32).toNatClampNeg)]) dX8_tell_111 lk_X8_410 in_X8_saysNumber mo_X8_saysNumber ⟨by decide, rfl⟩ ⟨by decide, by decide⟩ (Nat.le_of_ble_eq_true rfl) k_b0 (mSV_mono K0 (fun y_8 K0 => ?_))
      refine r_aload_n (pc := 114) dX8_tell_114 rfl ?_
      refine r_ldcwS (pc := 115) (j := 29) dX8_tell_115 rfl ?_
      refine s_VV (pc := 118) mX8_saysText (ci := 8) (a := b0) (As := [.ref (mSB + 29)]) dX8_tell_118 lk_X8_404 in_X8_saysText mo_X8_saysText ⟨by decide, rfl⟩ ⟨by decide, by decide⟩ (Nat.le_of_ble_eq_true rfl) k_b0 (mSV_mono K0 (fun y_9 K0 => ?_))
      refine r_aload_n (pc := 121) dX8_tell_121 rfl ?_
      refine r_aload_n (pc := 122) dX8_tell_122 rfl ?_
      obtain ⟨g_10, K0⟩ := K0
      refine s_getR (pc := 123) dX8_tell_123 fl_X8_9 rfl k_b0 g_10 ?_
      refine r_bipush (pc := 126) (v := 6) dX8_tell_126 (by decide) ?_
      refine r_iconst (pc := 128) (v := 2) dX8_tell_128 (by decide) ?_
      refine r_iload_n (pc := 129) dX8_tell_129 rfl ?_
      refine r_imul (pc := 130) dX8_tell_130 ?_
      refine r_iadd (pc := 131) dX8_tell_131 ?_
      refine r_iconst (pc := 132) (v := 1) dX8_tell_132 (by decide) ?_
      refine r_iadd (pc := 133) dX8_tell_133 ?_
      obtain ⟨i_11, K0⟩ := K0
      refine s_iald (pc := 134) dX8_tell_134 k_b0_1 i_11 ?_
      refine s_VV (pc := 135) mX8_saysNumber (ci := 8) (a := b0) (As := [.int (gi y_9 b0_1 (((6 + (2 * l1)) + 1) : Int32).toNatClampNeg)]) dX8_tell_135 lk_X8_410 in_X8_saysNumber mo_X8_saysNumber ⟨by decide, rfl⟩ ⟨by decide, by decide⟩ (Nat.le_of_ble_eq_true rfl) k_b0 (mSV_mono K0 (fun y_12 K0 => ?_))
      refine r_aload_n (pc := 138) dX8_tell_138 rfl ?_
      refine r_bipush (pc := 139) (v := 59) dX8_tell_139 (by decide) ?_
      refine s_VV (pc := 141) mX8_says (ci := 8) (a := b0) (As := [.int 59]) dX8_tell_141 lk_X8_401 in_X8_says mo_X8_says ⟨by decide, rfl⟩ ⟨by decide, by decide⟩ (Nat.le_of_ble_eq_true rfl) k_b0 (mSV_mono K0 (fun y_13 K0 => ?_))
      refine r_iinc (pc := 144) (v := l1 + 1) dX8_tell_144 rfl rfl (by decide) ?_
      refine r_goto (pc := 147) (L := [some (.ref b0), some (.int (l1 + 1))]) (tgt := 40) dX8_tell_147 (by decide) ?_
      exact r_le (L' := [some (.ref b0), some (.int (l1 + 1))]) ⟨rfl, ⟨rfl, trivial⟩⟩ K0
    · have K0 := K0.2 q
      refine r_aload_n (pc := 61) dX8_tell_61 rfl ?_
      refine s_getR (pc := 62) dX8_tell_62 fl_X8_9 rfl k_b0 g_b0_1 ?_
      refine r_bipush (pc := 65) (v := 6) dX8_tell_65 (by decide) ?_
      refine r_iconst (pc := 67) (v := 2) dX8_tell_67 (by decide) ?_
      refine r_iload_n (pc := 68) dX8_tell_68 rfl ?_
      refine r_imul (pc := 69) dX8_tell_69 ?_
      refine r_iadd (pc := 70) dX8_tell_70 ?_
      refine r_iconst (pc := 71) (v := 1) dX8_tell_71 (by decide) ?_
      refine r_iadd (pc := 72) dX8_tell_72 ?_
      obtain ⟨i_14, K0⟩ := K0
      refine s_iald (pc := 73) dX8_tell_73 k_b0_1 i_14 ?_
      refine r_iconst (pc := 74) (v := 4) dX8_tell_74 (by decide) ?_
      refine r_icmp_ne (pc := 75) (tgt := 81) dX8_tell_75 (by decide) (fun q => ?_) (fun q => ?_)
      · have K0 := K0.1 q
        refine r_aload_n (pc := 81) dX8_tell_81 rfl ?_
        refine r_ldcwS (pc := 82) (j := 28) dX8_tell_82 rfl ?_
        refine s_VV (pc := 85) mX8_saysText (ci := 8) (a := b0) (As := [.ref (mSB + 28)]) dX8_tell_85 lk_X8_404 in_X8_saysText mo_X8_saysText ⟨by decide, rfl⟩ ⟨by decide, by decide⟩ (Nat.le_of_ble_eq_true rfl) k_b0 (mSV_mono K0 (fun y_16 K0 => ?_))
        refine r_aload_n (pc := 88) dX8_tell_88 rfl ?_
        refine r_iload_n (pc := 89) dX8_tell_89 rfl ?_
        refine s_VV (pc := 90) mX8_saysNumber (ci := 8) (a := b0) (As := [.int l1]) dX8_tell_90 lk_X8_410 in_X8_saysNumber mo_X8_saysNumber ⟨by decide, rfl⟩ ⟨by decide, by decide⟩ (Nat.le_of_ble_eq_true rfl) k_b0 (mSV_mono K0 (fun y_17 K0 => ?_))
        refine r_aload_n (pc := 93) dX8_tell_93 rfl ?_
        refine r_bipush (pc := 94) (v := 32) dX8_tell_94 (by decide) ?_
        refine s_VV (pc := 96) mX8_says (ci := 8) (a := b0) (As := [.int 32]) dX8_tell_96 lk_X8_401 in_X8_says mo_X8_says ⟨by decide, rfl⟩ ⟨by decide, by decide⟩ (Nat.le_of_ble_eq_true rfl) k_b0 (mSV_mono K0 (fun y_18 K0 => ?_))
        refine r_aload_n (pc := 99) dX8_tell_99 rfl ?_
        refine r_aload_n (pc := 100) dX8_tell_100 rfl ?_
        obtain ⟨g_19, K0⟩ := K0
        refine s_getR (pc := 101) dX8_tell_101 fl_X8_9 rfl k_b0 g_19 ?_
        refine r_bipush (pc := 104) (v := 6) dX8_tell_104 (by decide) ?_
        refine r_iconst (pc := 106) (v := 2) dX8_tell_106 (by decide) ?_
        refine r_iload_n (pc := 107) dX8_tell_107 rfl ?_
        refine r_imul (pc := 108) dX8_tell_108 ?_
        refine r_iadd (pc := 109) dX8_tell_109 ?_
        refine s_iald (pc := 110) dX8_tell_110 k_b0_1 i_2 ?_
        refine s_VV (pc := 111) mX8_saysNumber (ci := 8) (a := b0) (As := [.int (gi y_18 b0_1 ((6 + (2 * l1)) : Int32).toNatClampNeg)]) dX8_tell_111 lk_X8_410 in_X8_saysNumber mo_X8_saysNumber ⟨by decide, rfl⟩ ⟨by decide, by decide⟩ (Nat.le_of_ble_eq_true rfl) k_b0 (mSV_mono K0 (fun y_20 K0 => ?_))
        refine r_aload_n (pc := 114) dX8_tell_114 rfl ?_
        refine r_ldcwS (pc := 115) (j := 29) dX8_tell_115 rfl ?_
        refine s_VV (pc := 118) mX8_saysText (ci := 8) (a := b0) (As := [.ref (mSB + 29)]) dX8_tell_118 lk_X8_404 in_X8_saysText mo_X8_saysText ⟨by decide, rfl⟩ ⟨by decide, by decide⟩ (Nat.le_of_ble_eq_true rfl) k_b0 (mSV_mono K0 (fun y_21 K0 => ?_))
        refine r_aload_n (pc := 121) dX8_tell_121 rfl ?_
        refine r_aload_n (pc := 122) dX8_tell_122 rfl ?_
        obtain ⟨g_22, K0⟩ := K0
        refine s_getR (pc := 123) dX8_tell_123 fl_X8_9 rfl k_b0 g_22 ?_
        refine r_bipush (pc := 126) (v := 6) dX8_tell_126 (by decide) ?_
        refine r_iconst (pc := 128) (v := 2) dX8_tell_128 (by decide) ?_
        refine r_iload_n (pc := 129) dX8_tell_129 rfl ?_
        refine r_imul (pc := 130) dX8_tell_130 ?_
        refine r_iadd (pc := 131) dX8_tell_131 ?_
        refine r_iconst (pc := 132) (v := 1) dX8_tell_132 (by decide) ?_
        refine r_iadd (pc := 133) dX8_tell_133 ?_
        refine s_iald (pc := 134) dX8_tell_134 k_b0_1 i_14 ?_
        refine s_VV (pc := 135) mX8_saysNumber (ci := 8) (a := b0) (As := [.int (gi y_21 b0_1 (((6 + (2 * l1)) + 1) : Int32).toNatClampNeg)]) dX8_tell_135 lk_X8_410 in_X8_saysNumber mo_X8_saysNumber ⟨by decide, rfl⟩ ⟨by decide, by decide⟩ (Nat.le_of_ble_eq_true rfl) k_b0 (mSV_mono K0 (fun y_23 K0 => ?_))
        refine r_aload_n (pc := 138) dX8_tell_138 rfl ?_
        refine r_bipush (pc := 139) (v := 59) dX8_tell_139 (by decide) ?_
        refine s_VV (pc := 141) mX8_says (ci := 8) (a := b0) (As := [.int 59]) dX8_tell_141 lk_X8_401 in_X8_says mo_X8_says ⟨by decide, rfl⟩ ⟨by decide, by decide⟩ (Nat.le_of_ble_eq_true rfl) k_b0 (mSV_mono K0 (fun y_24 K0 => ?_))
        refine r_iinc (pc := 144) (v := l1 + 1) dX8_tell_144 rfl rfl (by decide) ?_
        refine r_goto (pc := 147) (L := [some (.ref b0), some (.int (l1 + 1))]) (tgt := 40) dX8_tell_147 (by decide) ?_
        exact r_le (L' := [some (.ref b0), some (.int (l1 + 1))]) ⟨rfl, ⟨rfl, trivial⟩⟩ K0
      · have K0 := K0.2 q
        refine r_goto (pc := 78) (tgt := 144) dX8_tell_78 (by decide) ?_
        refine r_iinc (pc := 144) (v := l1 + 1) dX8_tell_144 rfl rfl (by decide) ?_
        refine r_goto (pc := 147) (L := [some (.ref b0), some (.int (l1 + 1))]) (tgt := 40) dX8_tell_147 (by decide) ?_
        exact r_le (L' := [some (.ref b0), some (.int (l1 + 1))]) ⟨rfl, ⟨rfl, trivial⟩⟩ K0
set_option maxHeartbeats 2000000 in
theorem v_X8_tell_152 {K : Sh} {x : Cn} {Q : Int32 → Cn → Prop} {b0 : Nat} {l1 : Int32} {b0_1 : Nat} {n_b0_1 : Nat} (k_b0 : kk K b0 = some (8, 0)) (g_b0_1 : gr x b0 1 = some b0_1) (k_b0_1 : kk K b0_1 = some (20, n_b0_1)) (K0 : vp_in 1 n_b0_1 ∧ (((gi x b0_1 1) ≤ l1 → (GI mX8_tell 188 [some (.ref b0), some (.int 0)] [] K x Q)) ∧ (¬ (gi x b0_1 1) ≤ l1 → (mSV mX8_saysText [.ref b0, .ref (mSB + 30)] K x (fun y_3 => mSV mX8_saysName [.ref b0, .int l1] K y_3 (fun y_4 => mSV mX8_says [.ref b0, .int 59] K y_4 (fun y_5 => GI mX8_tell 152 [some (.ref b0), some (.int (l1 + 1))] [] K y_5 Q))))))) : GI mX8_tell 152 [some (.ref b0), some (.int l1)] [] K x Q := by
  show mGM mX8_tell 152 [some (.ref b0), some (.int l1)] [] (hp K x) (PI K Q)
  refine r_iload_n (pc := 152) dX8_tell_152 rfl ?_
  refine r_aload_n (pc := 153) dX8_tell_153 rfl ?_
  refine s_getR (pc := 154) dX8_tell_154 fl_X8_9 rfl k_b0 g_b0_1 ?_
  refine r_iconst (pc := 157) (v := 1) dX8_tell_157 (by decide) ?_
  obtain ⟨i_1, K0⟩ := K0
  refine s_iald (pc := 158) dX8_tell_158 k_b0_1 i_1 ?_
  refine r_icmp_ge (pc := 159) (tgt := 186) dX8_tell_159 (by decide) (fun q => ?_) (fun q => ?_)
  · have K0 := K0.1 q
    refine r_iconst (pc := 186) (v := 0) dX8_tell_186 (by decide) ?_
    refine r_istore_n (pc := 187) dX8_tell_187 (by decide) ?_
    exact r_le (L' := [some (.ref b0), some (.int 0)]) ⟨rfl, ⟨rfl, trivial⟩⟩ K0
  · have K0 := K0.2 q
    refine r_aload_n (pc := 162) dX8_tell_162 rfl ?_
    refine r_ldcwS (pc := 163) (j := 30) dX8_tell_163 rfl ?_
    refine s_VV (pc := 166) mX8_saysText (ci := 8) (a := b0) (As := [.ref (mSB + 30)]) dX8_tell_166 lk_X8_404 in_X8_saysText mo_X8_saysText ⟨by decide, rfl⟩ ⟨by decide, by decide⟩ (Nat.le_of_ble_eq_true rfl) k_b0 (mSV_mono K0 (fun y_3 K0 => ?_))
    refine r_aload_n (pc := 169) dX8_tell_169 rfl ?_
    refine r_iload_n (pc := 170) dX8_tell_170 rfl ?_
    refine s_VV (pc := 171) mX8_saysName (ci := 8) (a := b0) (As := [.int l1]) dX8_tell_171 lk_X8_407 in_X8_saysName mo_X8_saysName ⟨by decide, rfl⟩ ⟨by decide, by decide⟩ (Nat.le_of_ble_eq_true rfl) k_b0 (mSV_mono K0 (fun y_4 K0 => ?_))
    refine r_aload_n (pc := 174) dX8_tell_174 rfl ?_
    refine r_bipush (pc := 175) (v := 59) dX8_tell_175 (by decide) ?_
    refine s_VV (pc := 177) mX8_says (ci := 8) (a := b0) (As := [.int 59]) dX8_tell_177 lk_X8_401 in_X8_says mo_X8_says ⟨by decide, rfl⟩ ⟨by decide, by decide⟩ (Nat.le_of_ble_eq_true rfl) k_b0 (mSV_mono K0 (fun y_5 K0 => ?_))
    refine r_iinc (pc := 180) (v := l1 + 1) dX8_tell_180 rfl rfl (by decide) ?_
    refine r_goto (pc := 183) (L := [some (.ref b0), some (.int (l1 + 1))]) (tgt := 152) dX8_tell_183 (by decide) ?_
    exact r_le (L' := [some (.ref b0), some (.int (l1 + 1))]) ⟨rfl, ⟨rfl, trivial⟩⟩ K0
set_option maxHeartbeats 2000000 in
theorem v_X8_tell_188 {K : Sh} {x : Cn} {Q : Int32 → Cn → Prop} {b0 : Nat} {l1 : Int32} {b0_1 : Nat} {n_b0_1 : Nat} (k_b0 : kk K b0 = some (8, 0)) (g_b0_1 : gr x b0 1 = some b0_1) (k_b0_1 : kk K b0_1 = some (20, n_b0_1)) (K0 : vp_in 2 n_b0_1 ∧ (((gi x b0_1 2) ≤ l1 → (GI mX8_tell 242 [some (.ref b0), some (.int 0)] [] K x Q)) ∧ (¬ (gi x b0_1 2) ≤ l1 → (mSV mX8_saysCommon [.ref b0, .ref (mSB + 31), .int (62 + (12 * l1)), .int 5] K x (fun y_3 => ∃ c_4 : Nat, gr y_3 b0 3 = some c_4 ∧ (∃ n_7 : Nat, kk K c_4 = some (20, n_7) ∧ ((l24 l1 n_7) ∧ ((¬ (so (gi y_3 c_4) (l1 : Int32).toNatClampNeg 4 = 1) → (mSV mX8_saysText [.ref b0, .ref (mSB + 34)] K y_3 (fun y_10 => GI mX8_tell 188 [some (.ref b0), some (.int (l1 + 1))] [] K y_10 Q))) ∧ ((so (gi y_3 c_4) (l1 : Int32).toNatClampNeg 4 = 1) → (mSV mX8_saysText [.ref b0, .ref (mSB + 33)] K y_3 (fun y_11 => GI mX8_tell 188 [some (.ref b0), some (.int (l1 + 1))] [] K y_11 Q))))))))))) : GI mX8_tell 188 [some (.ref b0), some (.int l1)] [] K x Q := by
  show mGM mX8_tell 188 [some (.ref b0), some (.int l1)] [] (hp K x) (PI K Q)
  refine r_iload_n (pc := 188) dX8_tell_188 rfl ?_
  refine r_aload_n (pc := 189) dX8_tell_189 rfl ?_
  refine s_getR (pc := 190) dX8_tell_190 fl_X8_9 rfl k_b0 g_b0_1 ?_
  refine r_iconst (pc := 193) (v := 2) dX8_tell_193 (by decide) ?_
  obtain ⟨i_1, K0⟩ := K0
  refine s_iald (pc := 194) dX8_tell_194 k_b0_1 i_1 ?_
  refine r_icmp_ge (pc := 195) (tgt := 240) dX8_tell_195 (by decide) (fun q => ?_) (fun q => ?_)
  · have K0 := K0.1 q
    refine r_iconst (pc := 240) (v := 0) dX8_tell_240 (by decide) ?_
    refine r_istore_n (pc := 241) dX8_tell_241 (by decide) ?_
    exact r_le (L' := [some (.ref b0), some (.int 0)]) ⟨rfl, ⟨rfl, trivial⟩⟩ K0
  · have K0 := K0.2 q
    refine r_aload_n (pc := 198) dX8_tell_198 rfl ?_
    refine r_ldcwS (pc := 199) (j := 31) dX8_tell_199 rfl ?_
    refine r_bipush (pc := 202) (v := 62) dX8_tell_202 (by decide) ?_
    refine r_bipush (pc := 204) (v := 12) dX8_tell_204 (by decide) ?_
    refine r_iload_n (pc := 206) dX8_tell_206 rfl ?_
    refine r_imul (pc := 207) dX8_tell_207 ?_
    refine r_iadd (pc := 208) dX8_tell_208 ?_
    refine r_iconst (pc := 209) (v := 5) dX8_tell_209 (by decide) ?_
    refine s_VV (pc := 210) mX8_saysCommon (ci := 8) (a := b0) (As := [.ref (mSB + 31), .int (62 + (12 * l1)), .int 5]) dX8_tell_210 lk_X8_425 in_X8_saysCommon mo_X8_saysCommon ⟨by decide, rfl⟩ ⟨by decide, by decide⟩ (Nat.le_of_ble_eq_true rfl) k_b0 (mSV_mono K0 (fun y_3 K0 => ?_))
    refine r_aload_n (pc := 213) dX8_tell_213 rfl ?_
    refine r_aload_n (pc := 214) dX8_tell_214 rfl ?_
    refine r_iload_n (pc := 215) dX8_tell_215 rfl ?_
    obtain ⟨c_4, g_5, K0⟩ := K0
    obtain ⟨n_7, e_6, K0⟩ := K0
    obtain ⟨p_8, K0⟩ := K0
    refine s_VI (pc := 216) mX8_isNew (ci := 8) (a := b0) (As := [.int l1]) dX8_tell_216 lk_X8_382 in_X8_isNew mo_X8_isNew ⟨by decide, rfl⟩ ⟨by decide, by decide⟩ (Nat.le_of_ble_eq_true rfl) k_b0 (sr_X8_isNew k_b0 g_5 e_6 p_8 ?_)
    refine r_if_eq (pc := 219) (tgt := 228) dX8_tell_219 (by decide) (fun q => ?_) (fun q => ?_)
    · have q := (b2i_z _).mp q
      have K0 := K0.1 q
      refine r_ldcwS (pc := 228) (j := 34) dX8_tell_228 rfl ?_
      refine s_VV (pc := 231) mX8_saysText (ci := 8) (a := b0) (As := [.ref (mSB + 34)]) dX8_tell_231 lk_X8_404 in_X8_saysText mo_X8_saysText ⟨by decide, rfl⟩ ⟨by decide, by decide⟩ (Nat.le_of_ble_eq_true rfl) k_b0 (mSV_mono K0 (fun y_10 K0 => ?_))
      refine r_iinc (pc := 234) (v := l1 + 1) dX8_tell_234 rfl rfl (by decide) ?_
      refine r_goto (pc := 237) (L := [some (.ref b0), some (.int (l1 + 1))]) (tgt := 188) dX8_tell_237 (by decide) ?_
      exact r_le (L' := [some (.ref b0), some (.int (l1 + 1))]) ⟨rfl, ⟨rfl, trivial⟩⟩ K0
    · have q := b2i_nz q
      have K0 := K0.2 q
      refine r_ldcwS (pc := 222) (j := 33) dX8_tell_222 rfl ?_
      refine r_goto (pc := 225) (tgt := 231) dX8_tell_225 (by decide) ?_
      refine s_VV (pc := 231) mX8_saysText (ci := 8) (a := b0) (As := [.ref (mSB + 33)]) dX8_tell_231 lk_X8_404 in_X8_saysText mo_X8_saysText ⟨by decide, rfl⟩ ⟨by decide, by decide⟩ (Nat.le_of_ble_eq_true rfl) k_b0 (mSV_mono K0 (fun y_11 K0 => ?_))
      refine r_iinc (pc := 234) (v := l1 + 1) dX8_tell_234 rfl rfl (by decide) ?_
      refine r_goto (pc := 237) (L := [some (.ref b0), some (.int (l1 + 1))]) (tgt := 188) dX8_tell_237 (by decide) ?_
      exact r_le (L' := [some (.ref b0), some (.int (l1 + 1))]) ⟨rfl, ⟨rfl, trivial⟩⟩ K0
set_option maxHeartbeats 2000000 in
theorem v_X8_tell_242 {K : Sh} {x : Cn} {Q : Int32 → Cn → Prop} {b0 : Nat} {l1 : Int32} {b0_1 : Nat} {n_b0_1 : Nat} (k_b0 : kk K b0 = some (8, 0)) (g_b0_1 : gr x b0 1 = some b0_1) (k_b0_1 : kk K b0_1 = some (20, n_b0_1)) (K0 : vp_in 3 n_b0_1 ∧ (((gi x b0_1 3) ≤ l1 → (Q (gi x b0 22) x)) ∧ (¬ (gi x b0_1 3) ≤ l1 → (mSV mX8_saysCommon [.ref b0, .ref (mSB + 35), .int (350 + (7 * l1)), .int 4] K x (fun y_3 => ∃ c_4 : Nat, gr y_3 b0 3 = some c_4 ∧ (∃ n_7 : Nat, kk K c_4 = some (20, n_7) ∧ ((l24 l1 n_7) ∧ (((ao (gi y_3 c_4) (l1 : Int32).toNatClampNeg 6) ≤ 0 → (((ao (gi y_3 c_4) (l1 : Int32).toNatClampNeg 6) ≤ 0 → (mSV mX8_says [.ref b0, .int 59] K y_3 (fun y_11 => GI mX8_tell 242 [some (.ref b0), some (.int (l1 + 1))] [] K y_11 Q))) ∧ (¬ (ao (gi y_3 c_4) (l1 : Int32).toNatClampNeg 6) ≤ 0 → (mSV mX8_saysNumber [.ref b0, .int (ao (gi y_3 c_4) (l1 : Int32).toNatClampNeg 6)] K y_3 (fun y_12 => mSV mX8_says [.ref b0, .int 59] K y_12 (fun y_13 => GI mX8_tell 242 [some (.ref b0), some (.int (l1 + 1))] [] K y_13 Q)))))) ∧ (¬ (ao (gi y_3 c_4) (l1 : Int32).toNatClampNeg 6) ≤ 0 → (mSV mX8_saysText [.ref b0, .ref (mSB + 36)] K y_3 (fun y_14 => ∃ c_15 : Nat, gr y_14 b0 3 = some c_15 ∧ (∃ n_18 : Nat, kk K c_15 = some (20, n_18) ∧ ((l24 l1 n_18) ∧ (((ao (gi y_14 c_15) (l1 : Int32).toNatClampNeg 6) ≤ 0 → (mSV mX8_says [.ref b0, .int 59] K y_14 (fun y_21 => GI mX8_tell 242 [some (.ref b0), some (.int (l1 + 1))] [] K y_21 Q))) ∧ (¬ (ao (gi y_14 c_15) (l1 : Int32).toNatClampNeg 6) ≤ 0 → (mSV mX8_saysNumber [.ref b0, .int (ao (gi y_14 c_15) (l1 : Int32).toNatClampNeg 6)] K y_14 (fun y_22 => mSV mX8_says [.ref b0, .int 59] K y_22 (fun y_23 => GI mX8_tell 242 [some (.ref b0), some (.int (l1 + 1))] [] K y_23 Q)))))))))))))))))) : GI mX8_tell 242 [some (.ref b0), some (.int l1)] [] K x Q := by
  show mGM mX8_tell 242 [some (.ref b0), some (.int l1)] [] (hp K x) (PI K Q)
  refine r_iload_n (pc := 242) dX8_tell_242 rfl ?_
  refine r_aload_n (pc := 243) dX8_tell_243 rfl ?_
  refine s_getR (pc := 244) dX8_tell_244 fl_X8_9 rfl k_b0 g_b0_1 ?_
  refine r_iconst (pc := 247) (v := 3) dX8_tell_247 (by decide) ?_
  obtain ⟨i_1, K0⟩ := K0
  refine s_iald (pc := 248) dX8_tell_248 k_b0_1 i_1 ?_
  refine r_icmp_ge (pc := 249) (tgt := 318) dX8_tell_249 (by decide) (fun q => ?_) (fun q => ?_)
  · have K0 := K0.1 q
    refine r_aload_n (pc := 318) dX8_tell_318 rfl ?_
    refine s_getI (pc := 319) dX8_tell_319 fl_X8_398 rfl k_b0 ?_
    exact s_iret rfl dX8_tell_322 K0
  · have K0 := K0.2 q
    refine r_aload_n (pc := 252) dX8_tell_252 rfl ?_
    refine r_ldcwS (pc := 253) (j := 35) dX8_tell_253 rfl ?_
    refine r_sipush (pc := 256) (v := 350) dX8_tell_256 (by decide) ?_
    refine r_bipush (pc := 259) (v := 7) dX8_tell_259 (by decide) ?_
    refine r_iload_n (pc := 261) dX8_tell_261 rfl ?_
    refine r_imul (pc := 262) dX8_tell_262 ?_
    refine r_iadd (pc := 263) dX8_tell_263 ?_
    refine r_iconst (pc := 264) (v := 4) dX8_tell_264 (by decide) ?_
    refine s_VV (pc := 265) mX8_saysCommon (ci := 8) (a := b0) (As := [.ref (mSB + 35), .int (350 + (7 * l1)), .int 4]) dX8_tell_265 lk_X8_425 in_X8_saysCommon mo_X8_saysCommon ⟨by decide, rfl⟩ ⟨by decide, by decide⟩ (Nat.le_of_ble_eq_true rfl) k_b0 (mSV_mono K0 (fun y_3 K0 => ?_))
    refine r_aload_n (pc := 268) dX8_tell_268 rfl ?_
    refine r_iload_n (pc := 269) dX8_tell_269 rfl ?_
    refine r_bipush (pc := 270) (v := 6) dX8_tell_270 (by decide) ?_
    obtain ⟨c_4, g_5, K0⟩ := K0
    obtain ⟨n_7, e_6, K0⟩ := K0
    obtain ⟨p_8, K0⟩ := K0
    refine s_VI (pc := 272) mX8_ask0 (ci := 8) (a := b0) (As := [.int l1, .int 6]) dX8_tell_272 lk_X8_284 in_X8_ask0 mo_X8_ask0 ⟨by decide, rfl⟩ ⟨by decide, by decide⟩ (Nat.le_of_ble_eq_true rfl) k_b0 (sr_X8_ask0 k_b0 g_5 e_6 p_8 ⟨by decide, by decide⟩ ?_)
    refine r_if_le (pc := 275) (tgt := 285) dX8_tell_275 (by decide) (fun q => ?_) (fun q => ?_)
    · have K0 := K0.1 q
      refine r_aload_n (pc := 285) dX8_tell_285 rfl ?_
      refine r_iload_n (pc := 286) dX8_tell_286 rfl ?_
      refine r_bipush (pc := 287) (v := 6) dX8_tell_287 (by decide) ?_
      refine s_VI (pc := 289) mX8_ask0 (ci := 8) (a := b0) (As := [.int l1, .int 6]) dX8_tell_289 lk_X8_284 in_X8_ask0 mo_X8_ask0 ⟨by decide, rfl⟩ ⟨by decide, by decide⟩ (Nat.le_of_ble_eq_true rfl) k_b0 (sr_X8_ask0 k_b0 g_5 e_6 p_8 ⟨by decide, by decide⟩ ?_)
      refine r_if_le (pc := 292) (tgt := 306) dX8_tell_292 (by decide) (fun q => ?_) (fun q => ?_)
      · have K0 := K0.1 q
        refine r_aload_n (pc := 306) dX8_tell_306 rfl ?_
        refine r_bipush (pc := 307) (v := 59) dX8_tell_307 (by decide) ?_
        refine s_VV (pc := 309) mX8_says (ci := 8) (a := b0) (As := [.int 59]) dX8_tell_309 lk_X8_401 in_X8_says mo_X8_says ⟨by decide, rfl⟩ ⟨by decide, by decide⟩ (Nat.le_of_ble_eq_true rfl) k_b0 (mSV_mono K0 (fun y_11 K0 => ?_))
        refine r_iinc (pc := 312) (v := l1 + 1) dX8_tell_312 rfl rfl (by decide) ?_
        refine r_goto (pc := 315) (L := [some (.ref b0), some (.int (l1 + 1))]) (tgt := 242) dX8_tell_315 (by decide) ?_
        exact r_le (L' := [some (.ref b0), some (.int (l1 + 1))]) ⟨rfl, ⟨rfl, trivial⟩⟩ K0
      · have K0 := K0.2 q
        refine r_aload_n (pc := 295) dX8_tell_295 rfl ?_
        refine r_aload_n (pc := 296) dX8_tell_296 rfl ?_
        refine r_iload_n (pc := 297) dX8_tell_297 rfl ?_
        refine r_bipush (pc := 298) (v := 6) dX8_tell_298 (by decide) ?_
        refine s_VI (pc := 300) mX8_ask0 (ci := 8) (a := b0) (As := [.int l1, .int 6]) dX8_tell_300 lk_X8_284 in_X8_ask0 mo_X8_ask0 ⟨by decide, rfl⟩ ⟨by decide, by decide⟩ (Nat.le_of_ble_eq_true rfl) k_b0 (sr_X8_ask0 k_b0 g_5 e_6 p_8 ⟨by decide, by decide⟩ ?_)
        refine s_VV (pc := 303) mX8_saysNumber (ci := 8) (a := b0) (As := [.int (ao (gi y_3 c_4) (l1 : Int32).toNatClampNeg 6)]) dX8_tell_303 lk_X8_410 in_X8_saysNumber mo_X8_saysNumber ⟨by decide, rfl⟩ ⟨by decide, by decide⟩ (Nat.le_of_ble_eq_true rfl) k_b0 (mSV_mono K0 (fun y_12 K0 => ?_))
        refine r_aload_n (pc := 306) dX8_tell_306 rfl ?_
        refine r_bipush (pc := 307) (v := 59) dX8_tell_307 (by decide) ?_
        refine s_VV (pc := 309) mX8_says (ci := 8) (a := b0) (As := [.int 59]) dX8_tell_309 lk_X8_401 in_X8_says mo_X8_says ⟨by decide, rfl⟩ ⟨by decide, by decide⟩ (Nat.le_of_ble_eq_true rfl) k_b0 (mSV_mono K0 (fun y_13 K0 => ?_))
        refine r_iinc (pc := 312) (v := l1 + 1) dX8_tell_312 rfl rfl (by decide) ?_
        refine r_goto (pc := 315) (L := [some (.ref b0), some (.int (l1 + 1))]) (tgt := 242) dX8_tell_315 (by decide) ?_
        exact r_le (L' := [some (.ref b0), some (.int (l1 + 1))]) ⟨rfl, ⟨rfl, trivial⟩⟩ K0
    · have K0 := K0.2 q
      refine r_aload_n (pc := 278) dX8_tell_278 rfl ?_
      refine r_ldcwS (pc := 279) (j := 36) dX8_tell_279 rfl ?_
      refine s_VV (pc := 282) mX8_saysText (ci := 8) (a := b0) (As := [.ref (mSB + 36)]) dX8_tell_282 lk_X8_404 in_X8_saysText mo_X8_saysText ⟨by decide, rfl⟩ ⟨by decide, by decide⟩ (Nat.le_of_ble_eq_true rfl) k_b0 (mSV_mono K0 (fun y_14 K0 => ?_))
      refine r_aload_n (pc := 285) dX8_tell_285 rfl ?_
      refine r_iload_n (pc := 286) dX8_tell_286 rfl ?_
      refine r_bipush (pc := 287) (v := 6) dX8_tell_287 (by decide) ?_
      obtain ⟨c_15, g_16, K0⟩ := K0
      obtain ⟨n_18, e_17, K0⟩ := K0
      obtain ⟨p_19, K0⟩ := K0
      refine s_VI (pc := 289) mX8_ask0 (ci := 8) (a := b0) (As := [.int l1, .int 6]) dX8_tell_289 lk_X8_284 in_X8_ask0 mo_X8_ask0 ⟨by decide, rfl⟩ ⟨by decide, by decide⟩ (Nat.le_of_ble_eq_true rfl) k_b0 (sr_X8_ask0 k_b0 g_16 e_17 p_19 ⟨by decide, by decide⟩ ?_)
      refine r_if_le (pc := 292) (tgt := 306) dX8_tell_292 (by decide) (fun q => ?_) (fun q => ?_)
      · have K0 := K0.1 q
        refine r_aload_n (pc := 306) dX8_tell_306 rfl ?_
        refine r_bipush (pc := 307) (v := 59) dX8_tell_307 (by decide) ?_
        refine s_VV (pc := 309) mX8_says (ci := 8) (a := b0) (As := [.int 59]) dX8_tell_309 lk_X8_401 in_X8_says mo_X8_says ⟨by decide, rfl⟩ ⟨by decide, by decide⟩ (Nat.le_of_ble_eq_true rfl) k_b0 (mSV_mono K0 (fun y_21 K0 => ?_))
        refine r_iinc (pc := 312) (v := l1 + 1) dX8_tell_312 rfl rfl (by decide) ?_
        refine r_goto (pc := 315) (L := [some (.ref b0), some (.int (l1 + 1))]) (tgt := 242) dX8_tell_315 (by decide) ?_
        exact r_le (L' := [some (.ref b0), some (.int (l1 + 1))]) ⟨rfl, ⟨rfl, trivial⟩⟩ K0
      · have K0 := K0.2 q
        refine r_aload_n (pc := 295) dX8_tell_295 rfl ?_
        refine r_aload_n (pc := 296) dX8_tell_296 rfl ?_
        refine r_iload_n (pc := 297) dX8_tell_297 rfl ?_
        refine r_bipush (pc := 298) (v := 6) dX8_tell_298 (by decide) ?_
        refine s_VI (pc := 300) mX8_ask0 (ci := 8) (a := b0) (As := [.int l1, .int 6]) dX8_tell_300 lk_X8_284 in_X8_ask0 mo_X8_ask0 ⟨by decide, rfl⟩ ⟨by decide, by decide⟩ (Nat.le_of_ble_eq_true rfl) k_b0 (sr_X8_ask0 k_b0 g_16 e_17 p_19 ⟨by decide, by decide⟩ ?_)
        refine s_VV (pc := 303) mX8_saysNumber (ci := 8) (a := b0) (As := [.int (ao (gi y_14 c_15) (l1 : Int32).toNatClampNeg 6)]) dX8_tell_303 lk_X8_410 in_X8_saysNumber mo_X8_saysNumber ⟨by decide, rfl⟩ ⟨by decide, by decide⟩ (Nat.le_of_ble_eq_true rfl) k_b0 (mSV_mono K0 (fun y_22 K0 => ?_))
        refine r_aload_n (pc := 306) dX8_tell_306 rfl ?_
        refine r_bipush (pc := 307) (v := 59) dX8_tell_307 (by decide) ?_
        refine s_VV (pc := 309) mX8_says (ci := 8) (a := b0) (As := [.int 59]) dX8_tell_309 lk_X8_401 in_X8_says mo_X8_says ⟨by decide, rfl⟩ ⟨by decide, by decide⟩ (Nat.le_of_ble_eq_true rfl) k_b0 (mSV_mono K0 (fun y_23 K0 => ?_))
        refine r_iinc (pc := 312) (v := l1 + 1) dX8_tell_312 rfl rfl (by decide) ?_
        refine r_goto (pc := 315) (L := [some (.ref b0), some (.int (l1 + 1))]) (tgt := 242) dX8_tell_315 (by decide) ?_
        exact r_le (L' := [some (.ref b0), some (.int (l1 + 1))]) ⟨rfl, ⟨rfl, trivial⟩⟩ K0
section
theorem sp_X8_tell_1 {x : Cn} {Q : Int32 → Cn → Prop} {T : TT} {W C S A N : Nat} (M : MRf x 718) (hT : gi x 718 = T) (F : WF T W C S A N) (hW : 0 < W) (hnm : ∀ c, c < C → ∃ v, (0 < v ∧ v < 387420489) ∧ T (54 + c) = nI v) (k : ∀ y, OFr x y → OR y (tl4 T W C S A) 2346 → Q (nI (tl4 T W C S A).length) y) : mSI mX8_tell [.ref 717] KW x Q := by
  have hW30 : W ≤ 30 := F.2.2.1
  have hC : C ≤ 8 := F.2.2.2.2.1
  have hS : S ≤ 24 := F.2.2.2.2.2.2.1
  have hA : A ≤ 24 := F.2.2.2.2.2.2.2.2.1
  have Mg : ∀ y : Cn, OFr x y → MRf y 718 := fun y fy => M.keep fy.1
  have tg : ∀ y : Cn, OFr x y → gi y 718 = T := fun y fy => by rw [← hT]; funext i; exact fy.2 718 i (by decide) (by omega)
  have l4 : ∀ y, OFr x y → OR y (tl3 T W C S) 1482 → GI mX8_tell 242 [some (.ref 717), some (.int 0)] [] KW y Q := by
    intro y fy wy
    refine lp_acc (fun a l => l ++ askS T a) (fun a l => ∀ z, OFr x z → OR z l (1482 + 36 * a) → GI mX8_tell 242 [some (.ref 717), some (.int (nI a))] [] KW z Q) A (tl3 T W C S) ?_ (fun a l ha n1 => ?_) y fy wy
    · intro z fz wz
      refine v_X8_tell_242 km (Mg z fz).1 km1 ⟨v0 (k := 3) (by decide) rfl rfl, fun _ => ?_, fun u => absurd (by rw [tg z fz, F.2.2.2.2.2.2.2.1]; exact Int32.le_refl _) u⟩
      rw [wz.1]
      exact k z fz (wz.le (by omega))
    · intro z fz wz
      obtain ⟨⟨cr, hc, ec⟩, ⟨d, hd, ed⟩, ⟨h, hh, eh⟩, -, ⟨f, t, f1, f2, f3, f4⟩, ⟨b, hb9, eb⟩⟩ := F.2.2.2.2.2.2.2.2.2.2.2.2.2 a ha
      obtain ⟨v, ⟨hv0, hv1⟩, hv2⟩ := hnm cr hc
      have ea : askS T a = askP v d h (ao T a 3) f t b := by
        unfold askS nmv
        rw [ec, ed, eh, f3, f4, eb, nI_clamp (by omega), nI_clamp (by omega), nI_clamp (by omega), nI_clamp (by omega), nI_clamp (by omega), nI_clamp (by omega), hv2, nI_clamp (by omega)]
      have ib : (350 : Int32) + 7 * nI a = nI (350 + 7 * a) := by
        have := ix2 a (v := 0) 0 rfl
        rw [Int32.add_zero] at this
        exact this
      refine v_X8_tell_242 km (Mg z fz).1 km1 ⟨v0 (k := 3) (by decide) rfl rfl, fun u => absurd (by rw [tg z fz, F.2.2.2.2.2.2.2.1] at u; exact u) (nI_ge ha (by omega)), fun _ => ?_⟩
      rw [ib, nI_1]
      refine sp_X8_saysCommon (j := 35) (m := 4) (f0 := 4) (way := ao T a 3) T (tg z fz) (by omega) (by decide) ec ed eh rfl f3 f4 (by omega) hv1 hv2 hd (by omega) (by omega) (by omega) (by decide) (by decide) (Mg z fz) wz (by omega) (fun y1 g1 w1 => ⟨718, (Mg y1 (fz.tr g1)).2.2.1, 518, km1, l24_nI (by omega) rfl, ?_⟩)
      rw [tg y1 (fz.tr g1), nI_clamp (by omega), eb, show nI b ≤ 0 ↔ b ≤ 0 from nI_leI (b := 0) (by omega) (by decide)]
      have fin : ∀ (y2 : Cn) B2, OFr x y2 → OR y2 (l ++ comP (wd 35) v d h (ao T a 3) f t ++ (if b = 0 then [] else wd 36 ++ numL b)) B2 → B2 + 1 ≤ 1482 + 36 * (a + 1) → mSV mX8_says [.ref 717, .int 59] KW y2 (fun y_11 => GI mX8_tell 242 [some (.ref 717), some (.int (nI (a + 1)))] [] KW y_11 Q) := by
        intro y2 B2 G2 w2 hB2
        refine sp_X8_says (n := 59) (by decide) (Mg y2 G2) w2 (by omega) (fun y3 g3 w3 => n1 _ rfl y3 (G2.tr g3) ?_)
        have e : l ++ comP (wd 35) v d h (ao T a 3) f t ++ (if b = 0 then [] else wd 36 ++ numL b) ++ [59] = l ++ askS T a := by
          rw [ea]
          simp only [askP, List.append_assoc]
        rw [e] at w3
        exact w3.le (by omega)
      have G1 := fz.tr g1
      refine ⟨fun u => ⟨fun _ => fin y1 _ G1 (by rw [if_pos (by omega), List.append_nil]; exact w1) (by omega), fun u2 => absurd u u2⟩, fun u => sp_X8_saysText (j := 36) (m := 4) (mSq_at (by decide)) (by decide) (Mg y1 G1) w1 (by omega) (fun y2 g2 w2 => ⟨718, (Mg y2 (G1.tr g2)).2.2.1, 518, km1, l24_nI (by omega) rfl, ?_⟩)⟩
      rw [tg y2 (G1.tr g2), eb, show nI b ≤ 0 ↔ b ≤ 0 from nI_leI (b := 0) (by omega) (by decide)]
      refine ⟨fun u2 => absurd u2 u, fun _ => sp_X8_saysNumber (n := b) (by omega) (Mg y2 (G1.tr g2)) w2 (by omega) (fun y3 g3 w3 => fin y3 (1482 + 36 * a + 23 + 4 + 4 + 2) (G1.tr (g2.tr g3)) ?_ (by omega))⟩
      rw [if_neg (by omega), ← List.append_assoc]
      exact w3
  have l3 : ∀ y, OFr x y → OR y (tl2 T W C) 594 → GI mX8_tell 188 [some (.ref 717), some (.int 0)] [] KW y Q := by
    intro y fy wy
    refine lp_acc (fun s l => l ++ serT T s) (fun s l => ∀ z, OFr x z → OR z l (594 + 37 * s) → GI mX8_tell 188 [some (.ref 717), some (.int (nI s))] [] KW z Q) S (tl2 T W C) ?_ (fun s l hs n1 => ?_) y fy wy
    · intro z fz wz
      exact v_X8_tell_188 km (Mg z fz).1 km1 ⟨v0 (k := 2) (by decide) rfl rfl, fun _ => l4 z fz (wz.le (by omega)), fun u => absurd (by rw [tg z fz, F.2.2.2.2.2.1]; exact Int32.le_refl _) u⟩
    · intro z fz wz
      obtain ⟨⟨cr, hc, ec⟩, ⟨d, hd, ed⟩, ⟨h, hh, eh⟩, -, o4, ⟨f, t, f1, f2, f3, f4⟩, -⟩ := F.2.2.2.2.2.2.2.2.2.2.2.2.1 s hs
      obtain ⟨v, ⟨hv0, hv1⟩, hv2⟩ := hnm cr hc
      have es : serT T s = serP v d h (so T s 3) f t (so T s 4) := by
        unfold serT nmv
        rw [ec, ed, eh, f3, f4, nI_clamp (by omega), nI_clamp (by omega), nI_clamp (by omega), nI_clamp (by omega), nI_clamp (by omega), hv2, nI_clamp (by omega)]
      have ib : (62 : Int32) + 12 * nI s = nI (62 + 12 * s) := by
        have := ix1 s (v := 0) 0 rfl
        rw [Int32.add_zero] at this
        exact this
      refine v_X8_tell_188 km (Mg z fz).1 km1 ⟨v0 (k := 2) (by decide) rfl rfl, fun u => absurd (by rw [tg z fz, F.2.2.2.2.2.1] at u; exact u) (nI_ge hs (by omega)), fun _ => ?_⟩
      rw [ib, nI_1]
      refine sp_X8_saysCommon (j := 31) (m := 7) (f0 := 5) (way := so T s 3) T (tg z fz) (by omega) (by decide) ec ed eh rfl f3 f4 (by omega) hv1 hv2 hd (by omega) (by omega) (by omega) (by decide) (by decide) (Mg z fz) wz (by omega) (fun y1 g1 w1 => ⟨718, (Mg y1 (fz.tr g1)).2.2.1, 518, km1, l24_nI (by omega) rfl, ?_⟩)
      have G1 := fz.tr g1
      rw [tg y1 G1, nI_clamp (by omega)]
      refine ⟨fun u => sp_X8_saysText (j := 34) (m := 1) (mSq_at (by decide)) (by decide) (Mg y1 G1) w1 (by omega) (fun y2 g2 w2 => n1 _ rfl y2 (G1.tr g2) ?_), fun u => sp_X8_saysText (j := 33) (m := 5) (mSq_at (by decide)) (by decide) (Mg y1 G1) w1 (by omega) (fun y2 g2 w2 => n1 _ rfl y2 (G1.tr g2) ?_)⟩
      · rw [es]
        unfold serP
        rw [if_neg u, ← List.append_assoc]
        exact w2.le (by omega)
      · rw [es]
        unfold serP
        rw [if_pos u, ← List.append_assoc]
        exact w2.le (by omega)
  have l2 : ∀ y, OFr x y → OR y (tl1 T W) 466 → GI mX8_tell 152 [some (.ref 717), some (.int 0)] [] KW y Q := by
    intro y fy wy
    refine lp_acc (fun c l => l ++ carP (nmv T c)) (fun cr l => ∀ z, OFr x z → OR z l (466 + 16 * cr) → GI mX8_tell 152 [some (.ref 717), some (.int (nI cr))] [] KW z Q) C (tl1 T W) ?_ (fun cr l hc n1 => ?_) y fy wy
    · intro z fz wz
      exact v_X8_tell_152 km (Mg z fz).1 km1 ⟨v0 (k := 1) (by decide) rfl rfl, fun _ => l3 z fz (wz.le (by omega)), fun u => absurd (by rw [tg z fz, F.2.2.2.1]; exact Int32.le_refl _) u⟩
    · intro z fz wz
      obtain ⟨v, ⟨hv0, hv1⟩, hv2⟩ := hnm cr hc
      have ec : nmv T cr = v := by
        unfold nmv
        rw [hv2, nI_clamp (by omega)]
      refine v_X8_tell_152 km (Mg z fz).1 km1 ⟨v0 (k := 1) (by decide) rfl rfl, fun u => absurd (by rw [tg z fz, F.2.2.2.1] at u; exact u) (nI_ge hc (by omega)), fun _ => ?_⟩
      rw [nI_1]
      refine sp_X8_saysText (j := 30) (m := 8) (mSq_at (by decide)) (by decide) (Mg z fz) wz (by omega) (fun y1 g1 w1 => sp_X8_saysName (v := v) (by omega) hv1 (by rw [tg y1 (fz.tr g1)]; exact hv2) (Mg y1 (fz.tr g1)) w1 (by omega) (fun y2 g2 w2 => sp_X8_says (n := 59) (by decide) (Mg y2 (fz.tr (g1.tr g2))) w2 (by omega) (fun y3 g3 w3 => n1 _ rfl y3 (fz.tr (g1.tr (g2.tr g3))) ?_)))
      have e : l ++ wq (mSq 30) ++ nmL v ++ [59] = l ++ carP (nmv T cr) := by
        rw [ec]
        simp only [carP, List.append_assoc]
      rw [e] at w3
      exact w3.le (by omega)
  have l1 : ∀ y, OFr x y → OR y (tl0 W) 10 → GI mX8_tell 40 [some (.ref 717), some (.int 0)] [] KW y Q := by
    intro y fy wy
    refine lp_acc (fun h l => l ++ limT T h) (fun h l => ∀ z, OFr x z → OR z l (10 + 19 * h) → GI mX8_tell 40 [some (.ref 717), some (.int (nI h))] [] KW z Q) 24 (tl0 W) ?_ (fun h l hh n1 => ?_) y fy wy
    · intro z fz wz
      exact v_X8_tell_40 km (Mg z fz).1 km1 ⟨fun _ => l2 z fz wz, fun u => absurd (Int32.le_refl _) u⟩
    · intro z fz wz
      obtain ⟨a, b, ha, hb', ea, eb⟩ := F.2.2.2.2.2.2.2.2.2.2.2.1 h hh
      have put : ¬ (T (6 + 2 * h) = 4 ∧ T (7 + 2 * h) = 4) → mSV mX8_saysText [.ref 717, .ref (mSB + 28)] KW z (fun y_4 => mSV mX8_saysNumber [.ref 717, .int (nI h)] KW y_4 (fun y_5 => mSV mX8_says [.ref 717, .int 32] KW y_5 (fun y_6 => gr y_6 717 1 = some 718 ∧ mSV mX8_saysNumber [.ref 717, .int (gi y_6 718 (6 + 2 * h))] KW y_6 (fun y_8 => mSV mX8_saysText [.ref 717, .ref (mSB + 29)] KW y_8 (fun y_9 => gr y_9 717 1 = some 718 ∧ mSV mX8_saysNumber [.ref 717, .int (gi y_9 718 (7 + 2 * h))] KW y_9 (fun y_12 => mSV mX8_says [.ref 717, .int 59] KW y_12 (fun y_13 => GI mX8_tell 40 [some (.ref 717), some (.int (nI (h + 1)))] [] KW y_13 Q))))))) := by
        intro hne
        have el : limT T h = limP h a b := by
          unfold limT
          rw [if_neg hne, ea, eb, nI_clamp (by omega), nI_clamp (by omega)]
        refine sp_X8_saysText (j := 28) (m := 6) (mSq_at (by decide)) (by decide) (Mg z fz) wz (by omega) (fun y1 g1 w1 => sp_X8_saysNumber (n := h) (by omega) (Mg y1 (fz.tr g1)) w1 (by omega) (fun y2 g2 w2 => sp_X8_says (n := 32) (by decide) (Mg y2 (fz.tr (g1.tr g2))) w2 (by omega) (fun y3 g3 w3 => ⟨(Mg y3 (fz.tr (g1.tr (g2.tr g3)))).1, ?_⟩)))
        have G3 := fz.tr (g1.tr (g2.tr g3))
        rw [tg y3 G3, ea]
        refine sp_X8_saysNumber (n := a) (by omega) (Mg y3 G3) w3 (by omega) (fun y4 g4 w4 => sp_X8_saysText (j := 29) (m := 4) (mSq_at (by decide)) (by decide) (Mg y4 (G3.tr g4)) w4 (by omega) (fun y5 g5 w5 => ⟨(Mg y5 (G3.tr (g4.tr g5))).1, ?_⟩))
        have G5 := G3.tr (g4.tr g5)
        rw [tg y5 G5, eb]
        refine sp_X8_saysNumber (n := b) (by omega) (Mg y5 G5) w5 (by omega) (fun y6 g6 w6 => sp_X8_says (n := 59) (by decide) (Mg y6 (G5.tr g6)) w6 (by omega) (fun y7 g7 w7 => n1 _ rfl y7 (G5.tr (g6.tr g7)) ?_))
        have e : l ++ wq (mSq 28) ++ numL h ++ [32] ++ numL a ++ wq (mSq 29) ++ numL b ++ [59] = l ++ limT T h := by
          rw [el]
          simp only [limP, List.append_assoc]
        rw [e] at w7
        exact w7.le (by omega)
      refine v_X8_tell_40 km (Mg z fz).1 km1 ⟨fun u => absurd u (nI_ge (b := 24) hh (by decide)), fun _ => ?_⟩
      rw [ixh1, ixh, nI_clamp (show 6 + 2 * h < 2 ^ 31 by omega), nI_clamp (show 7 + 2 * h < 2 ^ 31 by omega), nI_1, tg z fz]
      have i7 : vp_in (nI (7 + 2 * h)) 518 := vp_in_nI (by omega) (by decide)
      refine ⟨vp_in_nI (by omega) (by decide), fun u => mSV_mono (put (fun g => u g.1)) (fun y1 q1 => mSV_mono q1 (fun y2 q2 => mSV_mono q2 (fun y3 q3 => ⟨q3.1, mSV_mono q3.2 (fun y4 q4 => mSV_mono q4 (fun y5 q5 => ⟨q5.1, i7, q5.2⟩))⟩))), fun u => ⟨i7, fun u2 => put (fun g => u2 g.2), fun u2 => ?_⟩⟩
      have el : limT T h = [] := by
        unfold limT
        rw [if_pos ⟨u, u2⟩]
      exact n1 l (by rw [el, List.append_nil]) z fz (wz.le (by omega))
  have w0 : OR (ui x 717 22 0) [] 0 := ⟨by rw [gi_ui, if_pos ⟨rfl, rfl⟩]; rfl, fun i hi => absurd hi (Nat.not_lt_zero _), Nat.le_refl _⟩
  have f0 : OFr x (ui x 717 22 0) := ⟨rfl, fun a j a1 a2 => by rw [gi_ui, if_neg a2]⟩
  have gW : gi x 718 0 = nI W := by rw [hT]; exact F.1
  refine v_X8_tell_0 km M.1 km1 ⟨v0 (k := 0) (by decide) rfl rfl, fun _ => sp_X8_saysText (j := 27) (m := 6) (mSq_at (by decide)) (by decide) (Mg _ f0) w0 (by omega) (fun y1 f1 w1 => ⟨(Mg _ (f0.tr f1)).1, ?_⟩), fun u => absurd (by rw [gW]; exact nI_lt (a := 0) hW (by omega)) u⟩
  rw [tg _ (f0.tr f1), F.1]
  refine sp_X8_saysNumber (by omega) (Mg _ (f0.tr f1)) w1 (by omega) (fun y2 f2 w2 => sp_X8_says (n := 59) (by decide) (Mg _ (f0.tr (f1.tr f2))) w2 (by omega) (fun y3 f3 w3 => l1 y3 (f0.tr (f1.tr (f2.tr f3))) ?_))
  have e : [] ++ wq (mSq 27) ++ numL W ++ [59] = tl0 W := by
    simp only [tl0, List.nil_append]
  rw [e] at w3
  exact w3.le (by omega)
end
set_option maxHeartbeats 2000000 in
theorem v_X7_tell_0 {K : Sh} {x : Cn} {Q : Int32 → Cn → Prop} {b0 : Nat} {b0_2 : Nat} {b0_10 : Nat} {b0_3 : Nat} (k_b0 : kk K b0 = some (7, 0)) (g_b0_2 : gr x b0 2 = some b0_2) (k_b0_2 : kk K b0_2 = some (4, 0)) (g_b0_10 : gr x b0 10 = some b0_10) (g_b0_3 : gr x b0 3 = some b0_3) (k_b0_10 : kk K b0_10 = some (6, 0)) (K0 : ((0 < gi x b0_2 0) → (mSI mX6_write [.ref b0_10, .ref b0_2, .ref b0_3] K x (fun r_3 y_2 => Q r_3 y_2))) ∧ (¬ (0 < gi x b0_2 0) → (Q (-2) x))) : mSI mX7_tell [.ref b0] K x Q := by
  refine s_I (by decide) (by simp [Value.category]) (Nat.le_of_ble_eq_true rfl) ?_
  show mGM mX7_tell 0 [some (.ref b0)] [] (hp K x) (PI K Q)
  refine r_aload_n (pc := 0) dX7_tell_0 rfl ?_
  refine s_VI (pc := 1) mX7_hasText (ci := 7) (a := b0) (As := []) dX7_tell_1 lk_X7_121 in_X7_hasText mo_X7_hasText ⟨by decide, rfl⟩ ⟨by decide, by decide⟩ (Nat.le_of_ble_eq_true rfl) k_b0 (sp_X7_hasText k_b0 g_b0_2 k_b0_2 ?_)
  refine r_if_ne (pc := 4) (tgt := 10) dX7_tell_4 (by decide) (fun q => ?_) (fun q => ?_)
  · have q := b2i_nz q
    have K0 := K0.1 q
    refine r_aload_n (pc := 10) dX7_tell_10 rfl ?_
    refine s_getR (pc := 11) dX7_tell_11 fl_X7_61 rfl k_b0 g_b0_10 ?_
    refine r_aload_n (pc := 14) dX7_tell_14 rfl ?_
    refine s_getR (pc := 15) dX7_tell_15 fl_X7_20 rfl k_b0 g_b0_2 ?_
    refine r_aload_n (pc := 18) dX7_tell_18 rfl ?_
    refine s_getR (pc := 19) dX7_tell_19 fl_X7_27 rfl k_b0 g_b0_3 ?_
    refine s_VI (pc := 22) mX6_write (ci := 6) (a := b0_10) (As := [.ref b0_2, .ref b0_3]) dX7_tell_22 lk_X7_379 in_X6_write mo_X6_write ⟨by decide, rfl⟩ ⟨by decide, by decide⟩ (Nat.le_of_ble_eq_true rfl) k_b0_10 (mSI_mono K0 (fun r_3 y_2 K0 => ?_))
    exact s_iret rfl dX7_tell_25 K0
  · have q := (b2i_z _).mp q
    have K0 := K0.2 q
    refine r_bipush (pc := 7) (v := (-2)) dX7_tell_7 (by decide) ?_
    exact s_iret rfl dX7_tell_9 K0
theorem eq_tell : Both mX7_tell mX8_tell [] := by
  intro x R
  obtain ⟨W, C, S, A, N, E, nm, hs⟩ := R.sea
  have hn := E.nums
  have hW30 : W ≤ 30 := hn.2.2.2.2.1
  have t0 := (Rel.t2 E).1
  have c1 := R.1
  refine v_X7_tell_0 k0 R.1.2.1 (ks0 E.1) R.1.c10 R.1.2.2.1 k175 ?_
  rw [hn.1]
  refine ⟨fun z => sp_X6_write R.1 E nm (fun y fy wy => ?_), fun z => v_X8_tell_0 km R.2.1.1 km1 ⟨v0 (k := 0) (by decide) rfl rfl, fun u => absurd (by rw [t0] at u; exact u) z, fun _ => ⟨rfl, R⟩⟩⟩
  have hW : 0 < W := (nI_ltI (a := 0) (b := W) (by decide) (by omega)).mp z
  have My : MRf y 718 := R.2.1.keep fy.1
  have e718 : gi y 718 = gi x 718 := funext (fun i => fy.2 718 i (by decide) (by omega))
  refine sp_X8_tell_1 My e718 E.2.2.2 hW (fun c hc => by obtain ⟨v, h1, h2, -⟩ := nm.2 c hc; exact ⟨v, h1, h2⟩) (fun u fu wu => ⟨rfl, ?_⟩)
  have eq : ∀ a j, a ≠ 176 → ¬ (a = 175 ∧ j = 1) → a ≠ 725 → ¬ (a = 717 ∧ j = 22) → gi u a j = gi x a j := fun a j a1 a2 a3 a4 => (fu.2 a j a3 a4).trans (fy.2 a j a1 a2)
  have er : u.2 = x.2 := fu.1.trans fy.1
  have e8 : gi u 718 = gi x 718 := funext (fun i => eq 718 i (by decide) (by omega) (by decide) (by omega))
  refine ⟨R.1.keep er, R.2.1.keep er, ⟨?_, ?_⟩, R.2.2.2.1.keep (eq 0 1 (by decide) (by omega) (by decide) (by omega)) (eq 717 5 (by decide) (by omega) (by decide) (by omega)) (fun i => eq 1 i (by decide) (by omega) (by decide) (by omega)) (fun i => eq 720 i (by decide) (by omega) (by decide) (by omega)), ⟨(tl4 (gi x 718) W C S A).length, ?_, ?_, wu.1, fun i hi => ?_⟩, W, C, S, A, N, ?_, ?_, ?_⟩
  · trivial
  · trivial
  · have := wy.2.2; omega
  · rw [fu.2 175 1 (by decide) (by omega)]; exact wy.1
  · rw [fu.2 176 i (by decide) (by omega), (wy.2.1 i hi).1, (wu.2.1 i hi).1]
  · rw [e8]; exact E.keep er (fun a j a1 a2 _ => eq a j (by omega) (by omega) (by omega) (by omega))
  · rw [e8]; exact nm.keep (eq 56 0 (by decide) (by omega) (by decide) (by omega)) (fun i => eq 57 i (by decide) (by omega) (by decide) (by omega)) (fun _ _ => rfl)
  · rw [e8]; exact hs.keep c1 er (eq 717 19 (by decide) (by omega) (by decide) (by omega)) (eq 0 5 (by decide) (by omega) (by decide) (by omega)) (fun a j a1 a2 => eq a j (by omega) (by omega) (by omega) (by omega)) (fun i => eq 724 i (by decide) (by omega) (by decide) (by omega)) (fun _ _ => rfl)
end
/-! 62.feed.lean.txt -/
section
def bv (v : Int32) (s : Nat) : Int32 := ((v >>> (nI s &&& 31)).toInt8.toInt32).toInt8.toInt32
theorem i8_rt (a : Int8) : a.toInt32.toInt8 = a := by simp
theorem sh8 (v : Int32) {s : Nat} (hs : s < 25) : ((v.toUInt32 >>> ((nI s).toUInt32 &&& Int32.toUInt32 31)).toInt32).toInt8 = (v >>> (nI s &&& 31)).toInt8 := by
  apply Int8.toBitVec_inj.mp
  have e1 := sh_amt s (by omega)
  have e2 := sh_amt2 s (by omega)
  rw [Int32.toBitVec_toInt8, Int32.toBitVec_toInt8, UInt32.toBitVec_toInt32, UInt32.toBitVec_shiftRight, Int32.toBitVec_shiftRight, BitVec.sshiftRight_eq', BitVec.ushiftRight_eq', e1, e2]
  apply BitVec.eq_of_getLsbD_eq
  intro i hi
  rw [BitVec.getLsbD_signExtend, BitVec.getLsbD_signExtend, if_pos (by omega), if_pos (by omega), BitVec.getLsbD_ushiftRight, BitVec.getLsbD_sshiftRight, if_pos (by omega), decide_eq_false (show ¬ 32 ≤ i by omega)]
  rfl
theorem bv_is (v : Int32) (s : Nat) : isB (bv v s) := by
  unfold isB bv
  rw [i8_rt]
theorem k1t : kk KW 1 = some (21, 1200) := by decide
theorem km720 : kk KW 720 = some (21, 1200) := by decide
/-- four bytes more -/
def uB (b : TT) (n : Nat) (v : Int32) : TT := fun i => if n ≤ i ∧ i < n + 4 then bv v (24 - 8 * (i - n)) else b i
def CT (y : Cn) (b : TT) (m : Nat) : Prop := gi y 0 1 = nI m ∧ ∀ i, i < m → gi y 1 i = b i
def RT (y : Cn) (b : TT) (m : Nat) : Prop := gi y 717 5 = nI m ∧ ∀ i, i < m → gi y 720 i = b i
def CTf (x y : Cn) : Prop := y.2 = x.2 ∧ ∀ a k, a ≠ 1 → ¬ (a = 0 ∧ k = 1) → gi y a k = gi x a k
def RTf (x y : Cn) : Prop := y.2 = x.2 ∧ ∀ a k, a ≠ 720 → ¬ (a = 717 ∧ k = 5) → gi y a k = gi x a k
theorem CTf.rf (x : Cn) : CTf x x := ⟨rfl, fun _ _ _ _ => rfl⟩
theorem RTf.rf (x : Cn) : RTf x x := ⟨rfl, fun _ _ _ _ => rfl⟩
theorem CTf.tr {x y z : Cn} (h : CTf x y) (g : CTf y z) : CTf x z := ⟨g.1.trans h.1, fun a k a1 a2 => (g.2 a k a1 a2).trans (h.2 a k a1 a2)⟩
theorem RTf.tr {x y z : Cn} (h : RTf x y) (g : RTf y z) : RTf x z := ⟨g.1.trans h.1, fun a k a1 a2 => (g.2 a k a1 a2).trans (h.2 a k a1 a2)⟩
theorem nm8 (s : Nat) (h : 8 ≤ s) : nI s + (-8) = nI (s - 8) := by
  rw [show nI s + (-8) = nI s - nI 8 from (Int32.sub_eq_add_neg _ _).symm]
  exact pk_sub h
set_option maxHeartbeats 2000000 in
theorem v_X7_putOnTape_0 {K : Sh} {x : Cn} {Q : Cn → Prop} {b0 : Nat} {l1 : Int32}   (K0 : GV mX7_putOnTape 3 [some (.ref b0), some (.int l1), some (.int 24)] [] K x Q) : mSV mX7_putOnTape [.ref b0, .int l1] K x Q := by
  refine s_V (by decide) (by simp [Value.category]) (Nat.le_of_ble_eq_true rfl) ?_
  show mGM mX7_putOnTape 0 [some (.ref b0), some (.int l1), none] [] (hp K x) (PV K Q)
  refine r_bipush (pc := 0) (v := 24) dX7_putOnTape_0 (by decide) ?_
  refine r_istore_n (pc := 2) dX7_putOnTape_2 (by decide) ?_
  exact r_le (L' := [some (.ref b0), some (.int l1), some (.int 24)]) ⟨rfl, ⟨rfl, ⟨rfl, trivial⟩⟩⟩ K0
set_option maxHeartbeats 2000000 in
theorem v_X7_putOnTape_3 {K : Sh} {x : Cn} {Q : Cn → Prop} {b0 : Nat} {l1 : Int32} {l2 : Int32} {b0_0 : Nat} {n_b0_0 : Nat} (k_b0 : kk K b0 = some (7, 0)) (g_b0_0 : gr x b0 0 = some b0_0) (k_b0_0 : kk K b0_0 = some (21, n_b0_0)) (K0 : (l2 < 0 → (Q x)) ∧ (¬ l2 < 0 → ((1200 ≤ (gi x b0 1) → (GV mX7_putOnTape 3 [some (.ref b0), some (.int l1), some (.int (l2 + (-8)))] [] K x Q)) ∧ (¬ 1200 ≤ (gi x b0 1) → (vp_in (gi x b0 1) n_b0_0 ∧ (∀ r_4 : Int32, r_4 = gi (ui x b0_0 ((gi x b0 1) : Int32).toNatClampNeg (((((l1 : Int32).toUInt32 >>> ((l2 : Int32).toUInt32 &&& Int32.toUInt32 31)).toInt32 : Int32).toInt8.toInt32 : Int32).toInt8.toInt32)) b0 1 → (GV mX7_putOnTape 3 [some (.ref b0), some (.int l1), some (.int (l2 + (-8)))] [] K (ui (ui x b0_0 ((gi x b0 1) : Int32).toNatClampNeg (((((l1 : Int32).toUInt32 >>> ((l2 : Int32).toUInt32 &&& Int32.toUInt32 31)).toInt32 : Int32).toInt8.toInt32 : Int32).toInt8.toInt32)) b0 1 (r_4 + 1)) Q))))))) : GV mX7_putOnTape 3 [some (.ref b0), some (.int l1), some (.int l2)] [] K x Q := by
  show mGM mX7_putOnTape 3 [some (.ref b0), some (.int l1), some (.int l2)] [] (hp K x) (PV K Q)
  refine r_iload_n (pc := 3) dX7_putOnTape_3 rfl ?_
  refine r_if_lt (pc := 4) (tgt := 46) dX7_putOnTape_4 (by decide) (fun q => ?_) (fun q => ?_)
  · have K0 := K0.1 q
    exact s_ret rfl dX7_putOnTape_46 K0
  · have K0 := K0.2 q
    refine r_aload_n (pc := 7) dX7_putOnTape_7 rfl ?_
    refine s_getI (pc := 8) dX7_putOnTape_8 fl_X7_13 rfl k_b0 ?_
    refine r_sipush (pc := 11) (v := 1200) dX7_putOnTape_11 (by decide) ?_
    refine r_icmp_ge (pc := 14) (tgt := 40) dX7_putOnTape_14 (by decide) (fun q => ?_) (fun q => ?_)
    · have K0 := K0.1 q
      refine r_iinc (pc := 40) (v := l2 + (-8)) dX7_putOnTape_40 rfl rfl (by decide) ?_
      refine r_goto (pc := 43) (L := [some (.ref b0), some (.int l1), some (.int (l2 + (-8)))]) (tgt := 3) dX7_putOnTape_43 (by decide) ?_
      exact r_le (L' := [some (.ref b0), some (.int l1), some (.int (l2 + (-8)))]) ⟨rfl, ⟨rfl, ⟨rfl, trivial⟩⟩⟩ K0
    · have K0 := K0.2 q
      refine r_aload_n (pc := 17) dX7_putOnTape_17 rfl ?_
      refine s_getR (pc := 18) dX7_putOnTape_18 fl_X7_9 rfl k_b0 g_b0_0 ?_
      refine r_aload_n (pc := 21) dX7_putOnTape_21 rfl ?_
      refine s_getI (pc := 22) dX7_putOnTape_22 fl_X7_13 rfl k_b0 ?_
      refine r_iload_n (pc := 25) dX7_putOnTape_25 rfl ?_
      refine r_iload_n (pc := 26) dX7_putOnTape_26 rfl ?_
      refine r_iushr (pc := 27) dX7_putOnTape_27 ?_
      refine r_i2b (pc := 28) dX7_putOnTape_28 ?_
      obtain ⟨i_3, K0⟩ := K0
      refine s_bast (pc := 29) dX7_putOnTape_29 k_b0_0 i_3 ?_
      refine r_aload_n (pc := 30) dX7_putOnTape_30 rfl ?_
      refine r_dup (pc := 31) dX7_putOnTape_31 rfl ?_
      refine s_getI (pc := 32) dX7_putOnTape_32 fl_X7_13 rfl k_b0 ?_
      obtain ⟨r_4, w_5⟩ : ∃ z : Int32, z = gi (ui x b0_0 ((gi x b0 1) : Int32).toNatClampNeg (((((l1 : Int32).toUInt32 >>> ((l2 : Int32).toUInt32 &&& Int32.toUInt32 31)).toInt32 : Int32).toInt8.toInt32 : Int32).toInt8.toInt32)) b0 1 := ⟨_, rfl⟩
      rw [← w_5]
      have K0 := K0 r_4 w_5
      refine r_iconst (pc := 35) (v := 1) dX7_putOnTape_35 (by decide) ?_
      refine r_iadd (pc := 36) dX7_putOnTape_36 ?_
      refine s_putI (pc := 37) dX7_putOnTape_37 fl_X7_13 rfl rfl k_b0 ?_
      refine r_iinc (pc := 40) (v := l2 + (-8)) dX7_putOnTape_40 rfl rfl (by decide) ?_
      refine r_goto (pc := 43) (L := [some (.ref b0), some (.int l1), some (.int (l2 + (-8)))]) (tgt := 3) dX7_putOnTape_43 (by decide) ?_
      exact r_le (L' := [some (.ref b0), some (.int l1), some (.int (l2 + (-8)))]) ⟨rfl, ⟨rfl, ⟨rfl, trivial⟩⟩⟩ K0
section
theorem sp_X7_putOnTape {x : Cn} {Q : Cn → Prop} {b : TT} {m : Nat} {v : Int32} (c : gr x 0 0 = some 1) (t : CT x b m) (hm : m + 4 ≤ 1200) (k : ∀ y, CTf x y → CT y (uB b m v) (m + 4) → Q y) : mSV mX7_putOnTape [.ref 0, .int v] KW x Q := by
  have key : ∀ r j y, j + r = 4 → CTf x y → CT y (fun i => if m ≤ i ∧ i < m + j then bv v (24 - 8 * (i - m)) else b i) (m + j) → GV mX7_putOnTape 3 [some (.ref 0), some (.int v), some (.int (if j = 4 then (-8) else nI (24 - 8 * j)))] [] KW y Q := by
    intro r
    induction r with
    | zero =>
      intro j y hj fy ty
      have : j = 4 := by omega
      subst this
      have cy : gr y 0 0 = some 1 := by unfold gr; rw [fy.1]; exact c
      exact v_X7_putOnTape_3 k0 cy k1t ⟨fun _ => k y fy ty, fun z => absurd (by decide) z⟩
    | succ r ih =>
      intro j y hj fy ty
      have cy : gr y 0 0 = some 1 := by unfold gr; rw [fy.1]; exact c
      rw [if_neg (by omega)]
      refine v_X7_putOnTape_3 k0 cy k1t ⟨fun z => absurd z (nI_pos (by omega)), fun _ => ⟨fun z => absurd (by rw [ty.1] at z; exact z) (nI_ge (b := 1200) (by omega) (by decide)), fun _ => ?_⟩⟩
      rw [ty.1, nI_clamp (by omega), sh8 v (by omega)]
      refine ⟨vp_in_nI (by omega) (by decide), fun q hq => ?_⟩
      have eq : q = nI (m + j) := by rw [hq, gi_ui, if_neg (by omega)]; exact ty.1
      rw [eq, nI_1]
      have e8 : nI (24 - 8 * j) + (-8) = (if j + 1 = 4 then (-8) else nI (24 - 8 * (j + 1))) := by
        by_cases c4 : j + 1 = 4
        · rw [if_pos c4, show j = 3 by omega]; decide
        · rw [if_neg c4, nm8 _ (by omega)]
          congr 1
      rw [e8]
      refine ih (j + 1) _ (by omega) ⟨fy.1, fun a i a1 a2 => by rw [gi_ui, if_neg a2, gi_ui, if_neg (fun u => a1 u.1)]; exact fy.2 a i a1 a2⟩ ⟨by rw [gi_ui, if_pos ⟨rfl, rfl⟩]; rfl, fun i hi => ?_⟩
      rw [gi_ui, if_neg (by omega), gi_ui]
      show _ = if m ≤ i ∧ i < m + (j + 1) then bv v (24 - 8 * (i - m)) else b i
      by_cases c1 : i = m + j
      · rw [if_pos ⟨rfl, c1⟩, if_pos (by omega), c1, show m + j - m = j by omega]
        rfl
      · rw [if_neg (fun u => c1 u.2), ty.2 i (by omega)]
        show (if m ≤ i ∧ i < m + j then bv v (24 - 8 * (i - m)) else b i) = _
        by_cases c2 : m ≤ i ∧ i < m + j
        · rw [if_pos c2, if_pos (by omega)]
        · rw [if_neg c2, if_neg (by omega)]
  have e0 : (fun i => if m ≤ i ∧ i < m + 0 then bv v (24 - 8 * (i - m)) else b i) = b := by
    funext i
    rw [if_neg (by omega)]
  exact v_X7_putOnTape_0 (key 4 0 x (by omega) (CTf.rf x) (by rw [e0]; exact t))
end
set_option maxHeartbeats 2000000 in
theorem v_X8_puts4_0 {K : Sh} {x : Cn} {Q : Cn → Prop} {b0 : Nat} {l1 : Int32}   (K0 : GV mX8_puts4 3 [some (.ref b0), some (.int l1), some (.int 24)] [] K x Q) : mSV mX8_puts4 [.ref b0, .int l1] K x Q := by
  refine s_V (by decide) (by simp [Value.category]) (Nat.le_of_ble_eq_true rfl) ?_
  show mGM mX8_puts4 0 [some (.ref b0), some (.int l1), none] [] (hp K x) (PV K Q)
  refine r_bipush (pc := 0) (v := 24) dX8_puts4_0 (by decide) ?_
  refine r_istore_n (pc := 2) dX8_puts4_2 (by decide) ?_
  exact r_le (L' := [some (.ref b0), some (.int l1), some (.int 24)]) ⟨rfl, ⟨rfl, ⟨rfl, trivial⟩⟩⟩ K0
set_option maxHeartbeats 2000000 in
theorem v_X8_puts4_3 {K : Sh} {x : Cn} {Q : Cn → Prop} {b0 : Nat} {l1 : Int32} {l2 : Int32} {b0_4 : Nat} {n_b0_4 : Nat} (k_b0 : kk K b0 = some (8, 0)) (g_b0_4 : gr x b0 4 = some b0_4) (k_b0_4 : kk K b0_4 = some (21, n_b0_4)) (K0 : (l2 < 0 → (Q x)) ∧ (¬ l2 < 0 → (vp_in (gi x b0 5) n_b0_4 ∧ (∀ r_3 : Int32, r_3 = gi (ui x b0_4 ((gi x b0 5) : Int32).toNatClampNeg ((((l1 >>> (l2 &&& 31)) : Int32).toInt8.toInt32 : Int32).toInt8.toInt32)) b0 5 → (GV mX8_puts4 3 [some (.ref b0), some (.int l1), some (.int (l2 + (-8)))] [] K (ui (ui x b0_4 ((gi x b0 5) : Int32).toNatClampNeg ((((l1 >>> (l2 &&& 31)) : Int32).toInt8.toInt32 : Int32).toInt8.toInt32)) b0 5 (r_3 + 1)) Q))))) : GV mX8_puts4 3 [some (.ref b0), some (.int l1), some (.int l2)] [] K x Q := by
  show mGM mX8_puts4 3 [some (.ref b0), some (.int l1), some (.int l2)] [] (hp K x) (PV K Q)
  refine r_iload_n (pc := 3) dX8_puts4_3 rfl ?_
  refine r_if_lt (pc := 4) (tgt := 36) dX8_puts4_4 (by decide) (fun q => ?_) (fun q => ?_)
  · have K0 := K0.1 q
    exact s_ret rfl dX8_puts4_36 K0
  · have K0 := K0.2 q
    refine r_aload_n (pc := 7) dX8_puts4_7 rfl ?_
    refine s_getR (pc := 8) dX8_puts4_8 fl_X8_19 rfl k_b0 g_b0_4 ?_
    refine r_aload_n (pc := 11) dX8_puts4_11 rfl ?_
    refine s_getI (pc := 12) dX8_puts4_12 fl_X8_94 rfl k_b0 ?_
    refine r_iload_n (pc := 15) dX8_puts4_15 rfl ?_
    refine r_iload_n (pc := 16) dX8_puts4_16 rfl ?_
    refine r_ishr (pc := 17) dX8_puts4_17 ?_
    refine r_i2b (pc := 18) dX8_puts4_18 ?_
    obtain ⟨i_2, K0⟩ := K0
    refine s_bast (pc := 19) dX8_puts4_19 k_b0_4 i_2 ?_
    refine r_aload_n (pc := 20) dX8_puts4_20 rfl ?_
    refine r_dup (pc := 21) dX8_puts4_21 rfl ?_
    refine s_getI (pc := 22) dX8_puts4_22 fl_X8_94 rfl k_b0 ?_
    obtain ⟨r_3, w_4⟩ : ∃ z : Int32, z = gi (ui x b0_4 ((gi x b0 5) : Int32).toNatClampNeg ((((l1 >>> (l2 &&& 31)) : Int32).toInt8.toInt32 : Int32).toInt8.toInt32)) b0 5 := ⟨_, rfl⟩
    rw [← w_4]
    have K0 := K0 r_3 w_4
    refine r_iconst (pc := 25) (v := 1) dX8_puts4_25 (by decide) ?_
    refine r_iadd (pc := 26) dX8_puts4_26 ?_
    refine s_putI (pc := 27) dX8_puts4_27 fl_X8_94 rfl rfl k_b0 ?_
    refine r_iinc (pc := 30) (v := l2 + (-8)) dX8_puts4_30 rfl rfl (by decide) ?_
    refine r_goto (pc := 33) (L := [some (.ref b0), some (.int l1), some (.int (l2 + (-8)))]) (tgt := 3) dX8_puts4_33 (by decide) ?_
    exact r_le (L' := [some (.ref b0), some (.int l1), some (.int (l2 + (-8)))]) ⟨rfl, ⟨rfl, ⟨rfl, trivial⟩⟩⟩ K0
section
theorem sp_X8_puts4 {x : Cn} {Q : Cn → Prop} {b : TT} {m : Nat} {v : Int32} (M : MRf x 718) (t : RT x b m) (hm : m + 4 ≤ 1200) (k : ∀ y, RTf x y → RT y (uB b m v) (m + 4) → Q y) : mSV mX8_puts4 [.ref 717, .int v] KW x Q := by
  have key : ∀ r j y, j + r = 4 → RTf x y → RT y (fun i => if m ≤ i ∧ i < m + j then bv v (24 - 8 * (i - m)) else b i) (m + j) → GV mX8_puts4 3 [some (.ref 717), some (.int v), some (.int (if j = 4 then (-8) else nI (24 - 8 * j)))] [] KW y Q := by
    intro r
    induction r with
    | zero =>
      intro j y hj fy ty
      have : j = 4 := by omega
      subst this
      exact v_X8_puts4_3 km (M.keep fy.1).2.2.2.1 km720 ⟨fun _ => k y fy ty, fun z => absurd (by decide) z⟩
    | succ r ih =>
      intro j y hj fy ty
      rw [if_neg (by omega)]
      refine v_X8_puts4_3 km (M.keep fy.1).2.2.2.1 km720 ⟨fun z => absurd z (nI_pos (by omega)), fun _ => ?_⟩
      rw [ty.1, nI_clamp (by omega)]
      refine ⟨vp_in_nI (by omega) (by decide), fun q hq => ?_⟩
      have eq : q = nI (m + j) := by rw [hq, gi_ui, if_neg (by omega)]; exact ty.1
      rw [eq, nI_1]
      have e8 : nI (24 - 8 * j) + (-8) = (if j + 1 = 4 then (-8) else nI (24 - 8 * (j + 1))) := by
        by_cases c4 : j + 1 = 4
        · rw [if_pos c4, show j = 3 by omega]; decide
        · rw [if_neg c4, nm8 _ (by omega)]
          congr 1
      rw [e8]
      refine ih (j + 1) _ (by omega) ⟨fy.1, fun a i a1 a2 => by rw [gi_ui, if_neg a2, gi_ui, if_neg (fun u => a1 u.1)]; exact fy.2 a i a1 a2⟩ ⟨by rw [gi_ui, if_pos ⟨rfl, rfl⟩]; rfl, fun i hi => ?_⟩
      rw [gi_ui, if_neg (by omega), gi_ui]
      show _ = if m ≤ i ∧ i < m + (j + 1) then bv v (24 - 8 * (i - m)) else b i
      by_cases c1 : i = m + j
      · rw [if_pos ⟨rfl, c1⟩, if_pos (by omega), c1, show m + j - m = j by omega]
        rfl
      · rw [if_neg (fun u => c1 u.2), ty.2 i (by omega)]
        show (if m ≤ i ∧ i < m + j then bv v (24 - 8 * (i - m)) else b i) = _
        by_cases c2 : m ≤ i ∧ i < m + j
        · rw [if_pos c2, if_pos (by omega)]
        · rw [if_neg c2, if_neg (by omega)]
  have e0 : (fun i => if m ≤ i ∧ i < m + 0 then bv v (24 - 8 * (i - m)) else b i) = b := by
    funext i
    rw [if_neg (by omega)]
  exact v_X8_puts4_0 (key 4 0 x (by omega) (RTf.rf x) (by rw [e0]; exact t))
theorem Rel.tape {x u : Cn} (R : Rel x) (er : u.2 = x.2) (eq : ∀ a j, a ≠ 1 → ¬ (a = 0 ∧ j = 1) → a ≠ 720 → ¬ (a = 717 ∧ j = 5) → gi u a j = gi x a j) (t : TPr u) : Rel u := by
  obtain ⟨W, C, S, A, N, E, nm, hs⟩ := R.sea
  have c1 := R.1
  have e8 : gi u 718 = gi x 718 := funext (fun i => eq 718 i (by decide) (by omega) (by decide) (by omega))
  refine ⟨R.1.keep er, R.2.1.keep er, ⟨?_, ?_⟩, t, R.2.2.2.2.1.keep (eq 175 1 (by decide) (by omega) (by decide) (by omega)) (eq 717 22 (by decide) (by omega) (by decide) (by omega)) (fun i => eq 176 i (by decide) (by omega) (by decide) (by omega)) (fun i => eq 725 i (by decide) (by omega) (by decide) (by omega)), W, C, S, A, N, ?_, ?_, ?_⟩
  · trivial
  · trivial
  · rw [e8]; exact E.keep er (fun a j a1 a2 _ => eq a j (by omega) (by omega) (by omega) (by omega))
  · rw [e8]; exact nm.keep (eq 56 0 (by decide) (by omega) (by decide) (by omega)) (fun i => eq 57 i (by decide) (by omega) (by decide) (by omega)) (fun _ _ => rfl)
  · rw [e8]; exact hs.keep c1 er (eq 717 19 (by decide) (by omega) (by decide) (by omega)) (eq 0 5 (by decide) (by omega) (by decide) (by omega)) (fun a j a1 a2 => eq a j (by omega) (by omega) (by omega) (by omega)) (fun i => eq 724 i (by decide) (by omega) (by decide) (by omega)) (fun _ _ => rfl)
theorem uB_is {b : TT} {m : Nat} {v : Int32} (h : ∀ i, i < m → isB (b i)) : ∀ i, i < m + 4 → isB (uB b m v i) := by
  intro i hi
  unfold uB
  by_cases c : m ≤ i ∧ i < m + 4
  · rw [if_pos c]; exact bv_is _ _
  · rw [if_neg c]; exact h i (by omega)
/-- a name's number -/
def bd (b : TT) (fr to i : Nat) : Nat := if fr + i < to then (b (fr + i)).toNatClampNeg - 96 else 0
def pkn (b : TT) (fr to : Nat) : Nat → Nat
  | 0 => 0
  | n + 1 => 27 * pkn b fr to n + bd b fr to n
def pkv (b : TT) (fr to : Nat) : Nat := pkn b fr to 6
def ltr (b : TT) (fr to : Nat) : Prop := ∀ i, fr ≤ i → i < to → ∃ m, 97 ≤ m ∧ m ≤ 122 ∧ b i = nI m
theorem bd_lt {b : TT} {fr to : Nat} (h : ltr b fr to) (i : Nat) : bd b fr to i < 27 := by
  unfold bd
  by_cases c : fr + i < to
  · rw [if_pos c]
    obtain ⟨m, h1, h2, h3⟩ := h (fr + i) (by omega) c
    rw [h3, nI_clamp (by omega)]; omega
  · rw [if_neg c]; decide
theorem dg_6 {w : Nat} (h : w < 387420489) : w = 27 * (27 * (27 * (27 * (27 * dg w 0 + dg w 1) + dg w 2) + dg w 3) + dg w 4) + dg w 5 := by
  have e5 : dg w 5 = w % 27 := by show w / 1 % 27 = _; rw [Nat.div_one]
  have e4 : dg w 4 = w / 27 % 27 := rfl
  have e3 : dg w 3 = w / 27 / 27 % 27 := by rw [Nat.div_div_eq_div_mul]; rfl
  have e2 : dg w 2 = w / 27 / 27 / 27 % 27 := by rw [Nat.div_div_eq_div_mul, Nat.div_div_eq_div_mul]; rfl
  have e1 : dg w 1 = w / 27 / 27 / 27 / 27 % 27 := by rw [Nat.div_div_eq_div_mul, Nat.div_div_eq_div_mul, Nat.div_div_eq_div_mul]; rfl
  have e0 : dg w 0 = w / 27 / 27 / 27 / 27 / 27 := by
    rw [Nat.div_div_eq_div_mul, Nat.div_div_eq_div_mul, Nat.div_div_eq_div_mul, Nat.div_div_eq_div_mul]
    exact Nat.mod_eq_of_lt (Nat.div_lt_of_lt_mul (show w < 14348907 * 27 from h))
  rw [e0, e1, e2, e3, e4, e5, Nat.div_add_mod, Nat.div_add_mod, Nat.div_add_mod, Nat.div_add_mod, Nat.div_add_mod]
theorem pkv_6 (b : TT) (fr to : Nat) : pkv b fr to = 27 * (27 * (27 * (27 * (27 * bd b fr to 0 + bd b fr to 1) + bd b fr to 2) + bd b fr to 3) + bd b fr to 4) + bd b fr to 5 := by
  show 27 * (27 * (27 * (27 * (27 * (27 * 0 + bd b fr to 0) + bd b fr to 1) + bd b fr to 2) + bd b fr to 3) + bd b fr to 4) + bd b fr to 5 = _
  omega
theorem pkv_lt {b : TT} {fr to : Nat} (h : ltr b fr to) : pkv b fr to < 387420489 := by
  have h0 := bd_lt h 0
  have h1 := bd_lt h 1
  have h2 := bd_lt h 2
  have h3 := bd_lt h 3
  have h4 := bd_lt h 4
  have h5 := bd_lt h 5
  rw [pkv_6]
  omega
theorem pkn_lt {b : TT} {fr to : Nat} (h : ltr b fr to) : ∀ n, n ≤ 6 → pkn b fr to n < 27 ^ n := by
  intro n
  induction n with
  | zero => intro _; exact Nat.one_pos
  | succ n ih =>
    intro hn
    have := ih (by omega)
    have := bd_lt h n
    show 27 * pkn b fr to n + bd b fr to n < 27 ^ (n + 1)
    rw [Nat.pow_succ]
    omega
theorem pkv_dg {b : TT} {fr to : Nat} (h : ltr b fr to) : ∀ i, i < 6 → dg (pkv b fr to) i = bd b fr to i := by
  have h0 := bd_lt h 0
  have h1 := bd_lt h 1
  have h2 := bd_lt h 2
  have h3 := bd_lt h 3
  have h4 := bd_lt h 4
  have h5 := bd_lt h 5
  have e := pkv_6 b fr to
  revert e
  generalize pkv b fr to = p
  intro e
  intro i hi
  have : i = 0 ∨ i = 1 ∨ i = 2 ∨ i = 3 ∨ i = 4 ∨ i = 5 := by omega
  rcases this with rfl | rfl | rfl | rfl | rfl | rfl
  · rw [show dg p 0 = p / 14348907 % 27 from rfl]; omega
  · rw [show dg p 1 = p / 531441 % 27 from rfl]; omega
  · rw [show dg p 2 = p / 19683 % 27 from rfl]; omega
  · rw [show dg p 3 = p / 729 % 27 from rfl]; omega
  · rw [show dg p 4 = p / 27 % 27 from rfl]; omega
  · rw [show dg p 5 = p / 1 % 27 from rfl]; omega
theorem dg_inj {v w : Nat} (hv : v < 387420489) (hw : w < 387420489) (h : ∀ i, i < 6 → dg v i = dg w i) : v = w := by
  rw [dg_6 hv, dg_6 hw, h 0 (by decide), h 1 (by decide), h 2 (by decide), h 3 (by decide), h 4 (by decide), h 5 (by decide)]
theorem let_v {m : Nat} (h1 : 97 ≤ m) (h2 : m ≤ 122) : (nI m - 97) + 1 = nI (m - 96) := by
  rw [show nI m - 97 = nI (m - 97) from pk_sub (b := 97) h1, nI_1]
  congr 1
  omega
def stN (T : TT) (v : Nat) : Nat → Unit → Unit ⊕ Int32 := fun c _ => if T (54 + c) = nI v then .inr (nI c) else .inl ()
def fnd (T : TT) (C v : Nat) : Int32 := lpR (stN T v) (fun _ => -1) C 0 ()
end
set_option maxHeartbeats 2000000 in
theorem v_X7_feed_0 {K : Sh} {x : Cn} {Q : Int32 → Cn → Prop} {b0 : Nat} {l1 : Int32} {l2 : Int32} {l3 : Int32} {l4 : Int32} {l5 : Int32}  (k_b0 : kk K b0 = some (7, 0)) (K0 : (((gi x b0 1) + 20) ≤ 1200 → (mSV mX7_putOnTape [.ref b0, .int l1] K x (fun y_2 => mSV mX7_putOnTape [.ref b0, .int l2] K y_2 (fun y_3 => mSV mX7_putOnTape [.ref b0, .int l3] K y_3 (fun y_4 => mSV mX7_putOnTape [.ref b0, .int l4] K y_4 (fun y_5 => mSV mX7_putOnTape [.ref b0, .int l5] K y_5 (fun y_6 => Q (gi y_6 b0 1) y_6))))))) ∧ (¬ ((gi x b0 1) + 20) ≤ 1200 → (Q (-1) x))) : mSI mX7_feed [.ref b0, .int l1, .int l2, .int l3, .int l4, .int l5] K x Q := by
  refine s_I (by decide) (by simp [Value.category]) (Nat.le_of_ble_eq_true rfl) ?_
  show mGM mX7_feed 0 [some (.ref b0), some (.int l1), some (.int l2), some (.int l3), some (.int l4), some (.int l5)] [] (hp K x) (PI K Q)
  refine r_aload_n (pc := 0) dX7_feed_0 rfl ?_
  refine s_getI (pc := 1) dX7_feed_1 fl_X7_13 rfl k_b0 ?_
  refine r_bipush (pc := 4) (v := 20) dX7_feed_4 (by decide) ?_
  refine r_iadd (pc := 6) dX7_feed_6 ?_
  refine r_sipush (pc := 7) (v := 1200) dX7_feed_7 (by decide) ?_
  refine r_icmp_le (pc := 10) (tgt := 15) dX7_feed_10 (by decide) (fun q => ?_) (fun q => ?_)
  · have K0 := K0.1 q
    refine r_aload_n (pc := 15) dX7_feed_15 rfl ?_
    refine r_iload_n (pc := 16) dX7_feed_16 rfl ?_
    refine s_VV (pc := 17) mX7_putOnTape (ci := 7) (a := b0) (As := [.int l1]) dX7_feed_17 lk_X7_65 in_X7_putOnTape mo_X7_putOnTape ⟨by decide, rfl⟩ ⟨by decide, by decide⟩ (Nat.le_of_ble_eq_true rfl) k_b0 (mSV_mono K0 (fun y_2 K0 => ?_))
    refine r_aload_n (pc := 20) dX7_feed_20 rfl ?_
    refine r_iload_n (pc := 21) dX7_feed_21 rfl ?_
    refine s_VV (pc := 22) mX7_putOnTape (ci := 7) (a := b0) (As := [.int l2]) dX7_feed_22 lk_X7_65 in_X7_putOnTape mo_X7_putOnTape ⟨by decide, rfl⟩ ⟨by decide, by decide⟩ (Nat.le_of_ble_eq_true rfl) k_b0 (mSV_mono K0 (fun y_3 K0 => ?_))
    refine r_aload_n (pc := 25) dX7_feed_25 rfl ?_
    refine r_iload_n (pc := 26) dX7_feed_26 rfl ?_
    refine s_VV (pc := 27) mX7_putOnTape (ci := 7) (a := b0) (As := [.int l3]) dX7_feed_27 lk_X7_65 in_X7_putOnTape mo_X7_putOnTape ⟨by decide, rfl⟩ ⟨by decide, by decide⟩ (Nat.le_of_ble_eq_true rfl) k_b0 (mSV_mono K0 (fun y_4 K0 => ?_))
    refine r_aload_n (pc := 30) dX7_feed_30 rfl ?_
    refine r_iload (pc := 31) dX7_feed_31 rfl ?_
    refine s_VV (pc := 33) mX7_putOnTape (ci := 7) (a := b0) (As := [.int l4]) dX7_feed_33 lk_X7_65 in_X7_putOnTape mo_X7_putOnTape ⟨by decide, rfl⟩ ⟨by decide, by decide⟩ (Nat.le_of_ble_eq_true rfl) k_b0 (mSV_mono K0 (fun y_5 K0 => ?_))
    refine r_aload_n (pc := 36) dX7_feed_36 rfl ?_
    refine r_iload (pc := 37) dX7_feed_37 rfl ?_
    refine s_VV (pc := 39) mX7_putOnTape (ci := 7) (a := b0) (As := [.int l5]) dX7_feed_39 lk_X7_65 in_X7_putOnTape mo_X7_putOnTape ⟨by decide, rfl⟩ ⟨by decide, by decide⟩ (Nat.le_of_ble_eq_true rfl) k_b0 (mSV_mono K0 (fun y_6 K0 => ?_))
    refine r_aload_n (pc := 42) dX7_feed_42 rfl ?_
    refine s_getI (pc := 43) dX7_feed_43 fl_X7_13 rfl k_b0 ?_
    exact s_iret rfl dX7_feed_46 K0
  · have K0 := K0.2 q
    refine r_iconst (pc := 13) (v := (-1)) dX7_feed_13 (by decide) ?_
    exact s_iret rfl dX7_feed_14 K0
set_option maxHeartbeats 2000000 in
theorem v_X8_feed_0 {K : Sh} {x : Cn} {Q : Int32 → Cn → Prop} {b0 : Nat} {l1 : Int32} {l2 : Int32} {l3 : Int32} {l4 : Int32} {l5 : Int32}  (k_b0 : kk K b0 = some (8, 0)) (K0 : (((gi x b0 5) + 20) ≤ 1200 → (mSV mX8_puts4 [.ref b0, .int l1] K x (fun y_2 => mSV mX8_puts4 [.ref b0, .int l2] K y_2 (fun y_3 => mSV mX8_puts4 [.ref b0, .int l3] K y_3 (fun y_4 => mSV mX8_puts4 [.ref b0, .int l4] K y_4 (fun y_5 => mSV mX8_puts4 [.ref b0, .int l5] K y_5 (fun y_6 => Q (gi y_6 b0 5) y_6))))))) ∧ (¬ ((gi x b0 5) + 20) ≤ 1200 → (Q (-1) x))) : mSI mX8_feed [.ref b0, .int l1, .int l2, .int l3, .int l4, .int l5] K x Q := by
  refine s_I (by decide) (by simp [Value.category]) (Nat.le_of_ble_eq_true rfl) ?_
  show mGM mX8_feed 0 [some (.ref b0), some (.int l1), some (.int l2), some (.int l3), some (.int l4), some (.int l5)] [] (hp K x) (PI K Q)
  refine r_aload_n (pc := 0) dX8_feed_0 rfl ?_
  refine s_getI (pc := 1) dX8_feed_1 fl_X8_94 rfl k_b0 ?_
  refine r_bipush (pc := 4) (v := 20) dX8_feed_4 (by decide) ?_
  refine r_iadd (pc := 6) dX8_feed_6 ?_
  refine r_sipush (pc := 7) (v := 1200) dX8_feed_7 (by decide) ?_
  refine r_icmp_le (pc := 10) (tgt := 15) dX8_feed_10 (by decide) (fun q => ?_) (fun q => ?_)
  · have K0 := K0.1 q
    refine r_aload_n (pc := 15) dX8_feed_15 rfl ?_
    refine r_iload_n (pc := 16) dX8_feed_16 rfl ?_
    refine s_VV (pc := 17) mX8_puts4 (ci := 8) (a := b0) (As := [.int l1]) dX8_feed_17 lk_X8_97 in_X8_puts4 mo_X8_puts4 ⟨by decide, rfl⟩ ⟨by decide, by decide⟩ (Nat.le_of_ble_eq_true rfl) k_b0 (mSV_mono K0 (fun y_2 K0 => ?_))
    refine r_aload_n (pc := 20) dX8_feed_20 rfl ?_
    refine r_iload_n (pc := 21) dX8_feed_21 rfl ?_
    refine s_VV (pc := 22) mX8_puts4 (ci := 8) (a := b0) (As := [.int l2]) dX8_feed_22 lk_X8_97 in_X8_puts4 mo_X8_puts4 ⟨by decide, rfl⟩ ⟨by decide, by decide⟩ (Nat.le_of_ble_eq_true rfl) k_b0 (mSV_mono K0 (fun y_3 K0 => ?_))
    refine r_aload_n (pc := 25) dX8_feed_25 rfl ?_
    refine r_iload_n (pc := 26) dX8_feed_26 rfl ?_
    refine s_VV (pc := 27) mX8_puts4 (ci := 8) (a := b0) (As := [.int l3]) dX8_feed_27 lk_X8_97 in_X8_puts4 mo_X8_puts4 ⟨by decide, rfl⟩ ⟨by decide, by decide⟩ (Nat.le_of_ble_eq_true rfl) k_b0 (mSV_mono K0 (fun y_4 K0 => ?_))
    refine r_aload_n (pc := 30) dX8_feed_30 rfl ?_
    refine r_iload (pc := 31) dX8_feed_31 rfl ?_
    refine s_VV (pc := 33) mX8_puts4 (ci := 8) (a := b0) (As := [.int l4]) dX8_feed_33 lk_X8_97 in_X8_puts4 mo_X8_puts4 ⟨by decide, rfl⟩ ⟨by decide, by decide⟩ (Nat.le_of_ble_eq_true rfl) k_b0 (mSV_mono K0 (fun y_5 K0 => ?_))
    refine r_aload_n (pc := 36) dX8_feed_36 rfl ?_
    refine r_iload (pc := 37) dX8_feed_37 rfl ?_
    refine s_VV (pc := 39) mX8_puts4 (ci := 8) (a := b0) (As := [.int l5]) dX8_feed_39 lk_X8_97 in_X8_puts4 mo_X8_puts4 ⟨by decide, rfl⟩ ⟨by decide, by decide⟩ (Nat.le_of_ble_eq_true rfl) k_b0 (mSV_mono K0 (fun y_6 K0 => ?_))
    refine r_aload_n (pc := 42) dX8_feed_42 rfl ?_
    refine s_getI (pc := 43) dX8_feed_43 fl_X8_94 rfl k_b0 ?_
    exact s_iret rfl dX8_feed_46 K0
  · have K0 := K0.2 q
    refine r_iconst (pc := 13) (v := (-1)) dX8_feed_13 (by decide) ?_
    exact s_iret rfl dX8_feed_14 K0
set_option maxHeartbeats 2000000 in
theorem v_X1_isNamed_0 {K : Sh} {x : Cn} {Q : Int32 → Cn → Prop} {b0 : Nat} {l1 : Int32} {b2 : Nat} {l3 : Int32} {l4 : Int32}   (K0 : GI mX1_isNamed 3 [some (.ref b0), some (.int l1), some (.ref b2), some (.int l3), some (.int l4), some (.int 0), none] [] K x Q) : mSI mX1_isNamed [.ref b0, .int l1, .ref b2, .int l3, .int l4] K x Q := by
  refine s_I (by decide) (by simp [Value.category]) (Nat.le_of_ble_eq_true rfl) ?_
  show mGM mX1_isNamed 0 [some (.ref b0), some (.int l1), some (.ref b2), some (.int l3), some (.int l4), none, none] [] (hp K x) (PI K Q)
  refine r_iconst (pc := 0) (v := 0) dX1_isNamed_0 (by decide) ?_
  refine r_istore (pc := 1) dX1_isNamed_1 (by decide) ?_
  exact r_le (L' := [some (.ref b0), some (.int l1), some (.ref b2), some (.int l3), some (.int l4), some (.int 0), none]) ⟨rfl, ⟨rfl, ⟨rfl, ⟨rfl, ⟨rfl, ⟨rfl, trivial⟩⟩⟩⟩⟩⟩ K0
set_option maxHeartbeats 2000000 in
theorem v_X1_isNamed_3 {K : Sh} {x : Cn} {Q : Int32 → Cn → Prop} {b0 : Nat} {l1 : Int32} {b2 : Nat} {l3 : Int32} {l4 : Int32} {l5 : Int32} {b0_1 : Nat} {n_b0_1 : Nat} {n_b2 : Nat} (k_b0 : kk K b0 = some (1, 0)) (g_b0_1 : gr x b0 1 = some b0_1) (k_b0_1 : kk K b0_1 = some (20, n_b0_1)) (k_b2 : kk K b2 = some (21, n_b2)) (K0 : (6 ≤ l5 → (Q 1 x)) ∧ (¬ 6 ≤ l5 → ((l4 ≤ (l3 + l5) → (vp_in ((l1 * 6) + l5) n_b0_1 ∧ (((gi x b0_1 (((l1 * 6) + l5) : Int32).toNatClampNeg) = 0 → (GI mX1_isNamed 3 [some (.ref b0), some (.int l1), some (.ref b2), some (.int l3), some (.int l4), some (.int (l5 + 1)), none] [] K x Q)) ∧ (¬ (gi x b0_1 (((l1 * 6) + l5) : Int32).toNatClampNeg) = 0 → (Q 0 x))))) ∧ (¬ l4 ≤ (l3 + l5) → (vp_in (l3 + l5) n_b2 ∧ (vp_in ((l1 * 6) + l5) n_b0_1 ∧ (((gi x b0_1 (((l1 * 6) + l5) : Int32).toNatClampNeg) = (((gi x b2 ((l3 + l5) : Int32).toNatClampNeg) - 97) + 1) → (GI mX1_isNamed 3 [some (.ref b0), some (.int l1), some (.ref b2), some (.int l3), some (.int l4), some (.int (l5 + 1)), none] [] K x Q)) ∧ (¬ (gi x b0_1 (((l1 * 6) + l5) : Int32).toNatClampNeg) = (((gi x b2 ((l3 + l5) : Int32).toNatClampNeg) - 97) + 1) → (Q 0 x))))))))) : GI mX1_isNamed 3 [some (.ref b0), some (.int l1), some (.ref b2), some (.int l3), some (.int l4), some (.int l5), none] [] K x Q := by
  show mGM mX1_isNamed 3 [some (.ref b0), some (.int l1), some (.ref b2), some (.int l3), some (.int l4), some (.int l5), none] [] (hp K x) (PI K Q)
  refine r_iload (pc := 3) dX1_isNamed_3 rfl ?_
  refine r_bipush (pc := 5) (v := 6) dX1_isNamed_5 (by decide) ?_
  refine r_icmp_ge (pc := 7) (tgt := 61) dX1_isNamed_7 (by decide) (fun q => ?_) (fun q => ?_)
  · have K0 := K0.1 q
    refine r_iconst (pc := 61) (v := 1) dX1_isNamed_61 (by decide) ?_
    exact s_zret rfl (by decide) dX1_isNamed_62 K0
  · have K0 := K0.2 q
    refine r_iload_n (pc := 10) dX1_isNamed_10 rfl ?_
    refine r_iload (pc := 11) dX1_isNamed_11 rfl ?_
    refine r_iadd (pc := 13) dX1_isNamed_13 ?_
    refine r_iload (pc := 14) dX1_isNamed_14 rfl ?_
    refine r_icmp_ge (pc := 16) (tgt := 33) dX1_isNamed_16 (by decide) (fun q => ?_) (fun q => ?_)
    · have K0 := K0.1 q
      refine r_iconst (pc := 33) (v := 0) dX1_isNamed_33 (by decide) ?_
      refine r_istore (pc := 34) dX1_isNamed_34 (by decide) ?_
      refine r_aload_n (pc := 36) (L := [some (.ref b0), some (.int l1), some (.ref b2), some (.int l3), some (.int l4), some (.int l5), some (.int 0)]) dX1_isNamed_36 rfl ?_
      refine s_getR (pc := 37) dX1_isNamed_37 fl_X1_15 rfl k_b0 g_b0_1 ?_
      refine r_iload_n (pc := 40) dX1_isNamed_40 rfl ?_
      refine r_bipush (pc := 41) (v := 6) dX1_isNamed_41 (by decide) ?_
      refine r_imul (pc := 43) dX1_isNamed_43 ?_
      refine r_iload (pc := 44) dX1_isNamed_44 rfl ?_
      refine r_iadd (pc := 46) dX1_isNamed_46 ?_
      obtain ⟨i_3, K0⟩ := K0
      refine s_iald (pc := 47) dX1_isNamed_47 k_b0_1 i_3 ?_
      refine r_iload (pc := 48) dX1_isNamed_48 rfl ?_
      refine r_icmp_eq (pc := 50) (tgt := 55) dX1_isNamed_50 (by decide) (fun q => ?_) (fun q => ?_)
      · have K0 := K0.1 q
        refine r_iinc (pc := 55) (v := l5 + 1) dX1_isNamed_55 rfl rfl (by decide) ?_
        refine r_goto (pc := 58) (L := [some (.ref b0), some (.int l1), some (.ref b2), some (.int l3), some (.int l4), some (.int (l5 + 1)), some (.int 0)]) (tgt := 3) dX1_isNamed_58 (by decide) ?_
        exact r_le (L' := [some (.ref b0), some (.int l1), some (.ref b2), some (.int l3), some (.int l4), some (.int (l5 + 1)), none]) ⟨rfl, ⟨rfl, ⟨rfl, ⟨rfl, ⟨rfl, ⟨rfl, trivial⟩⟩⟩⟩⟩⟩ K0
      · have K0 := K0.2 q
        refine r_iconst (pc := 53) (v := 0) dX1_isNamed_53 (by decide) ?_
        exact s_zret rfl (by decide) dX1_isNamed_54 K0
    · have K0 := K0.2 q
      refine r_aload_n (pc := 19) dX1_isNamed_19 rfl ?_
      refine r_iload_n (pc := 20) dX1_isNamed_20 rfl ?_
      refine r_iload (pc := 21) dX1_isNamed_21 rfl ?_
      refine r_iadd (pc := 23) dX1_isNamed_23 ?_
      obtain ⟨i_5, K0⟩ := K0
      refine s_bald (pc := 24) dX1_isNamed_24 k_b2 i_5 ?_
      refine r_bipush (pc := 25) (v := 97) dX1_isNamed_25 (by decide) ?_
      refine r_isub (pc := 27) dX1_isNamed_27 ?_
      refine r_iconst (pc := 28) (v := 1) dX1_isNamed_28 (by decide) ?_
      refine r_iadd (pc := 29) dX1_isNamed_29 ?_
      refine r_goto (pc := 30) (tgt := 34) dX1_isNamed_30 (by decide) ?_
      refine r_istore (pc := 34) dX1_isNamed_34 (by decide) ?_
      refine r_aload_n (pc := 36) (L := [some (.ref b0), some (.int l1), some (.ref b2), some (.int l3), some (.int l4), some (.int l5), some (.int (((gi x b2 ((l3 + l5) : Int32).toNatClampNeg) - 97) + 1))]) dX1_isNamed_36 rfl ?_
      refine s_getR (pc := 37) dX1_isNamed_37 fl_X1_15 rfl k_b0 g_b0_1 ?_
      refine r_iload_n (pc := 40) dX1_isNamed_40 rfl ?_
      refine r_bipush (pc := 41) (v := 6) dX1_isNamed_41 (by decide) ?_
      refine r_imul (pc := 43) dX1_isNamed_43 ?_
      refine r_iload (pc := 44) dX1_isNamed_44 rfl ?_
      refine r_iadd (pc := 46) dX1_isNamed_46 ?_
      obtain ⟨i_6, K0⟩ := K0
      refine s_iald (pc := 47) dX1_isNamed_47 k_b0_1 i_6 ?_
      refine r_iload (pc := 48) dX1_isNamed_48 rfl ?_
      refine r_icmp_eq (pc := 50) (tgt := 55) dX1_isNamed_50 (by decide) (fun q => ?_) (fun q => ?_)
      · have K0 := K0.1 q
        refine r_iinc (pc := 55) (v := l5 + 1) dX1_isNamed_55 rfl rfl (by decide) ?_
        refine r_goto (pc := 58) (L := [some (.ref b0), some (.int l1), some (.ref b2), some (.int l3), some (.int l4), some (.int (l5 + 1)), some (.int (((gi x b2 ((l3 + l5) : Int32).toNatClampNeg) - 97) + 1))]) (tgt := 3) dX1_isNamed_58 (by decide) ?_
        exact r_le (L' := [some (.ref b0), some (.int l1), some (.ref b2), some (.int l3), some (.int l4), some (.int (l5 + 1)), none]) ⟨rfl, ⟨rfl, ⟨rfl, ⟨rfl, ⟨rfl, ⟨rfl, trivial⟩⟩⟩⟩⟩⟩ K0
      · have K0 := K0.2 q
        refine r_iconst (pc := 53) (v := 0) dX1_isNamed_53 (by decide) ?_
        exact s_zret rfl (by decide) dX1_isNamed_54 K0
section
theorem sp_X1_isNamed {x : Cn} {Q : Int32 → Cn → Prop} {nb cr w bt nB fr to : Nat} (k1 : kk KW nb = some (1, 0)) (g1 : gr x nb 1 = some (nb + 1)) (k2 : kk KW (nb + 1) = some (20, 48)) (kb : kk KW bt = some (21, nB)) (hc : cr < 8) (hw : w < 387420489) (hv : ∀ i, i < 6 → gi x (nb + 1) (6 * cr + i) = nI (dg w i)) (h : ltr (gi x bt) fr to) (hto : to ≤ nB) (hft : fr ≤ to) (hnB : nB ≤ 1200) (k : Q (b2i (w = pkv (gi x bt) fr to)) x) : mSI mX1_isNamed [.ref nb, .int (nI cr), .ref bt, .int (nI fr), .int (nI to)] KW x Q := by
  have no : ∀ i, i < 6 → ¬ dg w i = bd (gi x bt) fr to i → Q 0 x := fun i hi hne => by
    rw [b2i_f (fun e => hne (by rw [e]; exact pkv_dg h i hi))] at k
    exact k
  have key : ∀ r i, i + r = 6 → (∀ j, j < i → dg w j = bd (gi x bt) fr to j) → GI mX1_isNamed 3 [some (.ref nb), some (.int (nI cr)), some (.ref bt), some (.int (nI fr)), some (.int (nI to)), some (.int (nI i)), none] [] KW x Q := by
    intro r
    induction r with
    | zero =>
      intro i hi hj
      have : i = 6 := by omega
      subst this
      refine v_X1_isNamed_3 k1 g1 k2 kb ⟨fun _ => ?_, fun z => absurd (Int32.le_refl _) z⟩
      rw [b2i_t (dg_inj hw (pkv_lt h) (fun j hj6 => by rw [hj j hj6, pkv_dg h j hj6]))] at k
      exact k
    | succ r ih =>
      intro i hi hj
      have hd := dg_lt w i
      have ix : (nI cr * 6) + nI i = nI (6 * cr + i) := by rw [show (6 : Int32) = nI 6 by decide, pk_mul, nI_add, Nat.mul_comm]
      have i2 : nI fr + nI i = nI (fr + i) := nI_add fr i
      by_cases big : fr < 2 ^ 30
      · have hb := bd_lt h i
        refine v_X1_isNamed_3 k1 g1 k2 kb ⟨fun z => absurd z (nI_ge (b := 6) (by omega) (by decide)), fun _ => ?_⟩
        rw [ix, i2, nI_clamp (show 6 * cr + i < 2 ^ 31 by omega), nI_clamp (show fr + i < 2 ^ 31 by omega), hv i (by omega), nI_1, nI_leI (by omega) (by omega)]
        have go : dg w i = bd (gi x bt) fr to i → GI mX1_isNamed 3 [some (.ref nb), some (.int (nI cr)), some (.ref bt), some (.int (nI fr)), some (.int (nI to)), some (.int (nI (i + 1))), none] [] KW x Q := fun e => ih (i + 1) (by omega) (fun j hj' => by
          by_cases c : j = i
          · rw [c]; exact e
          · exact hj j (by omega))
        refine ⟨fun z => ⟨vp_in_nI (by omega) (by decide), fun z2 => go ?_, fun z2 => no i (by omega) ?_⟩, fun z => ⟨vp_in_nI (by omega) (by omega), vp_in_nI (by omega) (by decide), ?_⟩⟩
        · unfold bd; rw [if_neg (by omega)]; exact (nI_z (by omega)).mp z2
        · unfold bd; rw [if_neg (by omega)]; exact fun e => z2 (by rw [e]; rfl)
        · obtain ⟨m, m1, m2, m3⟩ := h (fr + i) (by omega) (by omega)
          have eb : bd (gi x bt) fr to i = m - 96 := by
            unfold bd
            rw [if_pos (by omega), m3, nI_clamp (by omega)]
          rw [m3, let_v m1 m2, nI_eq (by omega) (by omega)]
          exact ⟨fun z2 => go (by rw [eb]; exact z2), fun z2 => no i (by omega) (by rw [eb]; exact z2)⟩
      · omega
  exact v_X1_isNamed_0 (key 6 0 (by omega) (fun j hj => by omega))
end
set_option maxHeartbeats 2000000 in
theorem v_X1_carrierNamed_0 {K : Sh} {x : Cn} {Q : Int32 → Cn → Prop} {b0 : Nat} {b1 : Nat} {l2 : Int32} {l3 : Int32}   (K0 : GI mX1_carrierNamed 3 [some (.ref b0), some (.ref b1), some (.int l2), some (.int l3), some (.int 0)] [] K x Q) : mSI mX1_carrierNamed [.ref b0, .ref b1, .int l2, .int l3] K x Q := by
  refine s_I (by decide) (by simp [Value.category]) (Nat.le_of_ble_eq_true rfl) ?_
  show mGM mX1_carrierNamed 0 [some (.ref b0), some (.ref b1), some (.int l2), some (.int l3), none] [] (hp K x) (PI K Q)
  refine r_iconst (pc := 0) (v := 0) dX1_carrierNamed_0 (by decide) ?_
  refine r_istore (pc := 1) dX1_carrierNamed_1 (by decide) ?_
  exact r_le (L' := [some (.ref b0), some (.ref b1), some (.int l2), some (.int l3), some (.int 0)]) ⟨rfl, ⟨rfl, ⟨rfl, ⟨rfl, ⟨rfl, trivial⟩⟩⟩⟩⟩ K0
set_option maxHeartbeats 2000000 in
theorem v_X1_carrierNamed_3 {K : Sh} {x : Cn} {Q : Int32 → Cn → Prop} {b0 : Nat} {b1 : Nat} {l2 : Int32} {l3 : Int32} {l4 : Int32}  (k_b0 : kk K b0 = some (1, 0)) (K0 : ((gi x b0 0) ≤ l4 → (Q (-1) x)) ∧ (¬ (gi x b0 0) ≤ l4 → (mSI mX1_isNamed [.ref b0, .int l4, .ref b1, .int l2, .int l3] K x (fun r_3 y_2 => (r_3 = 0 → (GI mX1_carrierNamed 3 [some (.ref b0), some (.ref b1), some (.int l2), some (.int l3), some (.int (l4 + 1))] [] K y_2 Q)) ∧ (¬ r_3 = 0 → (Q l4 y_2)))))) : GI mX1_carrierNamed 3 [some (.ref b0), some (.ref b1), some (.int l2), some (.int l3), some (.int l4)] [] K x Q := by
  show mGM mX1_carrierNamed 3 [some (.ref b0), some (.ref b1), some (.int l2), some (.int l3), some (.int l4)] [] (hp K x) (PI K Q)
  refine r_iload (pc := 3) dX1_carrierNamed_3 rfl ?_
  refine r_aload_n (pc := 5) dX1_carrierNamed_5 rfl ?_
  refine s_getI (pc := 6) dX1_carrierNamed_6 fl_X1_9 rfl k_b0 ?_
  refine r_icmp_ge (pc := 9) (tgt := 33) dX1_carrierNamed_9 (by decide) (fun q => ?_) (fun q => ?_)
  · have K0 := K0.1 q
    refine r_iconst (pc := 33) (v := (-1)) dX1_carrierNamed_33 (by decide) ?_
    exact s_iret rfl dX1_carrierNamed_34 K0
  · have K0 := K0.2 q
    refine r_aload_n (pc := 12) dX1_carrierNamed_12 rfl ?_
    refine r_iload (pc := 13) dX1_carrierNamed_13 rfl ?_
    refine r_aload_n (pc := 15) dX1_carrierNamed_15 rfl ?_
    refine r_iload_n (pc := 16) dX1_carrierNamed_16 rfl ?_
    refine r_iload_n (pc := 17) dX1_carrierNamed_17 rfl ?_
    refine s_VI (pc := 18) mX1_isNamed (ci := 1) (a := b0) (As := [.int l4, .ref b1, .int l2, .int l3]) dX1_carrierNamed_18 lk_X1_19 in_X1_isNamed mo_X1_isNamed ⟨by decide, rfl⟩ ⟨by decide, by decide⟩ (Nat.le_of_ble_eq_true rfl) k_b0 (mSI_mono K0 (fun r_3 y_2 K0 => ?_))
    refine r_if_eq (pc := 21) (tgt := 27) dX1_carrierNamed_21 (by decide) (fun q => ?_) (fun q => ?_)
    · have K0 := K0.1 q
      refine r_iinc (pc := 27) (v := l4 + 1) dX1_carrierNamed_27 rfl rfl (by decide) ?_
      refine r_goto (pc := 30) (L := [some (.ref b0), some (.ref b1), some (.int l2), some (.int l3), some (.int (l4 + 1))]) (tgt := 3) dX1_carrierNamed_30 (by decide) ?_
      exact r_le (L' := [some (.ref b0), some (.ref b1), some (.int l2), some (.int l3), some (.int (l4 + 1))]) ⟨rfl, ⟨rfl, ⟨rfl, ⟨rfl, ⟨rfl, trivial⟩⟩⟩⟩⟩ K0
    · have K0 := K0.2 q
      refine r_iload (pc := 24) dX1_carrierNamed_24 rfl ?_
      exact s_iret rfl dX1_carrierNamed_26 K0
section
theorem sp_X1_carrierNamed {x : Cn} {Q : Int32 → Cn → Prop} {T : TT} {C nb bt nB fr to : Nat} (k1 : kk KW nb = some (1, 0)) (g1 : gr x nb 1 = some (nb + 1)) (k2 : kk KW (nb + 1) = some (20, 48)) (kb : kk KW bt = some (21, nB)) (hC : C ≤ 8) (nm : NMr x nb T C) (h : ltr (gi x bt) fr to) (hto : to ≤ nB) (hft : fr ≤ to) (hnB : nB ≤ 1200) (k : Q (fnd T C (pkv (gi x bt) fr to)) x) : mSI mX1_carrierNamed [.ref nb, .ref bt, .int (nI fr), .int (nI to)] KW x Q := by
  refine v_X1_carrierNamed_0 (lp_gen (stN T (pkv (gi x bt) fr to)) (fun _ => -1) (fun c _ => GI mX1_carrierNamed 3 [some (.ref nb), some (.ref bt), some (.int (nI fr)), some (.int (nI to)), some (.int (nI c))] [] KW x Q) (fun r => Q r x) C (fun _ q => ?_) (fun c _ hc n1 n2 => ?_) C 0 () (by omega) k)
  · exact v_X1_carrierNamed_3 k1 ⟨fun _ => q, fun z => absurd (by rw [nm.1]; exact Int32.le_refl _) z⟩
  · obtain ⟨w, ⟨hw0, hw1⟩, hw2, hw3⟩ := nm.2 c hc
    have pl := pkv_lt h
    refine v_X1_carrierNamed_3 k1 ⟨fun z => absurd (by rw [nm.1] at z; exact z) (nI_ge hc (by omega)), fun _ => sp_X1_isNamed k1 g1 k2 kb (by omega) hw1 hw3 h hto hft hnB ⟨fun z => ?_, fun z => ?_⟩⟩
    · rw [nI_1]
      refine n1 () ?_
      unfold stN
      rw [if_neg (fun e => (b2i_z _).mp z ((nI_eq (by omega) (by omega)).mp (hw2.symm.trans e)))]
    · refine n2 _ ?_
      unfold stN
      rw [if_pos (by rw [hw2, b2i_nz z])]
end
set_option maxHeartbeats 2000000 in
theorem v_X8_findName_0 {K : Sh} {x : Cn} {Q : Int32 → Cn → Prop} {b0 : Nat} {l1 : Int32}   (K0 : GI mX8_findName 2 [some (.ref b0), some (.int l1), some (.int 0)] [] K x Q) : mSI mX8_findName [.ref b0, .int l1] K x Q := by
  refine s_I (by decide) (by simp [Value.category]) (Nat.le_of_ble_eq_true rfl) ?_
  show mGM mX8_findName 0 [some (.ref b0), some (.int l1), none] [] (hp K x) (PI K Q)
  refine r_iconst (pc := 0) (v := 0) dX8_findName_0 (by decide) ?_
  refine r_istore_n (pc := 1) dX8_findName_1 (by decide) ?_
  exact r_le (L' := [some (.ref b0), some (.int l1), some (.int 0)]) ⟨rfl, ⟨rfl, ⟨rfl, trivial⟩⟩⟩ K0
set_option maxHeartbeats 2000000 in
theorem v_X8_findName_2 {K : Sh} {x : Cn} {Q : Int32 → Cn → Prop} {b0 : Nat} {l1 : Int32} {l2 : Int32} {b0_3 : Nat} {n_b0_3 : Nat} (k_b0 : kk K b0 = some (8, 0)) (g_b0_3 : gr x b0 3 = some b0_3) (k_b0_3 : kk K b0_3 = some (20, n_b0_3)) (K0 : vp_in 1 n_b0_3 ∧ (((gi x b0_3 1) ≤ l2 → (Q (-1) x)) ∧ (¬ (gi x b0_3 1) ≤ l2 → (vp_in (54 + l2) n_b0_3 ∧ ((¬ (gi x b0_3 ((54 + l2) : Int32).toNatClampNeg) = l1 → (GI mX8_findName 2 [some (.ref b0), some (.int l1), some (.int (l2 + 1))] [] K x Q)) ∧ ((gi x b0_3 ((54 + l2) : Int32).toNatClampNeg) = l1 → (Q l2 x))))))) : GI mX8_findName 2 [some (.ref b0), some (.int l1), some (.int l2)] [] K x Q := by
  show mGM mX8_findName 2 [some (.ref b0), some (.int l1), some (.int l2)] [] (hp K x) (PI K Q)
  refine r_iload_n (pc := 2) dX8_findName_2 rfl ?_
  refine r_aload_n (pc := 3) dX8_findName_3 rfl ?_
  refine s_getR (pc := 4) dX8_findName_4 fl_X8_16 rfl k_b0 g_b0_3 ?_
  refine r_iconst (pc := 7) (v := 1) dX8_findName_7 (by decide) ?_
  obtain ⟨i_1, K0⟩ := K0
  refine s_iald (pc := 8) dX8_findName_8 k_b0_3 i_1 ?_
  refine r_icmp_ge (pc := 9) (tgt := 33) dX8_findName_9 (by decide) (fun q => ?_) (fun q => ?_)
  · have K0 := K0.1 q
    refine r_iconst (pc := 33) (v := (-1)) dX8_findName_33 (by decide) ?_
    exact s_iret rfl dX8_findName_34 K0
  · have K0 := K0.2 q
    refine r_aload_n (pc := 12) dX8_findName_12 rfl ?_
    refine s_getR (pc := 13) dX8_findName_13 fl_X8_16 rfl k_b0 g_b0_3 ?_
    refine r_bipush (pc := 16) (v := 54) dX8_findName_16 (by decide) ?_
    refine r_iload_n (pc := 18) dX8_findName_18 rfl ?_
    refine r_iadd (pc := 19) dX8_findName_19 ?_
    obtain ⟨i_3, K0⟩ := K0
    refine s_iald (pc := 20) dX8_findName_20 k_b0_3 i_3 ?_
    refine r_iload_n (pc := 21) dX8_findName_21 rfl ?_
    refine r_icmp_ne (pc := 22) (tgt := 27) dX8_findName_22 (by decide) (fun q => ?_) (fun q => ?_)
    · have K0 := K0.1 q
      refine r_iinc (pc := 27) (v := l2 + 1) dX8_findName_27 rfl rfl (by decide) ?_
      refine r_goto (pc := 30) (L := [some (.ref b0), some (.int l1), some (.int (l2 + 1))]) (tgt := 2) dX8_findName_30 (by decide) ?_
      exact r_le (L' := [some (.ref b0), some (.int l1), some (.int (l2 + 1))]) ⟨rfl, ⟨rfl, ⟨rfl, trivial⟩⟩⟩ K0
    · have K0 := K0.2 q
      refine r_iload_n (pc := 25) dX8_findName_25 rfl ?_
      exact s_iret rfl dX8_findName_26 K0
section
theorem sp_X8_findName {x : Cn} {Q : Int32 → Cn → Prop} {t C v : Nat} (M : MRf x t) (ht : kk KW t = some (20, 518)) (h1 : gi x t 1 = nI C) (hC : C ≤ 8) (k : Q (fnd (gi x t) C v) x) : mSI mX8_findName [.ref 717, .int (nI v)] KW x Q := by
  refine v_X8_findName_0 (lp_gen (stN (gi x t) v) (fun _ => -1) (fun c _ => GI mX8_findName 2 [some (.ref 717), some (.int (nI v)), some (.int (nI c))] [] KW x Q) (fun r => Q r x) C (fun _ q => ?_) (fun c _ hc n1 n2 => ?_) C 0 () (by omega) k)
  · exact v_X8_findName_2 km M.2.2.1 ht ⟨v0 (k := 1) (by decide) rfl rfl, fun _ => q, fun z => absurd (by rw [h1]; exact Int32.le_refl _) z⟩
  · refine v_X8_findName_2 km M.2.2.1 ht ⟨v0 (k := 1) (by decide) rfl rfl, fun z => absurd (by rw [h1] at z; exact z) (nI_ge hc (by omega)), fun _ => ?_⟩
    rw [show (54 : Int32) + nI c = nI (54 + c) from nI_add 54 c, nI_clamp (by omega), nI_1]
    refine ⟨vp_in_nI (by omega) (by decide), fun z => n1 () ?_, fun z => n2 _ ?_⟩
    · unfold stN; rw [if_neg z]
    · unfold stN; rw [if_pos z]
end
set_option maxHeartbeats 2000000 in
theorem v_X8_packed_0 {K : Sh} {x : Cn} {Q : Int32 → Cn → Prop} {b0 : Nat} {l1 : Int32} {l2 : Int32}   (K0 : GI mX8_packed 5 [some (.ref b0), some (.int l1), some (.int l2), some (.int 0), some (.int 0)] [] K x Q) : mSI mX8_packed [.ref b0, .int l1, .int l2] K x Q := by
  refine s_I (by decide) (by simp [Value.category]) (Nat.le_of_ble_eq_true rfl) ?_
  show mGM mX8_packed 0 [some (.ref b0), some (.int l1), some (.int l2), none, none] [] (hp K x) (PI K Q)
  refine r_iconst (pc := 0) (v := 0) dX8_packed_0 (by decide) ?_
  refine r_istore_n (pc := 1) dX8_packed_1 (by decide) ?_
  refine r_iconst (pc := 2) (L := [some (.ref b0), some (.int l1), some (.int l2), some (.int 0), none]) (v := 0) dX8_packed_2 (by decide) ?_
  refine r_istore (pc := 3) dX8_packed_3 (by decide) ?_
  exact r_le (L' := [some (.ref b0), some (.int l1), some (.int l2), some (.int 0), some (.int 0)]) ⟨rfl, ⟨rfl, ⟨rfl, ⟨rfl, ⟨rfl, trivial⟩⟩⟩⟩⟩ K0
set_option maxHeartbeats 2000000 in
theorem v_X8_packed_5 {K : Sh} {x : Cn} {Q : Int32 → Cn → Prop} {b0 : Nat} {l1 : Int32} {l2 : Int32} {l3 : Int32} {l4 : Int32} {b0_4 : Nat} {n_b0_4 : Nat} (k_b0 : kk K b0 = some (8, 0)) (g_b0_4 : gr x b0 4 = some b0_4) (k_b0_4 : kk K b0_4 = some (21, n_b0_4)) (K0 : (6 ≤ l4 → (Q l3 x)) ∧ (¬ 6 ≤ l4 → ((l2 ≤ (l1 + l4) → (GI mX8_packed 5 [some (.ref b0), some (.int l1), some (.int l2), some (.int ((27 * l3) + 0)), some (.int (l4 + 1))] [] K x Q)) ∧ (¬ l2 ≤ (l1 + l4) → (vp_in (l1 + l4) n_b0_4 ∧ (∀ r_4 : Int32, r_4 = ((27 * l3) + (((gi x b0_4 ((l1 + l4) : Int32).toNatClampNeg) - 97) + 1)) → (GI mX8_packed 5 [some (.ref b0), some (.int l1), some (.int l2), some (.int r_4), some (.int (l4 + 1))] [] K x Q))))))) : GI mX8_packed 5 [some (.ref b0), some (.int l1), some (.int l2), some (.int l3), some (.int l4)] [] K x Q := by
  show mGM mX8_packed 5 [some (.ref b0), some (.int l1), some (.int l2), some (.int l3), some (.int l4)] [] (hp K x) (PI K Q)
  refine r_iload (pc := 5) dX8_packed_5 rfl ?_
  refine r_bipush (pc := 7) (v := 6) dX8_packed_7 (by decide) ?_
  refine r_icmp_ge (pc := 9) (tgt := 50) dX8_packed_9 (by decide) (fun q => ?_) (fun q => ?_)
  · have K0 := K0.1 q
    refine r_iload_n (pc := 50) dX8_packed_50 rfl ?_
    exact s_iret rfl dX8_packed_51 K0
  · have K0 := K0.2 q
    refine r_bipush (pc := 12) (v := 27) dX8_packed_12 (by decide) ?_
    refine r_iload_n (pc := 14) dX8_packed_14 rfl ?_
    refine r_imul (pc := 15) dX8_packed_15 ?_
    refine r_iload_n (pc := 16) dX8_packed_16 rfl ?_
    refine r_iload (pc := 17) dX8_packed_17 rfl ?_
    refine r_iadd (pc := 19) dX8_packed_19 ?_
    refine r_iload_n (pc := 20) dX8_packed_20 rfl ?_
    refine r_icmp_ge (pc := 21) (tgt := 41) dX8_packed_21 (by decide) (fun q => ?_) (fun q => ?_)
    · have K0 := K0.1 q
      refine r_iconst (pc := 41) (v := 0) dX8_packed_41 (by decide) ?_
      refine r_iadd (pc := 42) dX8_packed_42 ?_
      refine r_istore_n (pc := 43) dX8_packed_43 (by decide) ?_
      refine r_iinc (pc := 44) (L := [some (.ref b0), some (.int l1), some (.int l2), some (.int ((27 * l3) + 0)), some (.int l4)]) (v := l4 + 1) dX8_packed_44 rfl rfl (by decide) ?_
      refine r_goto (pc := 47) (L := [some (.ref b0), some (.int l1), some (.int l2), some (.int ((27 * l3) + 0)), some (.int (l4 + 1))]) (tgt := 5) dX8_packed_47 (by decide) ?_
      exact r_le (L' := [some (.ref b0), some (.int l1), some (.int l2), some (.int ((27 * l3) + 0)), some (.int (l4 + 1))]) ⟨rfl, ⟨rfl, ⟨rfl, ⟨rfl, ⟨rfl, trivial⟩⟩⟩⟩⟩ K0
    · have K0 := K0.2 q
      refine r_aload_n (pc := 24) dX8_packed_24 rfl ?_
      refine s_getR (pc := 25) dX8_packed_25 fl_X8_19 rfl k_b0 g_b0_4 ?_
      refine r_iload_n (pc := 28) dX8_packed_28 rfl ?_
      refine r_iload (pc := 29) dX8_packed_29 rfl ?_
      refine r_iadd (pc := 31) dX8_packed_31 ?_
      obtain ⟨i_3, K0⟩ := K0
      refine s_bald (pc := 32) dX8_packed_32 k_b0_4 i_3 ?_
      refine r_bipush (pc := 33) (v := 97) dX8_packed_33 (by decide) ?_
      refine r_isub (pc := 35) dX8_packed_35 ?_
      refine r_iconst (pc := 36) (v := 1) dX8_packed_36 (by decide) ?_
      refine r_iadd (pc := 37) dX8_packed_37 ?_
      refine r_goto (pc := 38) (tgt := 42) dX8_packed_38 (by decide) ?_
      refine r_iadd (pc := 42) dX8_packed_42 ?_
      obtain ⟨r_4, w_5⟩ : ∃ z : Int32, z = ((27 * l3) + (((gi x b0_4 ((l1 + l4) : Int32).toNatClampNeg) - 97) + 1)) := ⟨_, rfl⟩
      rw [← w_5]
      have K0 := K0 r_4 w_5
      refine r_istore_n (pc := 43) dX8_packed_43 (by decide) ?_
      refine r_iinc (pc := 44) (L := [some (.ref b0), some (.int l1), some (.int l2), some (.int r_4), some (.int l4)]) (v := l4 + 1) dX8_packed_44 rfl rfl (by decide) ?_
      refine r_goto (pc := 47) (L := [some (.ref b0), some (.int l1), some (.int l2), some (.int r_4), some (.int (l4 + 1))]) (tgt := 5) dX8_packed_47 (by decide) ?_
      exact r_le (L' := [some (.ref b0), some (.int l1), some (.int l2), some (.int r_4), some (.int (l4 + 1))]) ⟨rfl, ⟨rfl, ⟨rfl, ⟨rfl, ⟨rfl, trivial⟩⟩⟩⟩⟩ K0
section
theorem sp_X8_packed {x : Cn} {Q : Int32 → Cn → Prop} {t fr to : Nat} (M : MRf x t) (h : ltr (gi x 720) fr to) (hto : to ≤ 1200) (hft : fr ≤ to) (k : Q (nI (pkv (gi x 720) fr to)) x) : mSI mX8_packed [.ref 717, .int (nI fr), .int (nI to)] KW x Q := by
  have key : ∀ r i, i + r = 6 → GI mX8_packed 5 [some (.ref 717), some (.int (nI fr)), some (.int (nI to)), some (.int (nI (pkn (gi x 720) fr to i))), some (.int (nI i))] [] KW x Q := by
    intro r
    induction r with
    | zero =>
      intro i hi
      have : i = 6 := by omega
      subst this
      exact v_X8_packed_5 km M.2.2.2.1 km720 ⟨fun _ => k, fun z => absurd (Int32.le_refl _) z⟩
    | succ r ih =>
      intro i hi
      have pn := pkn_lt h i (by omega)
      have p5 : 27 ^ i ≤ 27 ^ 5 := Nat.pow_le_pow_right (by decide) (by omega)
      have p6 : (27 : Nat) ^ 5 = 14348907 := by decide
      have i2 : nI fr + nI i = nI (fr + i) := nI_add fr i
      have m27 : (27 : Int32) * nI (pkn (gi x 720) fr to i) = nI (27 * pkn (gi x 720) fr to i) := pk_mul 27 _
      refine v_X8_packed_5 km M.2.2.2.1 km720 ⟨fun z => absurd z (nI_ge (b := 6) (by omega) (by decide)), fun _ => ?_⟩
      rw [i2, nI_1, nI_clamp (by omega), nI_leI (by omega) (by omega), m27]
      refine ⟨fun z => ?_, fun z => ⟨vp_in_nI (by omega) (by decide), fun q hq => ?_⟩⟩
      · have e : nI (27 * pkn (gi x 720) fr to i) + 0 = nI (pkn (gi x 720) fr to (i + 1)) := by
          show nI (27 * pkn (gi x 720) fr to i) + nI 0 = nI (27 * pkn (gi x 720) fr to i + bd (gi x 720) fr to i)
          rw [nI_add]
          congr 1
          unfold bd
          rw [if_neg (by omega)]
        rw [e]
        exact ih (i + 1) (by omega)
      · obtain ⟨m, m1, m2, m3⟩ := h (fr + i) (by omega) (by omega)
        have e : q = nI (pkn (gi x 720) fr to (i + 1)) := by
          show q = nI (27 * pkn (gi x 720) fr to i + bd (gi x 720) fr to i)
          rw [hq, m3, let_v m1 m2, nI_add]
          congr 1
          unfold bd
          rw [if_pos (by omega), m3, nI_clamp (by omega)]
        rw [e]
        exact ih (i + 1) (by omega)
  exact v_X8_packed_0 (key 6 0 (by omega))
end
set_option maxHeartbeats 2000000 in
theorem v_X7_find_0 {K : Sh} {x : Cn} {Q : Int32 → Cn → Prop} {b0 : Nat} {b0_2 : Nat} (k_b0 : kk K b0 = some (7, 0)) (g_b0_2 : gr x b0 2 = some b0_2) (k_b0_2 : kk K b0_2 = some (4, 0)) (K0 : (¬ (0 < gi (ui x b0 1 0) b0_2 0) → (Q (-2) (ui x b0 1 0))) ∧ ((0 < gi (ui x b0 1 0) b0_2 0) → (((1 ≤ (gi x b0 1) ∧ (gi x b0 1) ≤ 6) → (GI mX7_find 32 [some (.ref b0), some (.int (gi x b0 1)), some (.int 0)] [] K (ui x b0 1 0) Q)) ∧ (¬ (1 ≤ (gi x b0 1) ∧ (gi x b0 1) ≤ 6) → (Q (-2) (ui x b0 1 0)))))) : mSI mX7_find [.ref b0] K x Q := by
  refine s_I (by decide) (by simp [Value.category]) (Nat.le_of_ble_eq_true rfl) ?_
  show mGM mX7_find 0 [some (.ref b0), none, none] [] (hp K x) (PI K Q)
  refine r_aload_n (pc := 0) dX7_find_0 rfl ?_
  refine s_getI (pc := 1) dX7_find_1 fl_X7_13 rfl k_b0 ?_
  refine r_istore_n (pc := 4) dX7_find_4 (by decide) ?_
  refine r_aload_n (pc := 5) (L := [some (.ref b0), some (.int (gi x b0 1)), none]) dX7_find_5 rfl ?_
  refine r_iconst (pc := 6) (v := 0) dX7_find_6 (by decide) ?_
  refine s_putI (pc := 7) dX7_find_7 fl_X7_13 rfl rfl k_b0 ?_
  refine r_aload_n (pc := 10) dX7_find_10 rfl ?_
  refine s_VI (pc := 11) mX7_hasText (ci := 7) (a := b0) (As := []) dX7_find_11 lk_X7_121 in_X7_hasText mo_X7_hasText ⟨by decide, rfl⟩ ⟨by decide, by decide⟩ (Nat.le_of_ble_eq_true rfl) k_b0 (sp_X7_hasText k_b0 g_b0_2 k_b0_2 ?_)
  refine r_if_eq (pc := 14) (tgt := 27) dX7_find_14 (by decide) (fun q => ?_) (fun q => ?_)
  · have q := (b2i_z _).mp q
    have K0 := K0.1 q
    refine r_bipush (pc := 27) (v := (-2)) dX7_find_27 (by decide) ?_
    exact s_iret rfl dX7_find_29 K0
  · have q := b2i_nz q
    have K0 := K0.2 q
    refine r_iload_n (pc := 17) dX7_find_17 rfl ?_
    refine r_iconst (pc := 18) (v := 1) dX7_find_18 (by decide) ?_
    refine r_bipush (pc := 19) (v := 6) dX7_find_19 (by decide) ?_
    refine s_SI (pc := 21) mX7_isWithin (As := [.int (gi x b0 1), .int 1, .int 6]) dX7_find_21 lk_X7_113 st_X7_isWithin mo_X7_isWithin ⟨by decide, by decide⟩ (Nat.le_of_ble_eq_true rfl) (sp_X7_isWithin  ?_)
    refine r_if_ne (pc := 24) (tgt := 30) dX7_find_24 (by decide) (fun q => ?_) (fun q => ?_)
    · have q := b2i_nz q
      have K0 := K0.1 q
      refine r_iconst (pc := 30) (v := 0) dX7_find_30 (by decide) ?_
      refine r_istore_n (pc := 31) dX7_find_31 (by decide) ?_
      exact r_le (L' := [some (.ref b0), some (.int (gi x b0 1)), some (.int 0)]) ⟨rfl, ⟨rfl, ⟨rfl, trivial⟩⟩⟩ K0
    · have q := (b2i_z _).mp q
      have K0 := K0.2 q
      refine r_bipush (pc := 27) (v := (-2)) dX7_find_27 (by decide) ?_
      exact s_iret rfl dX7_find_29 K0
set_option maxHeartbeats 2000000 in
theorem v_X7_find_32 {K : Sh} {x : Cn} {Q : Int32 → Cn → Prop} {b0 : Nat} {l1 : Int32} {l2 : Int32} {b0_3 : Nat} {b0_0 : Nat} {n_b0_0 : Nat} (k_b0 : kk K b0 = some (7, 0)) (g_b0_3 : gr x b0 3 = some b0_3) (g_b0_0 : gr x b0 0 = some b0_0) (k_b0_3 : kk K b0_3 = some (1, 0)) (k_b0_0 : kk K b0_0 = some (21, n_b0_0)) (K0 : (l1 ≤ l2 → (mSI mX1_carrierNamed [.ref b0_3, .ref b0_0, .int 0, .int l1] K x (fun r_3 y_2 => Q r_3 y_2))) ∧ (¬ l1 ≤ l2 → (vp_in l2 n_b0_0 ∧ (((97 ≤ (gi x b0_0 (l2 : Int32).toNatClampNeg) ∧ (gi x b0_0 (l2 : Int32).toNatClampNeg) ≤ 122) → (GI mX7_find 32 [some (.ref b0), some (.int l1), some (.int (l2 + 1))] [] K x Q)) ∧ (¬ (97 ≤ (gi x b0_0 (l2 : Int32).toNatClampNeg) ∧ (gi x b0_0 (l2 : Int32).toNatClampNeg) ≤ 122) → (Q (-2) x)))))) : GI mX7_find 32 [some (.ref b0), some (.int l1), some (.int l2)] [] K x Q := by
  show mGM mX7_find 32 [some (.ref b0), some (.int l1), some (.int l2)] [] (hp K x) (PI K Q)
  refine r_iload_n (pc := 32) dX7_find_32 rfl ?_
  refine r_iload_n (pc := 33) dX7_find_33 rfl ?_
  refine r_icmp_ge (pc := 34) (tgt := 58) dX7_find_34 (by decide) (fun q => ?_) (fun q => ?_)
  · have K0 := K0.1 q
    refine r_aload_n (pc := 58) dX7_find_58 rfl ?_
    refine s_getR (pc := 59) dX7_find_59 fl_X7_27 rfl k_b0 g_b0_3 ?_
    refine r_aload_n (pc := 62) dX7_find_62 rfl ?_
    refine s_getR (pc := 63) dX7_find_63 fl_X7_9 rfl k_b0 g_b0_0 ?_
    refine r_iconst (pc := 66) (v := 0) dX7_find_66 (by decide) ?_
    refine r_iload_n (pc := 67) dX7_find_67 rfl ?_
    refine s_VI (pc := 68) mX1_carrierNamed (ci := 1) (a := b0_3) (As := [.ref b0_0, .int 0, .int l1]) dX7_find_68 lk_X7_128 in_X1_carrierNamed mo_X1_carrierNamed ⟨by decide, rfl⟩ ⟨by decide, by decide⟩ (Nat.le_of_ble_eq_true rfl) k_b0_3 (mSI_mono K0 (fun r_3 y_2 K0 => ?_))
    exact s_iret rfl dX7_find_71 K0
  · have K0 := K0.2 q
    refine r_aload_n (pc := 37) dX7_find_37 rfl ?_
    refine s_getR (pc := 38) dX7_find_38 fl_X7_9 rfl k_b0 g_b0_0 ?_
    refine r_iload_n (pc := 41) dX7_find_41 rfl ?_
    obtain ⟨i_4, K0⟩ := K0
    refine s_bald (pc := 42) dX7_find_42 k_b0_0 i_4 ?_
    refine s_SI (pc := 43) mX7_isLetter (As := [.int (gi x b0_0 (l2 : Int32).toNatClampNeg)]) dX7_find_43 lk_X7_125 st_X7_isLetter mo_X7_isLetter ⟨by decide, by decide⟩ (Nat.le_of_ble_eq_true rfl) (sp_X7_isLetter  ?_)
    refine r_if_ne (pc := 46) (tgt := 52) dX7_find_46 (by decide) (fun q => ?_) (fun q => ?_)
    · have q := b2i_nz q
      have K0 := K0.1 q
      refine r_iinc (pc := 52) (v := l2 + 1) dX7_find_52 rfl rfl (by decide) ?_
      refine r_goto (pc := 55) (L := [some (.ref b0), some (.int l1), some (.int (l2 + 1))]) (tgt := 32) dX7_find_55 (by decide) ?_
      exact r_le (L' := [some (.ref b0), some (.int l1), some (.int (l2 + 1))]) ⟨rfl, ⟨rfl, ⟨rfl, trivial⟩⟩⟩ K0
    · have q := (b2i_z _).mp q
      have K0 := K0.2 q
      refine r_bipush (pc := 49) (v := (-2)) dX7_find_49 (by decide) ?_
      exact s_iret rfl dX7_find_51 K0
set_option maxHeartbeats 2000000 in
theorem v_X8_find_0 {K : Sh} {x : Cn} {Q : Int32 → Cn → Prop} {b0 : Nat} {b0_1 : Nat} {n_b0_1 : Nat} (k_b0 : kk K b0 = some (8, 0)) (g_b0_1 : gr x b0 1 = some b0_1) (k_b0_1 : kk K b0_1 = some (20, n_b0_1)) (K0 : vp_in 0 n_b0_1 ∧ ((¬ (0 < gi (ui x b0 5 0) b0_1 0) → (GI mX8_find 37 [some (.ref b0), some (.int (gi x b0 5)), some (.int 0), some (.int 0)] [] K (ui x b0 5 0) Q)) ∧ ((0 < gi (ui x b0 5 0) b0_1 0) → ((¬ (1 ≤ (gi x b0 5) ∧ (gi x b0 5) ≤ 6) → (GI mX8_find 37 [some (.ref b0), some (.int (gi x b0 5)), some (.int 0), some (.int 0)] [] K (ui x b0 5 0) Q)) ∧ ((1 ≤ (gi x b0 5) ∧ (gi x b0 5) ≤ 6) → (GI mX8_find 37 [some (.ref b0), some (.int (gi x b0 5)), some (.int 1), some (.int 0)] [] K (ui x b0 5 0) Q)))))) : mSI mX8_find [.ref b0] K x Q := by
  refine s_I (by decide) (by simp [Value.category]) (Nat.le_of_ble_eq_true rfl) ?_
  show mGM mX8_find 0 [some (.ref b0), none, none, none] [] (hp K x) (PI K Q)
  refine r_aload_n (pc := 0) dX8_find_0 rfl ?_
  refine s_getI (pc := 1) dX8_find_1 fl_X8_94 rfl k_b0 ?_
  refine r_istore_n (pc := 4) dX8_find_4 (by decide) ?_
  refine r_aload_n (pc := 5) (L := [some (.ref b0), some (.int (gi x b0 5)), none, none]) dX8_find_5 rfl ?_
  refine r_iconst (pc := 6) (v := 0) dX8_find_6 (by decide) ?_
  refine s_putI (pc := 7) dX8_find_7 fl_X8_94 rfl rfl k_b0 ?_
  refine r_aload_n (pc := 10) dX8_find_10 rfl ?_
  obtain ⟨i_1, K0⟩ := K0
  refine s_VI (pc := 11) mX8_isThere (ci := 8) (a := b0) (As := []) dX8_find_11 lk_X8_49 in_X8_isThere mo_X8_isThere ⟨by decide, rfl⟩ ⟨by decide, by decide⟩ (Nat.le_of_ble_eq_true rfl) k_b0 (sp_X8_isThere k_b0 g_b0_1 k_b0_1 i_1 ?_)
  refine r_if_eq (pc := 14) (tgt := 33) dX8_find_14 (by decide) (fun q => ?_) (fun q => ?_)
  · have q := (b2i_z _).mp q
    have K0 := K0.1 q
    refine r_iconst (pc := 33) (v := 0) dX8_find_33 (by decide) ?_
    refine r_istore_n (pc := 34) dX8_find_34 (by decide) ?_
    refine r_iconst (pc := 35) (L := [some (.ref b0), some (.int (gi x b0 5)), some (.int 0), none]) (v := 0) dX8_find_35 (by decide) ?_
    refine r_istore_n (pc := 36) dX8_find_36 (by decide) ?_
    exact r_le (L' := [some (.ref b0), some (.int (gi x b0 5)), some (.int 0), some (.int 0)]) ⟨rfl, ⟨rfl, ⟨rfl, ⟨rfl, trivial⟩⟩⟩⟩ K0
  · have q := b2i_nz q
    have K0 := K0.2 q
    refine r_iload_n (pc := 17) dX8_find_17 rfl ?_
    refine r_i2l (pc := 18) dX8_find_18 ?_
    refine r_lconst (pc := 19) (v := 1) dX8_find_19 (by decide) ?_
    refine r_ldc2 (pc := 20) (v := 6) dX8_find_20 cn_X8_53 ?_
    refine s_SI (pc := 23) mX8_in (As := [.long (((gi x b0 5) : Int32).toInt64), .long 1, .long 6]) dX8_find_23 lk_X8_45 st_X8_in mo_X8_in ⟨by decide, by decide⟩ (Nat.le_of_ble_eq_true rfl) (sq_X8_in (v := (gi x b0 5)) (lo := 1) (hi := 6) rfl (by decide) (by decide) ?_)
    refine r_if_eq (pc := 26) (tgt := 33) dX8_find_26 (by decide) (fun q => ?_) (fun q => ?_)
    · have q := (b2i_z _).mp q
      have K0 := K0.1 q
      refine r_iconst (pc := 33) (v := 0) dX8_find_33 (by decide) ?_
      refine r_istore_n (pc := 34) dX8_find_34 (by decide) ?_
      refine r_iconst (pc := 35) (L := [some (.ref b0), some (.int (gi x b0 5)), some (.int 0), none]) (v := 0) dX8_find_35 (by decide) ?_
      refine r_istore_n (pc := 36) dX8_find_36 (by decide) ?_
      exact r_le (L' := [some (.ref b0), some (.int (gi x b0 5)), some (.int 0), some (.int 0)]) ⟨rfl, ⟨rfl, ⟨rfl, ⟨rfl, trivial⟩⟩⟩⟩ K0
    · have q := b2i_nz q
      have K0 := K0.2 q
      refine r_iconst (pc := 29) (v := 1) dX8_find_29 (by decide) ?_
      refine r_goto (pc := 30) (tgt := 34) dX8_find_30 (by decide) ?_
      refine r_istore_n (pc := 34) dX8_find_34 (by decide) ?_
      refine r_iconst (pc := 35) (L := [some (.ref b0), some (.int (gi x b0 5)), some (.int 1), none]) (v := 0) dX8_find_35 (by decide) ?_
      refine r_istore_n (pc := 36) dX8_find_36 (by decide) ?_
      exact r_le (L' := [some (.ref b0), some (.int (gi x b0 5)), some (.int 1), some (.int 0)]) ⟨rfl, ⟨rfl, ⟨rfl, ⟨rfl, trivial⟩⟩⟩⟩ K0
set_option maxHeartbeats 2000000 in
theorem v_X8_find_37 {K : Sh} {x : Cn} {Q : Int32 → Cn → Prop} {b0 : Nat} {l1 : Int32} {l2 : Int32} {l3 : Int32} {b0_4 : Nat} {n_b0_4 : Nat} (k_b0 : kk K b0 = some (8, 0)) (g_b0_4 : gr x b0 4 = some b0_4) (k_b0_4 : kk K b0_4 = some (21, n_b0_4)) (K0 : (l1 ≤ l3 → ((l2 = 0 → (Q (-2) x)) ∧ (¬ l2 = 0 → (mSI mX8_packed [.ref b0, .int 0, .int l1] K x (fun r_4 y_3 => mSI mX8_findName [.ref b0, .int r_4] K y_3 (fun r_6 y_5 => Q r_6 y_5)))))) ∧ (¬ l1 ≤ l3 → ((l2 = 0 → ((l2 = 0 → (Q (-2) x)) ∧ (¬ l2 = 0 → (mSI mX8_packed [.ref b0, .int 0, .int l1] K x (fun r_10 y_9 => mSI mX8_findName [.ref b0, .int r_10] K y_9 (fun r_12 y_11 => Q r_12 y_11)))))) ∧ (¬ l2 = 0 → (vp_in l3 n_b0_4 ∧ (∀ r_14 : Int32, r_14 = (b2i (97 ≤ (gi x b0_4 (l3 : Int32).toNatClampNeg) ∧ (gi x b0_4 (l3 : Int32).toNatClampNeg) ≤ 122)) → (GI mX8_find 37 [some (.ref b0), some (.int l1), some (.int r_14), some (.int (l3 + 1))] [] K x Q))))))) : GI mX8_find 37 [some (.ref b0), some (.int l1), some (.int l2), some (.int l3)] [] K x Q := by
  show mGM mX8_find 37 [some (.ref b0), some (.int l1), some (.int l2), some (.int l3)] [] (hp K x) (PI K Q)
  refine r_iload_n (pc := 37) dX8_find_37 rfl ?_
  refine r_iload_n (pc := 38) dX8_find_38 rfl ?_
  refine r_icmp_ge (pc := 39) (tgt := 69) dX8_find_39 (by decide) (fun q => ?_) (fun q => ?_)
  · have K0 := K0.1 q
    refine r_iload_n (pc := 69) dX8_find_69 rfl ?_
    refine r_if_eq (pc := 70) (tgt := 86) dX8_find_70 (by decide) (fun q => ?_) (fun q => ?_)
    · have K0 := K0.1 q
      refine r_bipush (pc := 86) (v := (-2)) dX8_find_86 (by decide) ?_
      exact s_iret rfl dX8_find_88 K0
    · have K0 := K0.2 q
      refine r_aload_n (pc := 73) dX8_find_73 rfl ?_
      refine r_aload_n (pc := 74) dX8_find_74 rfl ?_
      refine r_iconst (pc := 75) (v := 0) dX8_find_75 (by decide) ?_
      refine r_iload_n (pc := 76) dX8_find_76 rfl ?_
      refine s_VI (pc := 77) mX8_packed (ci := 8) (a := b0) (As := [.int 0, .int l1]) dX8_find_77 lk_X8_204 in_X8_packed mo_X8_packed ⟨by decide, rfl⟩ ⟨by decide, by decide⟩ (Nat.le_of_ble_eq_true rfl) k_b0 (mSI_mono K0 (fun r_4 y_3 K0 => ?_))
      refine s_VI (pc := 80) mX8_findName (ci := 8) (a := b0) (As := [.int r_4]) dX8_find_80 lk_X8_224 in_X8_findName mo_X8_findName ⟨by decide, rfl⟩ ⟨by decide, by decide⟩ (Nat.le_of_ble_eq_true rfl) k_b0 (mSI_mono K0 (fun r_6 y_5 K0 => ?_))
      refine r_goto (pc := 83) (tgt := 88) dX8_find_83 (by decide) ?_
      exact s_iret rfl dX8_find_88 K0
  · have K0 := K0.2 q
    refine r_iload_n (pc := 42) dX8_find_42 rfl ?_
    refine r_if_eq (pc := 43) (tgt := 69) dX8_find_43 (by decide) (fun q => ?_) (fun q => ?_)
    · have K0 := K0.1 q
      refine r_iload_n (pc := 69) dX8_find_69 rfl ?_
      refine r_if_eq (pc := 70) (tgt := 86) dX8_find_70 (by decide) (fun q => ?_) (fun q => ?_)
      · have K0 := K0.1 q
        refine r_bipush (pc := 86) (v := (-2)) dX8_find_86 (by decide) ?_
        exact s_iret rfl dX8_find_88 K0
      · have K0 := K0.2 q
        refine r_aload_n (pc := 73) dX8_find_73 rfl ?_
        refine r_aload_n (pc := 74) dX8_find_74 rfl ?_
        refine r_iconst (pc := 75) (v := 0) dX8_find_75 (by decide) ?_
        refine r_iload_n (pc := 76) dX8_find_76 rfl ?_
        refine s_VI (pc := 77) mX8_packed (ci := 8) (a := b0) (As := [.int 0, .int l1]) dX8_find_77 lk_X8_204 in_X8_packed mo_X8_packed ⟨by decide, rfl⟩ ⟨by decide, by decide⟩ (Nat.le_of_ble_eq_true rfl) k_b0 (mSI_mono K0 (fun r_10 y_9 K0 => ?_))
        refine s_VI (pc := 80) mX8_findName (ci := 8) (a := b0) (As := [.int r_10]) dX8_find_80 lk_X8_224 in_X8_findName mo_X8_findName ⟨by decide, rfl⟩ ⟨by decide, by decide⟩ (Nat.le_of_ble_eq_true rfl) k_b0 (mSI_mono K0 (fun r_12 y_11 K0 => ?_))
        refine r_goto (pc := 83) (tgt := 88) dX8_find_83 (by decide) ?_
        exact s_iret rfl dX8_find_88 K0
    · have K0 := K0.2 q
      refine r_aload_n (pc := 46) dX8_find_46 rfl ?_
      refine s_getR (pc := 47) dX8_find_47 fl_X8_19 rfl k_b0 g_b0_4 ?_
      refine r_iload_n (pc := 50) dX8_find_50 rfl ?_
      obtain ⟨i_13, K0⟩ := K0
      refine s_bald (pc := 51) dX8_find_51 k_b0_4 i_13 ?_
      refine r_i2l (pc := 52) dX8_find_52 ?_
      refine r_ldc2 (pc := 53) (v := 97) dX8_find_53 cn_X8_122 ?_
      refine r_ldc2 (pc := 56) (v := 122) dX8_find_56 cn_X8_124 ?_
      refine s_SI (pc := 59) mX8_in (As := [.long (((gi x b0_4 (l3 : Int32).toNatClampNeg) : Int32).toInt64), .long 97, .long 122]) dX8_find_59 lk_X8_45 st_X8_in mo_X8_in ⟨by decide, by decide⟩ (Nat.le_of_ble_eq_true rfl) (sq_X8_in (v := (gi x b0_4 (l3 : Int32).toNatClampNeg)) (lo := 97) (hi := 122) rfl (by decide) (by decide) ?_)
      obtain ⟨r_14, w_15⟩ : ∃ z : Int32, z = (b2i (97 ≤ (gi x b0_4 (l3 : Int32).toNatClampNeg) ∧ (gi x b0_4 (l3 : Int32).toNatClampNeg) ≤ 122)) := ⟨_, rfl⟩
      rw [← w_15]
      have K0 := K0 r_14 w_15
      refine r_istore_n (pc := 62) dX8_find_62 (by decide) ?_
      refine r_iinc (pc := 63) (L := [some (.ref b0), some (.int l1), some (.int r_14), some (.int l3)]) (v := l3 + 1) dX8_find_63 rfl rfl (by decide) ?_
      refine r_goto (pc := 66) (L := [some (.ref b0), some (.int l1), some (.int r_14), some (.int (l3 + 1))]) (tgt := 37) dX8_find_66 (by decide) ?_
      exact r_le (L' := [some (.ref b0), some (.int l1), some (.int r_14), some (.int (l3 + 1))]) ⟨rfl, ⟨rfl, ⟨rfl, ⟨rfl, trivial⟩⟩⟩⟩ K0
theorem eq_feed (a b c d e : Int32) : Both mX7_feed mX8_feed [.int a, .int b, .int c, .int d, .int e] := by
  intro x R
  obtain ⟨n, hn, t1, t2, t3⟩ := R.2.2.2.1
  have i20 : nI n + 20 = nI (n + 20) := nI_add n 20
  have hle : (nI n + 20 ≤ 1200) ↔ n + 20 ≤ 1200 := by rw [i20]; exact nI_leI (b := 1200) (by omega) (by decide)
  refine v_X7_feed_0 k0 ?_
  rw [t1, hle]
  refine ⟨fun z => ?_, fun z => v_X8_feed_0 km ⟨fun u => absurd (by rw [t2, hle] at u; exact u) z, fun _ => ⟨rfl, R⟩⟩⟩
  have c0 : CT x (gi x 720) n := ⟨t1, fun i hi => (t3 i hi).1⟩
  have r0 : RT x (gi x 720) n := ⟨t2, fun i hi => rfl⟩
  have cg : ∀ y : Cn, CTf x y → gr y 0 0 = some 1 := fun y fy => by unfold gr; rw [fy.1]; exact R.1.1
  refine sp_X7_putOnTape R.1.1 c0 (by omega) (fun y1 f1 w1 => sp_X7_putOnTape (cg y1 f1) w1 (by omega) (fun y2 f2 w2 => sp_X7_putOnTape (cg y2 (f1.tr f2)) w2 (by omega) (fun y3 f3 w3 => sp_X7_putOnTape (cg y3 (f1.tr (f2.tr f3))) w3 (by omega) (fun y4 f4 w4 => sp_X7_putOnTape (cg y4 (f1.tr (f2.tr (f3.tr f4)))) w4 (by omega) (fun y5 f5 w5 => ?_)))))
  have F5 : CTf x y5 := f1.tr (f2.tr (f3.tr (f4.tr f5)))
  rw [w5.1]
  have M5 : MRf y5 718 := R.2.1.keep F5.1
  have r5 : RT y5 (gi x 720) n := ⟨(F5.2 717 5 (by decide) (by omega)).trans t2, fun i hi => F5.2 720 i (by decide) (by omega)⟩
  refine v_X8_feed_0 km ⟨fun _ => ?_, fun u => absurd (by rw [r5.1, hle]; exact z) u⟩
  have mg : ∀ y : Cn, RTf y5 y → MRf y 718 := fun y fy => M5.keep fy.1
  refine sp_X8_puts4 M5 r5 (by omega) (fun z1 g1 v1 => sp_X8_puts4 (mg z1 g1) v1 (by omega) (fun z2 g2 v2 => sp_X8_puts4 (mg z2 (g1.tr g2)) v2 (by omega) (fun z3 g3 v3 => sp_X8_puts4 (mg z3 (g1.tr (g2.tr g3))) v3 (by omega) (fun z4 g4 v4 => sp_X8_puts4 (mg z4 (g1.tr (g2.tr (g3.tr g4)))) v4 (by omega) (fun z5 g5 v5 => ?_)))))
  have G5 : RTf y5 z5 := g1.tr (g2.tr (g3.tr (g4.tr g5)))
  rw [v5.1]
  refine ⟨rfl, R.tape (G5.1.trans F5.1) (fun a j a1 a2 a3 a4 => (G5.2 a j a3 a4).trans (F5.2 a j a1 a2)) ⟨n + 4 + 4 + 4 + 4 + 4, by omega, ?_, v5.1, fun i hi => ?_⟩⟩
  · rw [G5.2 0 1 (by decide) (by omega)]; exact w5.1
  · rw [G5.2 1 i (by decide) (by omega), w5.2 i hi, v5.2 i hi]
    exact ⟨rfl, uB_is (uB_is (uB_is (uB_is (uB_is (fun i hi => (t3 i hi).2))))) i hi⟩
theorem eq_find : Both mX7_find mX8_find [] := by
  intro x R
  obtain ⟨n, hn, t1, t2, t3⟩ := R.2.2.2.1
  obtain ⟨W, C, S, A, N, E, nm, -⟩ := R.sea
  have hm := E.nums
  have hC : C ≤ 8 := hm.2.2.2.2.2.1
  have t0 := (Rel.t2 E).1
  have tC := (Rel.t2 E).2.1
  have kn : kk KW 56 = some (1, 0) := by decide
  have er : (ui (ui x 0 1 0) 717 5 0).2 = x.2 := rfl
  have eq : ∀ a j, ¬ (a = 0 ∧ j = 1) → ¬ (a = 717 ∧ j = 5) → gi (ui (ui x 0 1 0) 717 5 0) a j = gi x a j := fun a j a2 a4 => by rw [gi_ui, if_neg a4, gi_ui, if_neg a2]
  have Rz : Rel (ui (ui x 0 1 0) 717 5 0) := R.tape er (fun a j a1 a2 a3 a4 => eq a j a2 a4) ⟨0, by decide, by rw [gi_ui, if_neg (by omega), gi_ui, if_pos ⟨rfl, rfl⟩]; rfl, by rw [gi_ui, if_pos ⟨rfl, rfl⟩]; rfl, fun i hi => absurd hi (Nat.not_lt_zero _)⟩
  have My : MRf (ui x 0 1 0) 718 := R.2.1.keep rfl
  have Mz : MRf (ui (ui x 0 1 0) 717 5 0) 718 := R.2.1.keep rfl
  have e5 : gi (ui x 0 1 0) 717 5 = nI n := by rw [gi_ui, if_neg (by omega)]; exact t2
  have tz : ∀ i, gi (ui (ui x 0 1 0) 717 5 0) 718 i = gi x 718 i := fun i => eq 718 i (by omega) (by omega)
  have bz : gi (ui (ui x 0 1 0) 717 5 0) 720 = gi x 720 := funext (fun i => eq 720 i (by omega) (by omega))
  have hin : (1 ≤ nI n ∧ nI n ≤ 6) ↔ (1 ≤ n ∧ n ≤ 6) := by
    rw [show (1 ≤ nI n) ↔ 1 ≤ n from nI_leI (a := 1) (by decide) (by omega), show (nI n ≤ 6) ↔ n ≤ 6 from nI_leI (b := 6) (by omega) (by decide)]
  -- the reference, when it is no name
  have bad : (¬ (0 < nI W) ∨ ¬ (1 ≤ n ∧ n ≤ 6)) → mSI mX8_find [.ref 717] KW (ui x 0 1 0) (fun r' z => -2 = r' ∧ Rel z) := by
    intro hb
    have g37 : GI mX8_find 37 [some (.ref 717), some (.int (nI n)), some (.int 0), some (.int 0)] [] KW (ui (ui x 0 1 0) 717 5 0) (fun r' z => -2 = r' ∧ Rel z) := v_X8_find_37 km Mz.2.2.2.1 km720 ⟨fun _ => ⟨fun _ => ⟨rfl, Rz⟩, fun u => absurd rfl u⟩, fun _ => ⟨fun _ => ⟨fun _ => ⟨rfl, Rz⟩, fun u => absurd rfl u⟩, fun u => absurd rfl u⟩⟩
    refine v_X8_find_0 km My.1 km1 ?_
    rw [e5, tz 0, t0, hin]
    exact ⟨v0 (k := 0) (by decide) rfl rfl, fun _ => g37, fun u1 => ⟨fun _ => g37, fun u2 => absurd u2 (hb.elim (fun z => absurd u1 z) id)⟩⟩
  refine v_X7_find_0 k0 R.1.2.1 (ks0 E.1) ?_
  rw [t1, show gi (ui x 0 1 0) 2 0 = nI W by rw [gi_ui, if_neg (by omega)]; exact hm.1, hin]
  refine ⟨fun z => bad (Or.inl z), fun z1 => ⟨fun z2 => ?_, fun z => bad (Or.inr z)⟩⟩
  have by1 : ∀ i, i < n → gi (ui x 0 1 0) 1 i = gi x 720 i := fun i hi => by rw [gi_ui, if_neg (by omega)]; exact (t3 i hi).1
  have cR : CRf (ui x 0 1 0) := R.1.keep rfl
  -- the reference's walk over the letters
  have ref : ∀ Q : Int32 → Cn → Prop, GI mX8_find 37 [some (.ref 717), some (.int (nI n)), some (.int 1), some (.int 0)] [] KW (ui (ui x 0 1 0) 717 5 0) Q → mSI mX8_find [.ref 717] KW (ui x 0 1 0) Q := by
    intro Q g
    refine v_X8_find_0 km My.1 km1 ?_
    rw [e5, tz 0, t0, hin]
    exact ⟨v0 (k := 0) (by decide) rfl rfl, fun u => absurd z1 u, fun _ => ⟨fun u => absurd z2 u, fun _ => g⟩⟩
  by_cases hl : ∀ i, i < n → (97 ≤ gi x 720 i ∧ gi x 720 i ≤ 122)
  · have lt : ltr (gi x 720) 0 n := fun i _ hi => by
      have := hl i hi
      obtain ⟨m, h1, h2⟩ := nI_of2 (M := 122) (n := 122) (by decide) (Int32.not_lt.mpr (Int32.le_trans (by decide) this.1)) this.2
      refine ⟨m, ?_, h1, h2⟩
      have g := this.1
      rw [h2] at g
      exact (nI_leI (a := 97) (by decide) (by omega)).mp g
    have lt1 : ltr (gi (ui x 0 1 0) 1) 0 n := fun i h0 hi => by rw [by1 i hi]; exact lt i h0 hi
    have pe : pkv (gi (ui x 0 1 0) 1) 0 n = pkv (gi x 720) 0 n := by
      have : ∀ i, bd (gi (ui x 0 1 0) 1) 0 n i = bd (gi x 720) 0 n i := fun i => by
        unfold bd
        by_cases c : 0 + i < n
        · rw [if_pos c, if_pos c, by1 _ c]
        · rw [if_neg c, if_neg c]
      rw [pkv_6, pkv_6, this, this, this, this, this, this]
    have key : ∀ r i, i + r = n → GI mX7_find 32 [some (.ref 0), some (.int (nI n)), some (.int (nI i))] [] KW (ui x 0 1 0) (fun r y => mSI mX8_find [.ref 717] KW y (fun r' z => r = r' ∧ Rel z)) := by
      intro r
      induction r with
      | zero =>
        intro i hi
        have : i = n := by omega
        subst this
        refine v_X7_find_32 k0 cR.2.2.1 cR.1 kn k1t ⟨fun _ => sp_X1_carrierNamed (T := gi x 718) (C := C) (fr := 0) kn cR.2.2.2.2.2.2.2.1 (by decide) k1t hC (nm.keep (by rw [gi_ui, if_neg (by omega)]) (fun j => by rw [gi_ui, if_neg (by omega)]) (fun _ _ => rfl)) lt1 (by omega) (by omega) (by decide) ?_, fun z => absurd (Int32.le_refl _) z⟩
        rw [pe]
        refine ref _ ?_
        have k2 : ∀ r j, j + r = i → GI mX8_find 37 [some (.ref 717), some (.int (nI i)), some (.int 1), some (.int (nI j))] [] KW (ui (ui x 0 1 0) 717 5 0) (fun r' z => fnd (gi x 718) C (pkv (gi x 720) 0 i) = r' ∧ Rel z) := by
          intro r
          induction r with
          | zero =>
            intro j hj
            have : j = i := by omega
            subst this
            refine v_X8_find_37 km Mz.2.2.2.1 km720 ⟨fun _ => ⟨fun u => absurd u (by decide), fun _ => sp_X8_packed (fr := 0) Mz (by rw [bz]; exact lt) (by omega) (by omega) (sp_X8_findName Mz km1 (by rw [tz]; exact tC) hC ⟨?_, Rz⟩)⟩, fun z => absurd (Int32.le_refl _) z⟩
            rw [bz, show gi (ui (ui x 0 1 0) 717 5 0) 718 = gi x 718 from funext tz]
          | succ r ih =>
            intro j hj
            refine v_X8_find_37 km Mz.2.2.2.1 km720 ⟨fun z => absurd z (nI_ge (by omega) (by omega)), fun _ => ⟨fun u => absurd u (by decide), fun _ => ⟨vp_in_nI (by omega) (by decide), fun q hq => ?_⟩⟩⟩
            rw [nI_clamp (by omega), bz, b2i_t (hl j (by omega))] at hq
            rw [hq, nI_1]
            exact ih (j + 1) (by omega)
        exact k2 i 0 (by omega)
      | succ r ih =>
        intro i hi
        refine v_X7_find_32 k0 cR.2.2.1 cR.1 kn k1t ⟨fun z => absurd z (nI_ge (by omega) (by omega)), fun _ => ⟨vp_in_nI (by omega) (by decide), ?_⟩⟩
        rw [nI_clamp (by omega), by1 i (by omega), nI_1]
        exact ⟨fun _ => ih (i + 1) (by omega), fun z => absurd (hl i (by omega)) z⟩
    exact key n 0 (by omega)
  · have fin : mSI mX8_find [.ref 717] KW (ui x 0 1 0) (fun r' z => -2 = r' ∧ Rel z) := by
      refine ref _ ?_
      have g0 : ∀ j, GI mX8_find 37 [some (.ref 717), some (.int (nI n)), some (.int 0), some (.int (nI j))] [] KW (ui (ui x 0 1 0) 717 5 0) (fun r' z => -2 = r' ∧ Rel z) := fun j => v_X8_find_37 km Mz.2.2.2.1 km720 ⟨fun _ => ⟨fun _ => ⟨rfl, Rz⟩, fun u => absurd rfl u⟩, fun _ => ⟨fun _ => ⟨fun _ => ⟨rfl, Rz⟩, fun u => absurd rfl u⟩, fun u => absurd rfl u⟩⟩
      have k2 : ∀ r j, j + r = n → (∀ i, i < j → (97 ≤ gi x 720 i ∧ gi x 720 i ≤ 122)) → GI mX8_find 37 [some (.ref 717), some (.int (nI n)), some (.int 1), some (.int (nI j))] [] KW (ui (ui x 0 1 0) 717 5 0) (fun r' z => -2 = r' ∧ Rel z) := by
        intro r
        induction r with
        | zero => intro j hj h; exact absurd (fun i hi => h i (by omega)) hl
        | succ r ih =>
          intro j hj h
          refine v_X8_find_37 km Mz.2.2.2.1 km720 ⟨fun z => absurd z (nI_ge (by omega) (by omega)), fun _ => ⟨fun u => absurd u (by decide), fun _ => ⟨vp_in_nI (by omega) (by decide), fun q hq => ?_⟩⟩⟩
          rw [nI_clamp (by omega), bz] at hq
          rw [nI_1]
          by_cases c : 97 ≤ gi x 720 j ∧ gi x 720 j ≤ 122
          · rw [b2i_t c] at hq
            rw [hq]
            refine ih (j + 1) (by omega) (fun i hi => ?_)
            by_cases ci : i = j
            · rw [ci]; exact c
            · exact h i (by omega)
          · rw [b2i_f c] at hq
            rw [hq]
            exact g0 (j + 1)
      exact k2 n 0 (by omega) (fun i hi => by omega)
    have key : ∀ r i, i + r = n → (∀ j, j < i → (97 ≤ gi x 720 j ∧ gi x 720 j ≤ 122)) → GI mX7_find 32 [some (.ref 0), some (.int (nI n)), some (.int (nI i))] [] KW (ui x 0 1 0) (fun r y => mSI mX8_find [.ref 717] KW y (fun r' z => r = r' ∧ Rel z)) := by
      intro r
      induction r with
      | zero => intro i hi h; exact absurd (fun j hj => h j (by omega)) hl
      | succ r ih =>
        intro i hi h
        refine v_X7_find_32 k0 cR.2.2.1 cR.1 kn k1t ⟨fun z => absurd z (nI_ge (by omega) (by omega)), fun _ => ⟨vp_in_nI (by omega) (by decide), ?_⟩⟩
        rw [nI_clamp (by omega), by1 i (by omega), nI_1]
        refine ⟨fun c => ih (i + 1) (by omega) (fun j hj => ?_), fun _ => fin⟩
        by_cases ci : j = i
        · rw [ci]; exact c
        · exact h j (by omega)
    exact key n 0 (by omega) (fun j hj => by omega)
end
/-! 63.ctor.lean.txt -/
section
theorem oi_i : Cond.instanceMethod objectInit ∈ mTb := mTb_1 22 rfl rfl
theorem oi_c : Cond.code objectInit ⟨#[0xb1]⟩ 1 none ∈ mTb := mTb_at 147 (by decide +kernel) rfl
theorem ac_i : Cond.arrayClass (newarray.typeOf .int) ∈ mTb := mTb_1 102 rfl rfl
theorem ac_b : Cond.arrayClass (newarray.typeOf .byte) ∈ mTb := mTb_1 101 rfl rfl
theorem it_0 : Cond.instantiable (mCn 0) (mNF 0) ∈ mTb := mTb_1 103 rfl rfl
theorem iz_0 : Cond.initialized (mCn 0) ∈ mTb := mTb_1 4 rfl rfl
theorem it_1 : Cond.instantiable (mCn 1) (mNF 1) ∈ mTb := mTb_1 214 rfl rfl
theorem iz_1 : Cond.initialized (mCn 1) ∈ mTb := mTb_1 5 rfl rfl
theorem it_2 : Cond.instantiable (mCn 2) (mNF 2) ∈ mTb := mTb_2 61 rfl rfl
theorem iz_2 : Cond.initialized (mCn 2) ∈ mTb := mTb_1 7 rfl rfl
theorem it_3 : Cond.instantiable (mCn 3) (mNF 3) ∈ mTb := mTb_1 231 rfl rfl
theorem iz_3 : Cond.initialized (mCn 3) ∈ mTb := mTb_1 6 rfl rfl
theorem it_4 : Cond.instantiable (mCn 4) (mNF 4) ∈ mTb := mTb_1 25 rfl rfl
theorem iz_4 : Cond.initialized (mCn 4) ∈ mTb := mTb_1 2 rfl rfl
theorem it_5 : Cond.instantiable (mCn 5) (mNF 5) ∈ mTb := mTb_1 34 rfl rfl
theorem iz_5 : Cond.initialized (mCn 5) ∈ mTb := mTb_1 3 rfl rfl
theorem it_6 : Cond.instantiable (mCn 6) (mNF 6) ∈ mTb := mTb_2 88 rfl rfl
theorem iz_6 : Cond.initialized (mCn 6) ∈ mTb := mTb_1 8 rfl rfl
theorem it_7 : Cond.instantiable (mCn 7) (mNF 7) ∈ mTb := mTb_1 17 rfl rfl
theorem iz_7 : Cond.initialized (mCn 7) ∈ mTb := mTb_1 1 rfl rfl
theorem it_8 : Cond.instantiable (mCn 8) (mNF 8) ∈ mTb := mTb_5 199 rfl rfl
theorem iz_8 : Cond.initialized (mCn 8) ∈ mTb := mTb_1 9 rfl rfl
theorem kl_X7_17 : Cond.classLink RX7 17 RX4 ∈ mTb := mTb_1 24 rfl rfl
theorem kl_X7_24 : Cond.classLink RX7 24 RX1 ∈ mTb := mTb_1 213 rfl rfl
theorem kl_X7_38 : Cond.classLink RX7 38 RX3 ∈ mTb := mTb_1 230 rfl rfl
theorem kl_X7_51 : Cond.classLink RX7 51 RX2 ∈ mTb := mTb_2 60 rfl rfl
theorem kl_X7_58 : Cond.classLink RX7 58 RX6 ∈ mTb := mTb_2 87 rfl rfl
theorem kl_X2_9 : Cond.classLink RX2 9 RX4 ∈ mTb := mTb_2 66 rfl rfl
theorem kl_X3_9 : Cond.classLink RX3 9 RX4 ∈ mTb := mTb_1 236 rfl rfl
theorem kl_X3_18 : Cond.classLink RX3 18 RX1 ∈ mTb := mTb_1 238 rfl rfl
theorem kl_X4_34 : Cond.classLink RX4 34 RX5 ∈ mTb := mTb_1 30 rfl rfl
theorem kl_X4_40 : Cond.classLink RX4 40 RX0 ∈ mTb := mTb_1 32 rfl rfl
theorem kl_L_7 : Cond.classLink RL 7 RX7 ∈ mTb := mTb_1 16 rfl rfl
theorem kl_L_10 : Cond.classLink RL 10 RX8 ∈ mTb := mTb_5 198 rfl rfl
/-! contents that are empty from n on -/
def Okx (n : Nat) (x : Cn) : Prop := (∀ a k, n ≤ a → x.1 a k = 0 ∧ x.2 a k = none) ∧ ∀ a k b, x.2 a k = some b → b < n
theorem Okx.up {n m : Nat} {x : Cn} (h : Okx n x) (hm : n ≤ m) : Okx m x := ⟨fun a k ha => h.1 a k (Nat.le_trans hm ha), fun a k b hb => Nat.lt_of_lt_of_le (h.2 a k b hb) hm⟩
theorem Okx.ui {n a : Nat} {x : Cn} (h : Okx n x) (ha : a < n) (k : Nat) (v : Int32) : Okx n (ui x a k v) := ⟨fun b j hb => ⟨(if_neg (fun z => by omega)).trans (h.1 b j hb).1, (h.1 b j hb).2⟩, h.2⟩
theorem Okx.ur {n a b : Nat} {x : Cn} (h : Okx n x) (ha : a < n) (k : Nat) (hb : b < n) : Okx n (ur x a k (some b)) := by
  refine ⟨fun c j hc => ⟨(h.1 c j hc).1, (if_neg (fun z => by omega)).trans (h.1 c j hc).2⟩, fun c j d hd => ?_⟩
  have hd : (if c = a ∧ j = k then some b else x.2 c j) = some d := hd
  by_cases hq : c = a ∧ j = k
  · rw [if_pos hq] at hd
    cases hd
    exact hb
  · rw [if_neg hq] at hd
    exact h.2 c j d hd
theorem Okx.wf {n : Nat} {x : Cn} (h : Okx n x) : WFh (hp (n, kwf) x) := h.2
theorem nw_hp {n : Nat} {x : Cn} {q : Nat × Nat} (h : Okx n x) (hq : kwf n = q) : nw (hp (n, kwf) x) q = hp (n + 1, kwf) x := by
  unfold nw hp
  refine Prod.ext rfl (Prod.ext (funext fun a => ?_) (Prod.ext (funext fun a => funext fun k => ?_) (funext fun a => funext fun k => ?_)))
  · show (if a = n then q else kwf a) = kwf a
    by_cases ha : a = n
    · rw [if_pos ha, ha, hq]
    · rw [if_neg ha]
  · show (if a = n then 0 else x.1 a k) = x.1 a k
    by_cases ha : a = n
    · rw [if_pos ha, ha, (h.1 n k (Nat.le_refl _)).1]
    · rw [if_neg ha]
  · show (if a = n then none else x.2 a k) = x.2 a k
    by_cases ha : a = n
    · rw [if_pos ha, ha, (h.1 n k (Nat.le_refl _)).2]
    · rw [if_neg ha]
theorem ui_z {x : Cn} {a k : Nat} (h : x.1 a k = 0) : ui x a k 0 = x := by
  unfold ui
  refine Prod.ext (funext fun b => funext fun j => ?_) rfl
  show (if b = a ∧ j = k then 0 else x.1 b j) = x.1 b j
  by_cases hq : b = a ∧ j = k
  · rw [if_pos hq, hq.1, hq.2, h]
  · rw [if_neg hq]
theorem kdN {n a : Nat} {x : Cn} {q : Nat × Nat} (ha : a < n) (hq : kwf a = q) : kd (hp (n, kwf) x) a = some q := by
  unfold kd
  rw [if_pos (show a < (hp (n, kwf) x).1 from ha)]
  exact congrArg some hq
/-- a constructor's body from here on, whatever the addresses of the cells that it made -/
def GN (M : MR) (mc ms n0 : Nat) (P : HP → Prop) (c : Nat × Nat) (pc : Nat) (L : List (Option Value)) (st : List Value) (h : HP) : Prop := ∀ (B : BT) (ad0 ad : Nat → Nat), mCx B c ad M FF → B.2.2.2.1.cells = mc → B.2.2.2.1.slots = ms → (∀ (ad' : Nat → Nat) (h' : HP) (pc : Nat) (L : List (Option Value)), P h' → (∀ a, a < n0 ∨ mSB ≤ a → ad' a = ad0 a) → decode M.2.1 pc = .ok (.return_, 1) → mG B (mc, ms) ad' M.2.2.1 pc L [] h') → (∀ a, a < n0 ∨ mSB ≤ a → ad a = ad0 a) → mG B c ad M.2.2.1 pc L st h
theorem n_of {M : MR} {a : List Value} {h : HP} {mc ms : Nat} {P : HP → Prop} (hp : plainName M.1.cls = true) (hcat : ∀ v ∈ a, v.category = 1) (hn : a.length ≤ M.2.2.1) (hret : M.2.2.2.1 = none) (k : GN M mc ms h.1 P (0, 0) 0 (mEnL a M.2.2.1) [] h) : mSpN M a h mc ms P := mSpN_of hp hcat hn hret (fun B ad X e1 e2 kx => k B ad ad X e1 e2 kx (fun _ _ => rfl))
section NRU
variable {M : MR} {mc ms n0 : Nat} {P : HP → Prop} {c : Nat × Nat} {pc : Nat} {L : List (Option Value)} {st : List Value} {h : HP} {n : Nat} {x : Cn}
theorem n_aload_n {q : Fin 4} {a : Nat} (d : decode M.2.1 pc = .ok (.aload_n q, 1)) (hl : L[(q : Nat)]? = some (some (.ref a))) (k : GN M mc ms n0 P c (pc + 1) L (.ref a :: st) h) : GN M mc ms n0 P c pc L st h := fun B ad0 ad X e1 e2 kx ha => g_aload_n X d hl (k B ad0 ad X e1 e2 kx ha)
theorem n_iload_n {q : Fin 4} {v : Int32} (d : decode M.2.1 pc = .ok (.iload_n q, 1)) (hl : L[(q : Nat)]? = some (some (.int v))) (k : GN M mc ms n0 P c (pc + 1) L (.int v :: st) h) : GN M mc ms n0 P c pc L st h := fun B ad0 ad X e1 e2 kx ha => g_iload_n X d hl (k B ad0 ad X e1 e2 kx ha)
theorem n_istore_n {q : Fin 4} {v : Int32} (d : decode M.2.1 pc = .ok (.istore_n q, 1)) (hn : (q : Nat) < M.2.2.1) (k : GN M mc ms n0 P c (pc + 1) (L.set (q : Nat) (some (.int v))) st h) : GN M mc ms n0 P c pc L (.int v :: st) h := fun B ad0 ad X e1 e2 kx ha => g_istore_n X d hn (k B ad0 ad X e1 e2 kx ha)
theorem n_iconst {i : Int} {v : Int32} (d : decode M.2.1 pc = .ok (.iconst i, 1)) (hv : Int32.ofInt i = v) (k : GN M mc ms n0 P c (pc + 1) L (.int v :: st) h) : GN M mc ms n0 P c pc L st h := fun B ad0 ad X e1 e2 kx ha => g_iconst X d hv (k B ad0 ad X e1 e2 kx ha)
theorem n_bipush {i : Int} {v : Int32} (d : decode M.2.1 pc = .ok (.bipush i, 2)) (hv : (Int8.ofInt i).toInt32 = v) (k : GN M mc ms n0 P c (pc + 2) L (.int v :: st) h) : GN M mc ms n0 P c pc L st h := fun B ad0 ad X e1 e2 kx ha => g_bipush X d hv (k B ad0 ad X e1 e2 kx ha)
theorem n_sipush {i : Int} {v : Int32} (d : decode M.2.1 pc = .ok (.sipush i, 3)) (hv : (Int16.ofInt i).toInt32 = v) (k : GN M mc ms n0 P c (pc + 3) L (.int v :: st) h) : GN M mc ms n0 P c pc L st h := fun B ad0 ad X e1 e2 kx ha => g_sipush X d hv (k B ad0 ad X e1 e2 kx ha)
theorem n_iinc {i : Nat} {m : Int} {v w : Int32} (d : decode M.2.1 pc = .ok (.iinc i m, 3)) (hl : L[i]? = some (some (.int v))) (hv : v + Int32.ofInt m = w) (hn : i < M.2.2.1) (k : GN M mc ms n0 P c (pc + 3) (L.set i (some (.int w))) st h) : GN M mc ms n0 P c pc L st h := fun B ad0 ad X e1 e2 kx ha => g_iinc X d hl hv hn (k B ad0 ad X e1 e2 kx ha)
theorem n_dup {v : Value} (d : decode M.2.1 pc = .ok (.dup, 1)) (hv : v.category = 1) (k : GN M mc ms n0 P c (pc + 1) L (v :: v :: st) h) : GN M mc ms n0 P c pc L (v :: st) h := fun B ad0 ad X e1 e2 kx ha => g_dup X d hv (k B ad0 ad X e1 e2 kx ha)
theorem n_icmp_ge {v w : Int32} {off : Int} {tgt : Nat} (d : decode M.2.1 pc = .ok (.if_icmp .ge off, 3)) (ht : (pc : Int) + off = (tgt : Int)) (kt : w ≤ v → GN M mc ms n0 P c tgt L st h) (kf : ¬ w ≤ v → GN M mc ms n0 P c (pc + 3) L st h) : GN M mc ms n0 P c pc L (.int w :: .int v :: st) h := fun B ad0 ad X e1 e2 kx ha => g_icmp_ge X d ht (fun q => kt q B ad0 ad X e1 e2 kx ha) (fun q => kf q B ad0 ad X e1 e2 kx ha)
theorem n_goto {off : Int} {tgt : Nat} (d : decode M.2.1 pc = .ok (.goto off, 3)) (ht : (pc : Int) + off = (tgt : Int)) (k : GN M mc ms n0 P c tgt L st h) : GN M mc ms n0 P c pc L st h := fun B ad0 ad X e1 e2 kx ha => g_goto X d ht (k B ad0 ad X e1 e2 kx ha)
theorem n_objInit {i a : Nat} (d : decode M.2.1 pc = .ok (.invokespecial i, 3)) (hl : Cond.methodLink M.1.cls i objectInit ∈ mTb) (hi : Cond.instanceMethod objectInit ∈ mTb) (hcd : Cond.code objectInit ⟨#[0xb1]⟩ 1 none ∈ mTb) (hR : 1 ≤ M.2.2.2.2.1 ∧ 21 ≤ M.2.2.2.2.2) (hst : (st.map fun v => v.category).sum ≤ 8) (k : GN M mc ms n0 P c (pc + 3) L st h) : GN M mc ms n0 P c pc L (.ref a :: st) h := fun B ad0 ad X e1 e2 kx ha => g_objInit X d hl hi hcd hR hst (k B ad0 ad X e1 e2 kx ha)
theorem n_getR {a ci i k b : Nat} (d : decode M.2.1 pc = .ok (.getfield i, 3)) (F : mFld M.1.cls i ci k) (hi : mIs (mTy ci k) = false) (hb : a < n) (hk : kwf a = (ci, 0)) (hr : x.2 a k = some b) (q : GN M mc ms n0 P c (pc + 3) L (.ref b :: st) (hp (n, kwf) x)) : GN M mc ms n0 P c pc L (.ref a :: st) (hp (n, kwf) x) := fun B ad0 ad X e1 e2 kx ha => g_getR X d F hi (kdN hb hk) hr (q B ad0 ad X e1 e2 kx ha)
theorem n_put0 {a ci i k : Nat} (d : decode M.2.1 pc = .ok (.putfield i, 3)) (F : mFld M.1.cls i ci k) (hi : mIs (mTy ci k) = true) (hf : (mTt ci k).2.2.2 = false) (hb : a < n) (hk : kwf a = (ci, 0)) (hv : narrow (mTy ci k) (.int 0) = .int 0 ∧ fits (mTy ci k) (.int 0) = true) (hz : x.1 a k = 0) (q : GN M mc ms n0 P c (pc + 3) L st (hp (n, kwf) x)) : GN M mc ms n0 P c pc L (.int 0 :: .ref a :: st) (hp (n, kwf) x) := fun B ad0 ad X e1 e2 kx ha => g_putI X d F hi hf (kdN hb hk) hv (by have := q B ad0 ad X e1 e2 kx ha; rw [← ui_z hz] at this; exact this)
theorem n_putI {a ci i k : Nat} {v : Int32} (d : decode M.2.1 pc = .ok (.putfield i, 3)) (F : mFld M.1.cls i ci k) (hi : mIs (mTy ci k) = true) (hf : (mTt ci k).2.2.2 = false) (hb : a < n) (hk : kwf a = (ci, 0)) (hv : narrow (mTy ci k) (.int v) = .int v ∧ fits (mTy ci k) (.int v) = true) (q : GN M mc ms n0 P c (pc + 3) L st (hp (n, kwf) (ui x a k v))) : GN M mc ms n0 P c pc L (.int v :: .ref a :: st) (hp (n, kwf) x) := fun B ad0 ad X e1 e2 kx ha => g_putI X d F hi hf (kdN hb hk) hv (q B ad0 ad X e1 e2 kx ha)
theorem n_putR {a ci i k b : Nat} (d : decode M.2.1 pc = .ok (.putfield i, 3)) (F : mFld M.1.cls i ci k) (hi : mIs (mTy ci k) = false) (hf : (mTt ci k).2.2.2 = false) (hb : a < n) (hk : kwf a = (ci, 0)) (q : GN M mc ms n0 P c (pc + 3) L st (hp (n, kwf) (ur x a k (some b)))) : GN M mc ms n0 P c pc L (.ref b :: .ref a :: st) (hp (n, kwf) x) := fun B ad0 ad X e1 e2 kx ha => g_putR X d F hi hf (kdN hb hk) (q B ad0 ad X e1 e2 kx ha)
theorem n_putRF {a ci i k b : Nat} (d : decode M.2.1 pc = .ok (.putfield i, 3)) (F : mFld M.1.cls i ci k) (hi : mIs (mTy ci k) = false) (hf : (mTt ci k).2.2.2 = true) (hdc : (mTt ci k).1 = M.1.cls) (hin : M.1.name = "<init>") (hb : a < n) (hk : kwf a = (ci, 0)) (q : GN M mc ms n0 P c (pc + 3) L st (hp (n, kwf) (ur x a k (some b)))) : GN M mc ms n0 P c pc L (.ref b :: .ref a :: st) (hp (n, kwf) x) := fun B ad0 ad X e1 e2 kx ha => g_putRF X d F hi hf hdc hin (kdN hb hk) (q B ad0 ad X e1 e2 kx ha)
theorem n_aast {a ci N b cj nb : Nat} {i : Int32} {j : Nat} (d : decode M.2.1 pc = .ok (.aastore, 1)) (ha : a < n) (hka : kwf a = (ci, N)) (h22 : ¬ ci < 22) (hj : cj < 9) (hC : mAty ci = .object (mCn cj)) (hb : b < n) (hkb : kwf b = (cj, nb)) (hin : vp_in i N) (hij : i.toNatClampNeg = j) (q : GN M mc ms n0 P c (pc + 1) L st (hp (n, kwf) (ur x a j (some b)))) : GN M mc ms n0 P c pc L (.ref b :: .int i :: .ref a :: st) (hp (n, kwf) x) := fun B ad0 ad X e1 e2 kx ha0 => g_aast X d (kdN ha hka) h22 hj hC (kdN hb hkb) hin (by rw [hij]; exact q B ad0 ad X e1 e2 kx ha0)
theorem n_new {ci i : Nat} {c' : Nat × Nat} (d : decode M.2.1 pc = .ok (.new i, 3)) (hl : Cond.classLink M.1.cls i (mCn ci) ∈ mTb) (hi : Cond.instantiable (mCn ci) (mNF ci) ∈ mTb) (hz : Cond.initialized (mCn ci) ∈ mTb) (hci : ci < 9) (ok : Okx n x) (hsb : n < mSB) (hL : ∀ b, some (.ref b) ∈ L → b < n) (hS : ∀ b, Value.ref b ∈ st → b < n) (hn : n0 ≤ n) (hc' : c' = (c.1 + 1, c.2 + mNF ci)) (h1 : c'.1 ≤ mc) (h2 : c'.2 ≤ ms) (hq : kwf n = (ci, 0)) (k : GN M mc ms n0 P c' (pc + 3) L (.ref n :: st) (hp (n + 1, kwf) x)) : GN M mc ms n0 P c pc L st (hp (n, kwf) x) := by
  subst hc'
  intro B ad0 ad X e1 e2 kx ha
  have hc : c.1 + 1 ≤ B.2.2.2.1.cells ∧ c.2 + mNF ci ≤ B.2.2.2.1.slots := by rw [e1, e2]; exact ⟨h1, h2⟩
  refine g_new (h := hp (n, kwf) x) X d hl hi hz hci ok.wf hsb (fun b hb => Nat.ne_of_lt (hL b hb)) (fun b hb => Nat.ne_of_lt (hS b hb)) hc (fun ad' had => ?_)
  rw [nw_hp ok hq]
  exact k B ad0 ad' (mCx_ad X hc (fun a h => had a (show a ≠ n by omega))) e1 e2 kx (fun a h => (had a (show a ≠ n by omega)).trans (ha a h))
theorem n_newa {at9 : ArrayType} {kn N : Nat} {v : Int32} {c' : Nat × Nat} (d : decode M.2.1 pc = .ok (.newarray at9, 2)) (hat : (at9 = .int ∧ kn = 20) ∨ (at9 = .byte ∧ kn = 21)) (hwd : Cond.arrayClass (newarray.typeOf at9) ∈ mTb) (hv : v = nI N) (hN : N ≤ 100000) (ok : Okx n x) (hsb : n < mSB) (hL : ∀ b, some (.ref b) ∈ L → b < n) (hS : ∀ b, Value.ref b ∈ st → b < n) (hn : n0 ≤ n) (hc' : c' = (c.1 + 1, c.2 + N)) (h1 : c'.1 ≤ mc) (h2 : c'.2 ≤ ms) (hq : kwf n = (kn, N)) (k : GN M mc ms n0 P c' (pc + 2) L (.ref n :: st) (hp (n + 1, kwf) x)) : GN M mc ms n0 P c pc L (.int v :: st) (hp (n, kwf) x) := by
  subst hc'
  intro B ad0 ad X e1 e2 kx ha
  have hc : c.1 + 1 ≤ B.2.2.2.1.cells ∧ c.2 + N ≤ B.2.2.2.1.slots := by rw [e1, e2]; exact ⟨h1, h2⟩
  refine g_newa (h := hp (n, kwf) x) X d hat hwd hv hN ok.wf hsb (fun b hb => Nat.ne_of_lt (hL b hb)) (fun b hb => Nat.ne_of_lt (hS b hb)) hc (fun ad' had => ?_)
  rw [nw_hp ok hq]
  exact k B ad0 ad' (mCx_ad X hc (fun a h => had a (show a ≠ n by omega))) e1 e2 kx (fun a h => (had a (show a ≠ n by omega)).trans (ha a h))
theorem n_anew {C : String} {kn N i : Nat} {v : Int32} {c' : Nat × Nat} (d : decode M.2.1 pc = .ok (.anewarray i, 3)) (hl : Cond.classLink M.1.cls i C ∈ mTb) (hC : (C = RX4 ∧ kn = 22) ∨ (C = RX5 ∧ kn = 23) ∨ (C = RX0 ∧ kn = 24)) (hv : v = nI N) (hN : N ≤ 100000) (ok : Okx n x) (hsb : n < mSB) (hL : ∀ b, some (.ref b) ∈ L → b < n) (hS : ∀ b, Value.ref b ∈ st → b < n) (hn : n0 ≤ n) (hc' : c' = (c.1 + 1, c.2 + N)) (h1 : c'.1 ≤ mc) (h2 : c'.2 ≤ ms) (hq : kwf n = (kn, N)) (k : GN M mc ms n0 P c' (pc + 3) L (.ref n :: st) (hp (n + 1, kwf) x)) : GN M mc ms n0 P c pc L (.int v :: st) (hp (n, kwf) x) := by
  subst hc'
  intro B ad0 ad X e1 e2 kx ha
  have hc : c.1 + 1 ≤ B.2.2.2.1.cells ∧ c.2 + N ≤ B.2.2.2.1.slots := by rw [e1, e2]; exact ⟨h1, h2⟩
  refine g_anew (h := hp (n, kwf) x) X d hl hC hv hN ok.wf hsb (fun b hb => Nat.ne_of_lt (hL b hb)) (fun b hb => Nat.ne_of_lt (hS b hb)) hc (fun ad' had => ?_)
  rw [nw_hp ok hq]
  exact k B ad0 ad' (mCx_ad X hc (fun a h => had a (show a ≠ n by omega))) e1 e2 kx (fun a h => (had a (show a ≠ n by omega)).trans (ha a h))
theorem n_callI (N : MR) {idx a m1 s1 : Nat} {c' : Nat × Nat} (d : decode M.2.1 pc = .ok (.invokespecial idx, 3)) (hl : Cond.methodLink M.1.cls idx N.1 ∈ mTb ∨ ∃ host, (M.1.cls, idx, N.1, host) ∈ mNst) (hi : Cond.instanceMethod N.1 ∈ mTb) (mo : mMo N 0) (hnm : N.1.name = "<init>") (hret : N.2.2.2.1 = none) (hR : N.2.2.2.2.1 + 1 ≤ M.2.2.2.2.1 ∧ 8 + (N.2.2.1 + 11) + N.2.2.2.2.2 ≤ M.2.2.2.2.2) (hst : (st.map fun v => v.category).sum ≤ 8) (hL : ∀ b, some (.ref b) ∈ L → b < n) (hS : ∀ b, Value.ref b ∈ st → b < n) (hn : n0 ≤ n) (hc' : c' = (c.1 + m1, c.2 + s1)) (h1 : c'.1 ≤ mc) (h2 : c'.2 ≤ ms) {n' : Nat} {y : Cn}
    (k1 : mSpN N [.ref a] (hp (n, kwf) x) m1 s1 (fun h' => h' = hp (n', kwf) y)) (k : GN M mc ms n0 P c' (pc + 3) L st (hp (n', kwf) y)) : GN M mc ms n0 P c pc L (.ref a :: st) (hp (n, kwf) x) := by
  subst hc'
  intro B ad0 ad X e1 e2 kx ha
  have hc : c.1 + m1 ≤ B.2.2.2.1.cells ∧ c.2 + s1 ≤ B.2.2.2.1.slots := by rw [e1, e2]; exact ⟨h1, h2⟩
  refine g_callI N X d hl hi mo hnm hret hR hst hc (fun b hb => Or.inl (hL b hb)) (fun b hb => Or.inl (hS b hb)) (mSpN_mono k1 (fun h' eh ad' had => ?_))
  subst eh
  exact k B ad0 ad' (mCx_ad X hc (fun a h => had a (Or.inr h))) e1 e2 kx (fun a h => (had a (h.elim (fun q => Or.inl (Nat.lt_of_lt_of_le q hn)) Or.inr)).trans (ha a h))
theorem n_ret (hc : c = (mc, ms)) (hst : st = []) (d : decode M.2.1 pc = .ok (.return_, 1)) (hP : P h) : GN M mc ms n0 P c pc L st h := by
  subst hc
  subst hst
  exact fun B ad0 ad X e1 e2 kx ha => kx ad h pc L hP ha d
end NRU
theorem ct_X5 {n b : Nat} {x : Cn} (hb : b < n) (hk : kwf b = (5, 0)) (hz : ∀ k, x.1 b k = 0) : mSpN mX5_init [.ref b] (hp (n, kwf) x) 0 0 (fun h' => h' = hp (n, kwf) x) := by
  refine n_of (by decide) (by simp [Value.category]) (Nat.le_of_ble_eq_true rfl) rfl ?_
  show GN mX5_init 0 0 n _ (0, 0) 0 [some (.ref b)] [] _
  refine n_aload_n (pc := 0) dX5_init_0 rfl ?_
  refine n_objInit (pc := 1) dX5_init_1 lk_X5_3 oi_i oi_c ⟨by decide, by decide⟩ (Nat.le_of_ble_eq_true rfl) ?_
  refine n_aload_n (pc := 4) dX5_init_4 rfl ?_
  refine n_iconst (v := 0) (pc := 5) dX5_init_5 (by decide) ?_
  refine n_put0 (pc := 6) (ci := 5) dX5_init_6 fl_X5_9 rfl rfl hb hk ⟨rfl, rfl⟩ (hz _) ?_
  refine n_aload_n (pc := 9) dX5_init_9 rfl ?_
  refine n_iconst (v := 0) (pc := 10) dX5_init_10 (by decide) ?_
  refine n_put0 (pc := 11) (ci := 5) dX5_init_11 fl_X5_15 rfl rfl hb hk ⟨rfl, rfl⟩ (hz _) ?_
  refine n_aload_n (pc := 14) dX5_init_14 rfl ?_
  refine n_iconst (v := 0) (pc := 15) dX5_init_15 (by decide) ?_
  refine n_put0 (pc := 16) (ci := 5) dX5_init_16 fl_X5_18 rfl rfl hb hk ⟨rfl, rfl⟩ (hz _) ?_
  refine n_aload_n (pc := 19) dX5_init_19 rfl ?_
  refine n_iconst (v := 0) (pc := 20) dX5_init_20 (by decide) ?_
  refine n_put0 (pc := 21) (ci := 5) dX5_init_21 fl_X5_21 rfl rfl hb hk ⟨rfl, rfl⟩ (hz _) ?_
  refine n_aload_n (pc := 24) dX5_init_24 rfl ?_
  refine n_iconst (v := 0) (pc := 25) dX5_init_25 (by decide) ?_
  refine n_put0 (pc := 26) (ci := 5) dX5_init_26 fl_X5_24 rfl rfl hb hk ⟨rfl, rfl⟩ (hz _) ?_
  refine n_aload_n (pc := 29) dX5_init_29 rfl ?_
  refine n_iconst (v := 0) (pc := 30) dX5_init_30 (by decide) ?_
  refine n_put0 (pc := 31) (ci := 5) dX5_init_31 fl_X5_28 rfl rfl hb hk ⟨rfl, rfl⟩ (hz _) ?_
  refine n_aload_n (pc := 34) dX5_init_34 rfl ?_
  refine n_iconst (v := 0) (pc := 35) dX5_init_35 (by decide) ?_
  refine n_put0 (pc := 36) (ci := 5) dX5_init_36 fl_X5_31 rfl rfl hb hk ⟨rfl, rfl⟩ (hz _) ?_
  refine n_aload_n (pc := 39) dX5_init_39 rfl ?_
  refine n_iconst (v := 0) (pc := 40) dX5_init_40 (by decide) ?_
  refine n_put0 (pc := 41) (ci := 5) dX5_init_41 fl_X5_34 rfl rfl hb hk ⟨rfl, rfl⟩ (hz _) ?_
  refine n_aload_n (pc := 44) dX5_init_44 rfl ?_
  refine n_iconst (v := 0) (pc := 45) dX5_init_45 (by decide) ?_
  refine n_put0 (pc := 46) (ci := 5) dX5_init_46 fl_X5_37 rfl rfl hb hk ⟨rfl, rfl⟩ (hz _) ?_
  refine n_aload_n (pc := 49) dX5_init_49 rfl ?_
  refine n_iconst (v := 0) (pc := 50) dX5_init_50 (by decide) ?_
  refine n_put0 (pc := 51) (ci := 5) dX5_init_51 fl_X5_40 rfl rfl hb hk ⟨rfl, rfl⟩ (hz _) ?_
  refine n_aload_n (pc := 54) dX5_init_54 rfl ?_
  refine n_iconst (v := 0) (pc := 55) dX5_init_55 (by decide) ?_
  refine n_put0 (pc := 56) (ci := 5) dX5_init_56 fl_X5_43 rfl rfl hb hk ⟨rfl, rfl⟩ (hz _) ?_
  refine n_aload_n (pc := 59) dX5_init_59 rfl ?_
  refine n_iconst (v := 0) (pc := 60) dX5_init_60 (by decide) ?_
  refine n_put0 (pc := 61) (ci := 5) dX5_init_61 fl_X5_46 rfl rfl hb hk ⟨rfl, rfl⟩ (hz _) ?_
  exact n_ret (pc := 64) rfl rfl dX5_init_64 rfl
theorem ct_X0 {n b : Nat} {x : Cn} (hb : b < n) (hk : kwf b = (0, 0)) (hz : ∀ k, x.1 b k = 0) : mSpN mX0_init [.ref b] (hp (n, kwf) x) 0 0 (fun h' => h' = hp (n, kwf) x) := by
  refine n_of (by decide) (by simp [Value.category]) (Nat.le_of_ble_eq_true rfl) rfl ?_
  show GN mX0_init 0 0 n _ (0, 0) 0 [some (.ref b)] [] _
  refine n_aload_n (pc := 0) dX0_init_0 rfl ?_
  refine n_objInit (pc := 1) dX0_init_1 lk_X0_1 oi_i oi_c ⟨by decide, by decide⟩ (Nat.le_of_ble_eq_true rfl) ?_
  refine n_aload_n (pc := 4) dX0_init_4 rfl ?_
  refine n_iconst (v := 0) (pc := 5) dX0_init_5 (by decide) ?_
  refine n_put0 (pc := 6) (ci := 0) dX0_init_6 fl_X0_7 rfl rfl hb hk ⟨rfl, rfl⟩ (hz _) ?_
  refine n_aload_n (pc := 9) dX0_init_9 rfl ?_
  refine n_iconst (v := 0) (pc := 10) dX0_init_10 (by decide) ?_
  refine n_put0 (pc := 11) (ci := 0) dX0_init_11 fl_X0_13 rfl rfl hb hk ⟨rfl, rfl⟩ (hz _) ?_
  refine n_aload_n (pc := 14) dX0_init_14 rfl ?_
  refine n_iconst (v := 0) (pc := 15) dX0_init_15 (by decide) ?_
  refine n_put0 (pc := 16) (ci := 0) dX0_init_16 fl_X0_16 rfl rfl hb hk ⟨rfl, rfl⟩ (hz _) ?_
  refine n_aload_n (pc := 19) dX0_init_19 rfl ?_
  refine n_iconst (v := 0) (pc := 20) dX0_init_20 (by decide) ?_
  refine n_put0 (pc := 21) (ci := 0) dX0_init_21 fl_X0_19 rfl rfl hb hk ⟨rfl, rfl⟩ (hz _) ?_
  refine n_aload_n (pc := 24) dX0_init_24 rfl ?_
  refine n_iconst (v := 0) (pc := 25) dX0_init_25 (by decide) ?_
  refine n_put0 (pc := 26) (ci := 0) dX0_init_26 fl_X0_22 rfl rfl hb hk ⟨rfl, rfl⟩ (hz _) ?_
  refine n_aload_n (pc := 29) dX0_init_29 rfl ?_
  refine n_iconst (v := 0) (pc := 30) dX0_init_30 (by decide) ?_
  refine n_put0 (pc := 31) (ci := 0) dX0_init_31 fl_X0_25 rfl rfl hb hk ⟨rfl, rfl⟩ (hz _) ?_
  refine n_aload_n (pc := 34) dX0_init_34 rfl ?_
  refine n_iconst (v := 0) (pc := 35) dX0_init_35 (by decide) ?_
  refine n_put0 (pc := 36) (ci := 0) dX0_init_36 fl_X0_28 rfl rfl hb hk ⟨rfl, rfl⟩ (hz _) ?_
  exact n_ret (pc := 39) rfl rfl dX0_init_39 rfl
theorem ct_X1 {n b : Nat} {x : Cn} (hb : b < n) (hn : n < 1000) (hk : kwf b = (1, 0)) (h1 : kwf n = (20, 48)) (ok : Okx n x) (hz : ∀ k, x.1 b k = 0) : mSpN mX1_init [.ref b] (hp (n, kwf) x) 1 48 (fun h' => h' = hp (n + 1, kwf) (ur x b 1 (some n))) := by
  have sb : n < mSB := Nat.lt_trans hn (by decide)
  refine n_of (by decide) (by simp [Value.category]) (Nat.le_of_ble_eq_true rfl) rfl ?_
  show GN mX1_init 1 48 n _ (0, 0) 0 [some (.ref b)] [] _
  refine n_aload_n (pc := 0) dX1_init_0 rfl ?_
  refine n_objInit (pc := 1) dX1_init_1 lk_X1_3 oi_i oi_c ⟨by decide, by decide⟩ (Nat.le_of_ble_eq_true rfl) ?_
  refine n_aload_n (pc := 4) dX1_init_4 rfl ?_
  refine n_iconst (v := 0) (pc := 5) dX1_init_5 (by decide) ?_
  refine n_put0 (pc := 6) (ci := 1) dX1_init_6 fl_X1_9 rfl rfl hb hk ⟨rfl, rfl⟩ (hz _) ?_
  refine n_aload_n (pc := 9) dX1_init_9 rfl ?_
  refine n_bipush (v := 48) (pc := 10) dX1_init_10 (by decide) ?_
  refine n_newa (kn := 20) (N := 48) (c' := (1, 48)) (pc := 12) dX1_init_12 (Or.inl ⟨rfl, rfl⟩) ac_i rfl (by decide) ok (by omega) (by intro b9 h9; simp at h9; first | (subst h9; show @LT.lt Nat _ _ _; omega) | (rcases h9 with h9 | h9 <;> (subst h9; show @LT.lt Nat _ _ _; omega)) | (rcases h9 with h9 | h9 | h9 <;> (subst h9; show @LT.lt Nat _ _ _; omega))) (by intro b9 h9; simp at h9; first | (subst h9; show @LT.lt Nat _ _ _; omega) | (rcases h9 with h9 | h9 <;> (subst h9; show @LT.lt Nat _ _ _; omega)) | (rcases h9 with h9 | h9 | h9 <;> (subst h9; show @LT.lt Nat _ _ _; omega))) (by omega) rfl (Nat.le_of_ble_eq_true rfl) (Nat.le_of_ble_eq_true rfl) (by assumption) ?_
  refine n_putRF (pc := 14) (ci := 1) dX1_init_14 fl_X1_15 rfl rfl rfl rfl (by omega) hk ?_
  exact n_ret (pc := 17) rfl rfl dX1_init_17 rfl
theorem ct_X6 {n b : Nat} {x : Cn} (hb : b < n) (hn : n < 1000) (hk : kwf b = (6, 0)) (h1 : kwf n = (21, 2400)) (ok : Okx n x) (hz : ∀ k, x.1 b k = 0) : mSpN mX6_init [.ref b] (hp (n, kwf) x) 1 2400 (fun h' => h' = hp (n + 1, kwf) (ur x b 0 (some n))) := by
  have sb : n < mSB := Nat.lt_trans hn (by decide)
  refine n_of (by decide) (by simp [Value.category]) (Nat.le_of_ble_eq_true rfl) rfl ?_
  show GN mX6_init 1 2400 n _ (0, 0) 0 [some (.ref b)] [] _
  refine n_aload_n (pc := 0) dX6_init_0 rfl ?_
  refine n_objInit (pc := 1) dX6_init_1 lk_X6_3 oi_i oi_c ⟨by decide, by decide⟩ (Nat.le_of_ble_eq_true rfl) ?_
  refine n_aload_n (pc := 4) dX6_init_4 rfl ?_
  refine n_sipush (v := 2400) (pc := 5) dX6_init_5 (by decide) ?_
  refine n_newa (kn := 21) (N := 2400) (c' := (1, 2400)) (pc := 8) dX6_init_8 (Or.inr ⟨rfl, rfl⟩) ac_b rfl (by decide) ok (by omega) (by intro b9 h9; simp at h9; first | (subst h9; show @LT.lt Nat _ _ _; omega) | (rcases h9 with h9 | h9 <;> (subst h9; show @LT.lt Nat _ _ _; omega)) | (rcases h9 with h9 | h9 | h9 <;> (subst h9; show @LT.lt Nat _ _ _; omega))) (by intro b9 h9; simp at h9; first | (subst h9; show @LT.lt Nat _ _ _; omega) | (rcases h9 with h9 | h9 <;> (subst h9; show @LT.lt Nat _ _ _; omega)) | (rcases h9 with h9 | h9 | h9 <;> (subst h9; show @LT.lt Nat _ _ _; omega))) (by omega) rfl (Nat.le_of_ble_eq_true rfl) (Nat.le_of_ble_eq_true rfl) (by assumption) ?_
  refine n_putRF (pc := 10) (ci := 6) dX6_init_10 fl_X6_9 rfl rfl rfl rfl (by omega) hk ?_
  refine n_aload_n (pc := 13) dX6_init_13 rfl ?_
  refine n_iconst (v := 0) (pc := 14) dX6_init_14 (by decide) ?_
  refine n_put0 (pc := 15) (ci := 6) dX6_init_15 fl_X6_15 rfl rfl (by omega) hk ⟨rfl, rfl⟩ (hz _) ?_
  exact n_ret (pc := 18) rfl rfl dX6_init_18 rfl
/-! a season's cells: i series, j asks made -/
def seaP (q i j : Nat) (x : Cn) : Cn := (x.1, fun a k => if a = q ∧ 5 ≤ k ∧ k ≤ 9 then some (q + (k - 4)) else if a = q + 3 ∧ k < i then some (q + 6 + k) else if a = q + 4 ∧ k < j then some (q + 30 + k) else x.2 a k)
theorem seaP_0 (q : Nat) (x : Cn) : ur (ur (ur (ur (ur x q 5 (some (q + 1))) q 6 (some (q + 2))) q 7 (some (q + 3))) q 8 (some (q + 4))) q 9 (some (q + 5)) = seaP q 0 0 x := by
  refine Prod.ext rfl (funext fun a => funext fun k => ?_)
  show (if a = q ∧ k = 9 then some (q + 5) else if a = q ∧ k = 8 then some (q + 4) else if a = q ∧ k = 7 then some (q + 3) else if a = q ∧ k = 6 then some (q + 2) else if a = q ∧ k = 5 then some (q + 1) else x.2 a k) = if a = q ∧ 5 ≤ k ∧ k ≤ 9 then some (q + (k - 4)) else if a = q + 3 ∧ k < 0 then some (q + 6 + k) else if a = q + 4 ∧ k < 0 then some (q + 30 + k) else x.2 a k
  (repeat' split) <;> first | rfl | (exfalso; omega) | (congr 1; omega)
theorem seaP_s (q i j : Nat) (x : Cn) : ur (seaP q i j x) (q + 3) i (some (q + 6 + i)) = seaP q (i + 1) j x := by
  refine Prod.ext rfl (funext fun a => funext fun k => ?_)
  show (if a = q + 3 ∧ k = i then some (q + 6 + i) else if a = q ∧ 5 ≤ k ∧ k ≤ 9 then some (q + (k - 4)) else if a = q + 3 ∧ k < i then some (q + 6 + k) else if a = q + 4 ∧ k < j then some (q + 30 + k) else x.2 a k) = if a = q ∧ 5 ≤ k ∧ k ≤ 9 then some (q + (k - 4)) else if a = q + 3 ∧ k < i + 1 then some (q + 6 + k) else if a = q + 4 ∧ k < j then some (q + 30 + k) else x.2 a k
  (repeat' split) <;> first | rfl | (exfalso; omega) | (congr 1; omega)
theorem seaP_a (q i j : Nat) (x : Cn) : ur (seaP q i j x) (q + 4) j (some (q + 30 + j)) = seaP q i (j + 1) x := by
  refine Prod.ext rfl (funext fun a => funext fun k => ?_)
  show (if a = q + 4 ∧ k = j then some (q + 30 + j) else if a = q ∧ 5 ≤ k ∧ k ≤ 9 then some (q + (k - 4)) else if a = q + 3 ∧ k < i then some (q + 6 + k) else if a = q + 4 ∧ k < j then some (q + 30 + k) else x.2 a k) = if a = q ∧ 5 ≤ k ∧ k ≤ 9 then some (q + (k - 4)) else if a = q + 3 ∧ k < i then some (q + 6 + k) else if a = q + 4 ∧ k < j + 1 then some (q + 30 + k) else x.2 a k
  (repeat' split) <;> first | rfl | (exfalso; omega) | (congr 1; omega)
theorem seaP_ok {q i j n : Nat} {x : Cn} (ok : Okx (q + 1) x) (h1 : q + 6 + i ≤ n) (h2 : j = 0 ∨ q + 30 + j ≤ n) : Okx n (seaP q i j x) := by
  refine ⟨fun a k ha => ⟨(ok.1 a k (by omega)).1, ?_⟩, fun a k b hb => ?_⟩
  · show (if a = q ∧ 5 ≤ k ∧ k ≤ 9 then some (q + (k - 4)) else if a = q + 3 ∧ k < i then some (q + 6 + k) else if a = q + 4 ∧ k < j then some (q + 30 + k) else x.2 a k) = none
    rw [if_neg (by omega), if_neg (by omega), if_neg (by omega)]
    exact (ok.1 a k (by omega)).2
  · have hb : (if a = q ∧ 5 ≤ k ∧ k ≤ 9 then some (q + (k - 4)) else if a = q + 3 ∧ k < i then some (q + 6 + k) else if a = q + 4 ∧ k < j then some (q + 30 + k) else x.2 a k) = some b := hb
    by_cases z1 : a = q ∧ 5 ≤ k ∧ k ≤ 9
    · rw [if_pos z1] at hb
      cases hb
      omega
    · rw [if_neg z1] at hb
      by_cases z2 : a = q + 3 ∧ k < i
      · rw [if_pos z2] at hb
        cases hb
        omega
      · rw [if_neg z2] at hb
        by_cases z3 : a = q + 4 ∧ k < j
        · rw [if_pos z3] at hb
          cases hb
          omega
        · rw [if_neg z3] at hb
          have := ok.2 a k b hb
          omega
theorem skd5 {j : Nat} (h1 : 6 ≤ j) (h2 : j < 30) : skd j = (5, 0) := by
  unfold skd
  rw [if_neg (by omega), if_neg (by omega), if_neg (by omega), if_neg (by omega), if_neg (by omega), if_pos (by omega)]
theorem skd0 {j : Nat} (h1 : 30 ≤ j) : skd j = (0, 0) := by
  unfold skd
  rw [if_neg (by omega), if_neg (by omega), if_neg (by omega), if_neg (by omega), if_neg (by omega), if_neg (by omega)]
theorem lp_X4a {q : Nat} {x : Cn} {P : HP → Prop} (hq : q < 900) (hs : ∀ j, j < 54 → kwf (q + j) = skd j) (ok : Okx (q + 1) x) (K : GN mX4_init 53 577 (q + 1) P (29, 409) 98 [some (.ref q), some (.int (nI 24))] [] (hp (q + 30, kwf) (seaP q 24 0 x))) : ∀ d i, i + d = 24 → GN mX4_init 53 577 (q + 1) P (5 + i, 121 + 12 * i) 73 [some (.ref q), some (.int (nI i))] [] (hp (q + 6 + i, kwf) (seaP q i 0 x)) := by
  intro d
  induction d with
  | zero =>
    intro i hi
    obtain rfl : i = 24 := by omega
    refine n_iload_n (pc := 73) dX4_init_73 rfl ?_
    refine n_bipush (v := nI 24) (pc := 74) dX4_init_74 (by decide) ?_
    exact n_icmp_ge (pc := 76) (tgt := 98) dX4_init_76 (by decide) (fun _ => K) (fun z => absurd (by decide) z)
  | succ d ih =>
    intro i hi
    have sb : q + 6 + i < mSB := Nat.lt_trans (show q + 6 + i < 1000 by omega) (by decide)
    have hk : kwf (q + 6 + i) = (5, 0) := by rw [Nat.add_assoc, hs (6 + i) (by omega)]; exact skd5 (by omega) (by omega)
    refine n_iload_n (pc := 73) dX4_init_73 rfl ?_
    refine n_bipush (v := nI 24) (pc := 74) dX4_init_74 (by decide) ?_
    refine n_icmp_ge (pc := 76) (tgt := 98) dX4_init_76 (by decide) (fun z => absurd z (nI_ge (by omega) (by omega))) (fun _ => ?_)
    refine n_aload_n (pc := 79) dX4_init_79 rfl ?_
    refine n_getR (pc := 80) (ci := 4) (b := q + 3) dX4_init_80 fl_X4_36 rfl (by omega) (hs 0 (by decide)) (by simp [seaP]) ?_
    refine n_iload_n (pc := 83) dX4_init_83 rfl ?_
    refine n_new (pc := 84) (ci := 5) (c' := (6 + i, 133 + 12 * i)) dX4_init_84 kl_X4_34 it_5 iz_5 (by decide) (seaP_ok ok (by omega) (Or.inl rfl)) sb (by intro b9 h9; simp at h9; first | (subst h9; show @LT.lt Nat _ _ _; omega) | (rcases h9 with h9 | h9 <;> (subst h9; show @LT.lt Nat _ _ _; omega)) | (rcases h9 with h9 | h9 | h9 <;> (subst h9; show @LT.lt Nat _ _ _; omega))) (by intro b9 h9; simp at h9; first | (subst h9; show @LT.lt Nat _ _ _; omega) | (rcases h9 with h9 | h9 <;> (subst h9; show @LT.lt Nat _ _ _; omega)) | (rcases h9 with h9 | h9 | h9 <;> (subst h9; show @LT.lt Nat _ _ _; omega))) (by omega) (Prod.ext (show 6 + i = 5 + i + 1 by omega) (show 133 + 12 * i = 121 + 12 * i + 12 by omega)) (show 6 + i ≤ 53 by omega) (show 133 + 12 * i ≤ 577 by omega) hk ?_
    refine n_dup (pc := 87) dX4_init_87 rfl ?_
    refine n_callI mX5_init (pc := 88) (m1 := 0) (s1 := 0) (c' := (6 + i, 133 + 12 * i)) dX4_init_88 (Or.inr ⟨_, nl_X4_49⟩) ii_X5_init mo_X5_init rfl rfl ⟨by decide, by decide⟩ (Nat.le_of_ble_eq_true rfl) (by intro b9 h9; simp at h9; first | (subst h9; show @LT.lt Nat _ _ _; omega) | (rcases h9 with h9 | h9 <;> (subst h9; show @LT.lt Nat _ _ _; omega)) | (rcases h9 with h9 | h9 | h9 <;> (subst h9; show @LT.lt Nat _ _ _; omega))) (by intro b9 h9; simp at h9; first | (subst h9; show @LT.lt Nat _ _ _; omega) | (rcases h9 with h9 | h9 <;> (subst h9; show @LT.lt Nat _ _ _; omega)) | (rcases h9 with h9 | h9 | h9 <;> (subst h9; show @LT.lt Nat _ _ _; omega))) (by omega) rfl (show 6 + i ≤ 53 by omega) (show 133 + 12 * i ≤ 577 by omega) (ct_X5 (by omega) hk (fun k => (ok.1 _ k (by omega)).1)) ?_
    refine n_aast (pc := 91) (ci := 23) (N := 24) (cj := 5) (nb := 0) (j := i) dX4_init_91 (by omega) (hs 3 (by decide)) (by decide) (by decide) rfl (by omega) hk (vp_in_nI (by omega) (by decide)) (nI_clamp (by omega)) ?_
    rw [seaP_s]
    refine n_iinc (pc := 92) (w := nI (i + 1)) dX4_init_92 rfl (nI_succ i).symm (by decide) ?_
    refine n_goto (pc := 95) (tgt := 73) dX4_init_95 (by decide) ?_
    rw [show ((6 + i, 133 + 12 * i) : Nat × Nat) = (5 + (i + 1), 121 + 12 * (i + 1)) from Prod.ext (show 6 + i = 5 + (i + 1) by omega) (show 133 + 12 * i = 121 + 12 * (i + 1) by omega)]
    exact ih (i + 1) (by omega)
theorem lp_X4b {q : Nat} {x : Cn} {P : HP → Prop} (hq : q < 900) (hs : ∀ j, j < 54 → kwf (q + j) = skd j) (ok : Okx (q + 1) x) (hP : P (hp (q + 54, kwf) (seaP q 24 24 x))) : ∀ d i, i + d = 24 → GN mX4_init 53 577 (q + 1) P (29 + i, 409 + 7 * i) 100 [some (.ref q), some (.int (nI i))] [] (hp (q + 30 + i, kwf) (seaP q 24 i x)) := by
  intro d
  induction d with
  | zero =>
    intro i hi
    obtain rfl : i = 24 := by omega
    refine n_iload_n (pc := 100) dX4_init_100 rfl ?_
    refine n_bipush (v := nI 24) (pc := 101) dX4_init_101 (by decide) ?_
    exact n_icmp_ge (pc := 103) (tgt := 125) dX4_init_103 (by decide) (fun _ => n_ret (pc := 125) rfl rfl dX4_init_125 hP) (fun z => absurd (by decide) z)
  | succ d ih =>
    intro i hi
    have sb : q + 30 + i < mSB := Nat.lt_trans (show q + 30 + i < 1000 by omega) (by decide)
    have hk : kwf (q + 30 + i) = (0, 0) := by rw [Nat.add_assoc, hs (30 + i) (by omega)]; exact skd0 (by omega)
    refine n_iload_n (pc := 100) dX4_init_100 rfl ?_
    refine n_bipush (v := nI 24) (pc := 101) dX4_init_101 (by decide) ?_
    refine n_icmp_ge (pc := 103) (tgt := 125) dX4_init_103 (by decide) (fun z => absurd z (nI_ge (by omega) (by omega))) (fun _ => ?_)
    refine n_aload_n (pc := 106) dX4_init_106 rfl ?_
    refine n_getR (pc := 107) (ci := 4) (b := q + 4) dX4_init_107 fl_X4_42 rfl (by omega) (hs 0 (by decide)) (by simp [seaP]) ?_
    refine n_iload_n (pc := 110) dX4_init_110 rfl ?_
    refine n_new (pc := 111) (ci := 0) (c' := (30 + i, 416 + 7 * i)) dX4_init_111 kl_X4_40 it_0 iz_0 (by decide) (seaP_ok ok (by omega) (Or.inr (by omega))) sb (by intro b9 h9; simp at h9; first | (subst h9; show @LT.lt Nat _ _ _; omega) | (rcases h9 with h9 | h9 <;> (subst h9; show @LT.lt Nat _ _ _; omega)) | (rcases h9 with h9 | h9 | h9 <;> (subst h9; show @LT.lt Nat _ _ _; omega))) (by intro b9 h9; simp at h9; first | (subst h9; show @LT.lt Nat _ _ _; omega) | (rcases h9 with h9 | h9 <;> (subst h9; show @LT.lt Nat _ _ _; omega)) | (rcases h9 with h9 | h9 | h9 <;> (subst h9; show @LT.lt Nat _ _ _; omega))) (by omega) (Prod.ext (show 30 + i = 29 + i + 1 by omega) (show 416 + 7 * i = 409 + 7 * i + 7 by omega)) (show 30 + i ≤ 53 by omega) (show 416 + 7 * i ≤ 577 by omega) hk ?_
    refine n_dup (pc := 114) dX4_init_114 rfl ?_
    refine n_callI mX0_init (pc := 115) (m1 := 0) (s1 := 0) (c' := (30 + i, 416 + 7 * i)) dX4_init_115 (Or.inr ⟨_, nl_X4_50⟩) ii_X0_init mo_X0_init rfl rfl ⟨by decide, by decide⟩ (Nat.le_of_ble_eq_true rfl) (by intro b9 h9; simp at h9; first | (subst h9; show @LT.lt Nat _ _ _; omega) | (rcases h9 with h9 | h9 <;> (subst h9; show @LT.lt Nat _ _ _; omega)) | (rcases h9 with h9 | h9 | h9 <;> (subst h9; show @LT.lt Nat _ _ _; omega))) (by intro b9 h9; simp at h9; first | (subst h9; show @LT.lt Nat _ _ _; omega) | (rcases h9 with h9 | h9 <;> (subst h9; show @LT.lt Nat _ _ _; omega)) | (rcases h9 with h9 | h9 | h9 <;> (subst h9; show @LT.lt Nat _ _ _; omega))) (by omega) rfl (show 30 + i ≤ 53 by omega) (show 416 + 7 * i ≤ 577 by omega) (ct_X0 (by omega) hk (fun k => (ok.1 _ k (by omega)).1)) ?_
    refine n_aast (pc := 118) (ci := 24) (N := 24) (cj := 0) (nb := 0) (j := i) dX4_init_118 (by omega) (hs 4 (by decide)) (by decide) (by decide) rfl (by omega) hk (vp_in_nI (by omega) (by decide)) (nI_clamp (by omega)) ?_
    rw [seaP_a]
    refine n_iinc (pc := 119) (w := nI (i + 1)) dX4_init_119 rfl (nI_succ i).symm (by decide) ?_
    refine n_goto (pc := 122) (tgt := 100) dX4_init_122 (by decide) ?_
    rw [show ((30 + i, 416 + 7 * i) : Nat × Nat) = (29 + (i + 1), 409 + 7 * (i + 1)) from Prod.ext (show 30 + i = 29 + (i + 1) by omega) (show 416 + 7 * i = 409 + 7 * (i + 1) by omega)]
    exact ih (i + 1) (by omega)
theorem ct_X4 {q : Nat} {x : Cn} (hq : q < 900) (hs : ∀ j, j < 54 → kwf (q + j) = skd j) (ok : Okx (q + 1) x) (hz : ∀ k, x.1 q k = 0) : mSpN mX4_init [.ref q] (hp (q + 1, kwf) x) 53 577 (fun h' => h' = hp (q + 54, kwf) (seaP q 24 24 x)) := by
  have sb : q + 100 < mSB := Nat.lt_trans (show q + 100 < 1001 by omega) (by decide)
  have hk : kwf q = (4, 0) := hs 0 (by decide)
  have hb : q < q + 1 := by omega
  have ok1 : Okx (q + 2) (ur x q 5 (some (q + 1))) := (ok.up (by omega)).ur (by omega) 5 (by omega)
  have ok2 : Okx (q + 3) (ur (ur x q 5 (some (q + 1))) q 6 (some (q + 2))) := (ok1.up (by omega)).ur (by omega) 6 (by omega)
  have ok3 : Okx (q + 4) (ur (ur (ur x q 5 (some (q + 1))) q 6 (some (q + 2))) q 7 (some (q + 3))) := (ok2.up (by omega)).ur (by omega) 7 (by omega)
  have ok4 : Okx (q + 5) (ur (ur (ur (ur x q 5 (some (q + 1))) q 6 (some (q + 2))) q 7 (some (q + 3))) q 8 (some (q + 4))) := (ok3.up (by omega)).ur (by omega) 8 (by omega)
  refine n_of (by decide) (by simp [Value.category]) (Nat.le_of_ble_eq_true rfl) rfl ?_
  show GN mX4_init 53 577 (q + 1) _ (0, 0) 0 [some (.ref q), none] [] _
  refine n_aload_n (pc := 0) dX4_init_0 rfl ?_
  refine n_objInit (pc := 1) dX4_init_1 lk_X4_3 oi_i oi_c ⟨by decide, by decide⟩ (Nat.le_of_ble_eq_true rfl) ?_
  refine n_aload_n (pc := 4) dX4_init_4 rfl ?_
  refine n_iconst (v := 0) (pc := 5) dX4_init_5 (by decide) ?_
  refine n_put0 (pc := 6) (ci := 4) dX4_init_6 fl_X4_9 rfl rfl hb hk ⟨rfl, rfl⟩ (hz _) ?_
  refine n_aload_n (pc := 9) dX4_init_9 rfl ?_
  refine n_iconst (v := 0) (pc := 10) dX4_init_10 (by decide) ?_
  refine n_put0 (pc := 11) (ci := 4) dX4_init_11 fl_X4_15 rfl rfl hb hk ⟨rfl, rfl⟩ (hz _) ?_
  refine n_aload_n (pc := 14) dX4_init_14 rfl ?_
  refine n_iconst (v := 0) (pc := 15) dX4_init_15 (by decide) ?_
  refine n_put0 (pc := 16) (ci := 4) dX4_init_16 fl_X4_18 rfl rfl hb hk ⟨rfl, rfl⟩ (hz _) ?_
  refine n_aload_n (pc := 19) dX4_init_19 rfl ?_
  refine n_iconst (v := 0) (pc := 20) dX4_init_20 (by decide) ?_
  refine n_put0 (pc := 21) (ci := 4) dX4_init_21 fl_X4_21 rfl rfl hb hk ⟨rfl, rfl⟩ (hz _) ?_
  refine n_aload_n (pc := 24) dX4_init_24 rfl ?_
  refine n_iconst (v := 0) (pc := 25) dX4_init_25 (by decide) ?_
  refine n_put0 (pc := 26) (ci := 4) dX4_init_26 fl_X4_24 rfl rfl hb hk ⟨rfl, rfl⟩ (hz _) ?_
  refine n_aload_n (pc := 29) dX4_init_29 rfl ?_
  refine n_bipush (v := 24) (pc := 30) dX4_init_30 (by decide) ?_
  refine n_newa (n := q + 1) (c' := (1, 24)) (N := 24) (kn := 20) (pc := 32) dX4_init_32 (Or.inl ⟨rfl, rfl⟩) ac_i rfl (by decide) ok (by omega) (by intro b9 h9; simp at h9; first | (subst h9; show @LT.lt Nat _ _ _; omega) | (rcases h9 with h9 | h9 <;> (subst h9; show @LT.lt Nat _ _ _; omega)) | (rcases h9 with h9 | h9 | h9 <;> (subst h9; show @LT.lt Nat _ _ _; omega))) (by intro b9 h9; simp at h9; first | (subst h9; show @LT.lt Nat _ _ _; omega) | (rcases h9 with h9 | h9 <;> (subst h9; show @LT.lt Nat _ _ _; omega)) | (rcases h9 with h9 | h9 | h9 <;> (subst h9; show @LT.lt Nat _ _ _; omega))) (by omega) rfl (Nat.le_of_ble_eq_true rfl) (Nat.le_of_ble_eq_true rfl) (hs 1 (by decide)) ?_
  refine n_putRF (n := q + 2) (b := q + 1) (pc := 34) (ci := 4) dX4_init_34 fl_X4_27 rfl rfl rfl rfl (by omega) hk ?_
  refine n_aload_n (pc := 37) dX4_init_37 rfl ?_
  refine n_bipush (v := 24) (pc := 38) dX4_init_38 (by decide) ?_
  refine n_newa (n := q + 2) (c' := (2, 48)) (N := 24) (kn := 20) (pc := 40) dX4_init_40 (Or.inl ⟨rfl, rfl⟩) ac_i rfl (by decide) ok1 (by omega) (by intro b9 h9; simp at h9; first | (subst h9; show @LT.lt Nat _ _ _; omega) | (rcases h9 with h9 | h9 <;> (subst h9; show @LT.lt Nat _ _ _; omega)) | (rcases h9 with h9 | h9 | h9 <;> (subst h9; show @LT.lt Nat _ _ _; omega))) (by intro b9 h9; simp at h9; first | (subst h9; show @LT.lt Nat _ _ _; omega) | (rcases h9 with h9 | h9 <;> (subst h9; show @LT.lt Nat _ _ _; omega)) | (rcases h9 with h9 | h9 | h9 <;> (subst h9; show @LT.lt Nat _ _ _; omega))) (by omega) rfl (Nat.le_of_ble_eq_true rfl) (Nat.le_of_ble_eq_true rfl) (hs 2 (by decide)) ?_
  refine n_putRF (n := q + 3) (b := q + 2) (pc := 42) (ci := 4) dX4_init_42 fl_X4_31 rfl rfl rfl rfl (by omega) hk ?_
  refine n_aload_n (pc := 45) dX4_init_45 rfl ?_
  refine n_bipush (v := 24) (pc := 46) dX4_init_46 (by decide) ?_
  refine n_anew (n := q + 3) (c' := (3, 72)) (N := 24) (kn := 23) (pc := 48) dX4_init_48 kl_X4_34 (Or.inr (Or.inl ⟨rfl, rfl⟩)) rfl (by decide) ok2 (by omega) (by intro b9 h9; simp at h9; first | (subst h9; show @LT.lt Nat _ _ _; omega) | (rcases h9 with h9 | h9 <;> (subst h9; show @LT.lt Nat _ _ _; omega)) | (rcases h9 with h9 | h9 | h9 <;> (subst h9; show @LT.lt Nat _ _ _; omega))) (by intro b9 h9; simp at h9; first | (subst h9; show @LT.lt Nat _ _ _; omega) | (rcases h9 with h9 | h9 <;> (subst h9; show @LT.lt Nat _ _ _; omega)) | (rcases h9 with h9 | h9 | h9 <;> (subst h9; show @LT.lt Nat _ _ _; omega))) (by omega) rfl (Nat.le_of_ble_eq_true rfl) (Nat.le_of_ble_eq_true rfl) (hs 3 (by decide)) ?_
  refine n_putRF (n := q + 4) (b := q + 3) (pc := 51) (ci := 4) dX4_init_51 fl_X4_36 rfl rfl rfl rfl (by omega) hk ?_
  refine n_aload_n (pc := 54) dX4_init_54 rfl ?_
  refine n_bipush (v := 24) (pc := 55) dX4_init_55 (by decide) ?_
  refine n_anew (n := q + 4) (c' := (4, 96)) (N := 24) (kn := 24) (pc := 57) dX4_init_57 kl_X4_40 (Or.inr (Or.inr ⟨rfl, rfl⟩)) rfl (by decide) ok3 (by omega) (by intro b9 h9; simp at h9; first | (subst h9; show @LT.lt Nat _ _ _; omega) | (rcases h9 with h9 | h9 <;> (subst h9; show @LT.lt Nat _ _ _; omega)) | (rcases h9 with h9 | h9 | h9 <;> (subst h9; show @LT.lt Nat _ _ _; omega))) (by intro b9 h9; simp at h9; first | (subst h9; show @LT.lt Nat _ _ _; omega) | (rcases h9 with h9 | h9 <;> (subst h9; show @LT.lt Nat _ _ _; omega)) | (rcases h9 with h9 | h9 | h9 <;> (subst h9; show @LT.lt Nat _ _ _; omega))) (by omega) rfl (Nat.le_of_ble_eq_true rfl) (Nat.le_of_ble_eq_true rfl) (hs 4 (by decide)) ?_
  refine n_putRF (n := q + 5) (b := q + 4) (pc := 60) (ci := 4) dX4_init_60 fl_X4_42 rfl rfl rfl rfl (by omega) hk ?_
  refine n_aload_n (pc := 63) dX4_init_63 rfl ?_
  refine n_bipush (v := 25) (pc := 64) dX4_init_64 (by decide) ?_
  refine n_newa (n := q + 5) (c' := (5, 121)) (N := 25) (kn := 20) (pc := 66) dX4_init_66 (Or.inl ⟨rfl, rfl⟩) ac_i rfl (by decide) ok4 (by omega) (by intro b9 h9; simp at h9; first | (subst h9; show @LT.lt Nat _ _ _; omega) | (rcases h9 with h9 | h9 <;> (subst h9; show @LT.lt Nat _ _ _; omega)) | (rcases h9 with h9 | h9 | h9 <;> (subst h9; show @LT.lt Nat _ _ _; omega))) (by intro b9 h9; simp at h9; first | (subst h9; show @LT.lt Nat _ _ _; omega) | (rcases h9 with h9 | h9 <;> (subst h9; show @LT.lt Nat _ _ _; omega)) | (rcases h9 with h9 | h9 | h9 <;> (subst h9; show @LT.lt Nat _ _ _; omega))) (by omega) rfl (Nat.le_of_ble_eq_true rfl) (Nat.le_of_ble_eq_true rfl) (hs 5 (by decide)) ?_
  refine n_putRF (n := q + 6) (b := q + 5) (pc := 68) (ci := 4) dX4_init_68 fl_X4_46 rfl rfl rfl rfl (by omega) hk ?_
  change GN mX4_init 53 577 (q + 1) _ (5, 121) 71 [some (.ref q), none] [] (hp (q + 6, kwf) (ur (ur (ur (ur (ur x q 5 (some (q + 1))) q 6 (some (q + 2))) q 7 (some (q + 3))) q 8 (some (q + 4))) q 9 (some (q + 5))))
  rw [seaP_0]
  refine n_iconst (v := nI 0) (pc := 71) dX4_init_71 (by decide) ?_
  refine n_istore_n (pc := 72) dX4_init_72 (by decide) ?_
  refine lp_X4a hq hs ok ?_ 24 0 rfl
  refine n_iconst (v := nI 0) (pc := 98) dX4_init_98 (by decide) ?_
  refine n_istore_n (pc := 99) dX4_init_99 (by decide) ?_
  exact lp_X4b (P := fun h' => h' = hp (q + 54, kwf) (seaP q 24 24 x)) hq hs ok rfl 24 0 rfl
theorem ksK {q : Nat} (h : Isea q) : ∀ j, j < 54 → kwf (q + j) = skd j := fun j hj => by
  have e := ksea h j hj
  have hl := h.lt
  unfold kk at e
  rw [if_pos (show q + j < KW.1 from (show q + j < 726 by omega))] at e
  exact Option.some.inj e
theorem uiz {y : Cn} {a k b j : Nat} {v : Int32} (h : ¬ (b = a ∧ j = k)) (hz : y.1 b j = 0) : (ui y a k v).1 b j = 0 := (if_neg h).trans hz
def plC (x : Cn) : Cn := (ur (ur (ur (ur (seaP 118 24 24 x) 117 0 (some 118)) 117 1 (some 172)) 117 2 (some 173)) 117 3 (some 174))
theorem ct_X2 {x : Cn} (ok : Okx 118 x) (hz : ∀ k, x.1 117 k = 0) : mSpN mX2_init [.ref 117] (hp (118, kwf) x) 57 691 (fun h' => h' = hp (175, kwf) (plC x)) := by
  refine n_of (by decide) (by simp [Value.category]) (Nat.le_of_ble_eq_true rfl) rfl ?_
  show GN mX2_init 57 691 118 _ (0, 0) 0 [some (.ref 117)] [] _
  refine n_aload_n (pc := 0) dX2_init_0 rfl ?_
  refine n_objInit (pc := 1) dX2_init_1 lk_X2_3 oi_i oi_c ⟨by decide, by decide⟩ (Nat.le_of_ble_eq_true rfl) ?_
  refine n_aload_n (pc := 4) dX2_init_4 rfl ?_
  refine n_new (n := 118) (pc := 5) (ci := 4) (c' := (1, 10)) dX2_init_5 kl_X2_9 it_4 iz_4 (by decide) ok (by decide) (by intro b9 h9; simp at h9; first | (subst h9; show @LT.lt Nat _ _ _; omega) | (rcases h9 with h9 | h9 <;> (subst h9; show @LT.lt Nat _ _ _; omega)) | (rcases h9 with h9 | h9 | h9 <;> (subst h9; show @LT.lt Nat _ _ _; omega))) (by intro b9 h9; simp at h9; first | (subst h9; show @LT.lt Nat _ _ _; omega) | (rcases h9 with h9 | h9 <;> (subst h9; show @LT.lt Nat _ _ _; omega)) | (rcases h9 with h9 | h9 | h9 <;> (subst h9; show @LT.lt Nat _ _ _; omega))) (by decide) rfl (Nat.le_of_ble_eq_true rfl) (Nat.le_of_ble_eq_true rfl) (by decide) ?_
  refine n_dup (pc := 8) dX2_init_8 rfl ?_
  refine n_callI mX4_init (n := 119) (n' := 172) (pc := 9) (m1 := 53) (s1 := 577) (c' := (54, 587)) dX2_init_9 (Or.inl lk_X2_11) ii_X4_init mo_X4_init rfl rfl ⟨by decide, by decide⟩ (Nat.le_of_ble_eq_true rfl) (by intro b9 h9; simp at h9; first | (subst h9; show @LT.lt Nat _ _ _; omega) | (rcases h9 with h9 | h9 <;> (subst h9; show @LT.lt Nat _ _ _; omega)) | (rcases h9 with h9 | h9 | h9 <;> (subst h9; show @LT.lt Nat _ _ _; omega))) (by intro b9 h9; simp at h9; first | (subst h9; show @LT.lt Nat _ _ _; omega) | (rcases h9 with h9 | h9 <;> (subst h9; show @LT.lt Nat _ _ _; omega)) | (rcases h9 with h9 | h9 | h9 <;> (subst h9; show @LT.lt Nat _ _ _; omega))) (by decide) rfl (Nat.le_of_ble_eq_true rfl) (Nat.le_of_ble_eq_true rfl) (ct_X4 (q := 118) (by decide) (ksK (Or.inr (Or.inr (Or.inl rfl)))) (ok.up (m := 119) (by decide)) (fun k => (ok.1 _ k (by decide)).1)) ?_
  have ok_1 := seaP_ok (q := 118) (i := 24) (j := 24) (n := 172) (ok.up (m := 119) (by decide)) (by decide) (Or.inr (by decide))
  refine n_putRF (n := 172) (b := 118) (pc := 12) (ci := 2) dX2_init_12 fl_X2_12 rfl rfl rfl rfl (by decide) (by decide) ?_
  have ok_2 := (ok_1.up (m := 172) (by decide)).ur (a := 117) (b := 118) (by decide) 0 (by decide)
  refine n_aload_n (pc := 15) dX2_init_15 rfl ?_
  refine n_bipush (v := 56) (pc := 16) dX2_init_16 (by decide) ?_
  refine n_newa (n := 172) (N := 56) (kn := 20) (c' := (55, 643)) (pc := 18) dX2_init_18 (Or.inl ⟨rfl, rfl⟩) ac_i rfl (by decide) ok_2 (by decide) (by intro b9 h9; simp at h9; first | (subst h9; show @LT.lt Nat _ _ _; omega) | (rcases h9 with h9 | h9 <;> (subst h9; show @LT.lt Nat _ _ _; omega)) | (rcases h9 with h9 | h9 | h9 <;> (subst h9; show @LT.lt Nat _ _ _; omega))) (by intro b9 h9; simp at h9; first | (subst h9; show @LT.lt Nat _ _ _; omega) | (rcases h9 with h9 | h9 <;> (subst h9; show @LT.lt Nat _ _ _; omega)) | (rcases h9 with h9 | h9 | h9 <;> (subst h9; show @LT.lt Nat _ _ _; omega))) (by decide) rfl (Nat.le_of_ble_eq_true rfl) (Nat.le_of_ble_eq_true rfl) (by decide) ?_
  refine n_putRF (n := 173) (b := 172) (pc := 20) (ci := 2) dX2_init_20 fl_X2_18 rfl rfl rfl rfl (by decide) (by decide) ?_
  have ok_3 := (ok_2.up (m := 173) (by decide)).ur (a := 117) (b := 172) (by decide) 1 (by decide)
  refine n_aload_n (pc := 23) dX2_init_23 rfl ?_
  refine n_bipush (v := 24) (pc := 24) dX2_init_24 (by decide) ?_
  refine n_newa (n := 173) (N := 24) (kn := 20) (c' := (56, 667)) (pc := 26) dX2_init_26 (Or.inl ⟨rfl, rfl⟩) ac_i rfl (by decide) ok_3 (by decide) (by intro b9 h9; simp at h9; first | (subst h9; show @LT.lt Nat _ _ _; omega) | (rcases h9 with h9 | h9 <;> (subst h9; show @LT.lt Nat _ _ _; omega)) | (rcases h9 with h9 | h9 | h9 <;> (subst h9; show @LT.lt Nat _ _ _; omega))) (by intro b9 h9; simp at h9; first | (subst h9; show @LT.lt Nat _ _ _; omega) | (rcases h9 with h9 | h9 <;> (subst h9; show @LT.lt Nat _ _ _; omega)) | (rcases h9 with h9 | h9 | h9 <;> (subst h9; show @LT.lt Nat _ _ _; omega))) (by decide) rfl (Nat.le_of_ble_eq_true rfl) (Nat.le_of_ble_eq_true rfl) (by decide) ?_
  refine n_putRF (n := 174) (b := 173) (pc := 28) (ci := 2) dX2_init_28 fl_X2_22 rfl rfl rfl rfl (by decide) (by decide) ?_
  have ok_4 := (ok_3.up (m := 174) (by decide)).ur (a := 117) (b := 173) (by decide) 2 (by decide)
  refine n_aload_n (pc := 31) dX2_init_31 rfl ?_
  refine n_bipush (v := 24) (pc := 32) dX2_init_32 (by decide) ?_
  refine n_newa (n := 174) (N := 24) (kn := 20) (c' := (57, 691)) (pc := 34) dX2_init_34 (Or.inl ⟨rfl, rfl⟩) ac_i rfl (by decide) ok_4 (by decide) (by intro b9 h9; simp at h9; first | (subst h9; show @LT.lt Nat _ _ _; omega) | (rcases h9 with h9 | h9 <;> (subst h9; show @LT.lt Nat _ _ _; omega)) | (rcases h9 with h9 | h9 | h9 <;> (subst h9; show @LT.lt Nat _ _ _; omega))) (by intro b9 h9; simp at h9; first | (subst h9; show @LT.lt Nat _ _ _; omega) | (rcases h9 with h9 | h9 <;> (subst h9; show @LT.lt Nat _ _ _; omega)) | (rcases h9 with h9 | h9 | h9 <;> (subst h9; show @LT.lt Nat _ _ _; omega))) (by decide) rfl (Nat.le_of_ble_eq_true rfl) (Nat.le_of_ble_eq_true rfl) (by decide) ?_
  refine n_putRF (n := 175) (b := 174) (pc := 36) (ci := 2) dX2_init_36 fl_X2_25 rfl rfl rfl rfl (by decide) (by decide) ?_
  have ok_5 := (ok_4.up (m := 175) (by decide)).ur (a := 117) (b := 174) (by decide) 3 (by decide)
  refine n_aload_n (pc := 39) dX2_init_39 rfl ?_
  refine n_iconst (v := 0) (pc := 40) dX2_init_40 (by decide) ?_
  refine n_put0 (n := 175) (pc := 41) (ci := 2) dX2_init_41 fl_X2_28 rfl rfl (by decide) (by decide) ⟨rfl, rfl⟩ (hz 4) ?_
  exact n_ret (pc := 44) rfl rfl dX2_init_44 rfl
theorem plC_ok {x : Cn} (ok : Okx 118 x) : Okx 175 (plC x) := by
  have ok_1 := seaP_ok (q := 118) (i := 24) (j := 24) (n := 172) (ok.up (m := 119) (by decide)) (by decide) (Or.inr (by decide))
  have ok_2 := (ok_1.up (m := 172) (by decide)).ur (a := 117) (b := 118) (by decide) 0 (by decide)
  have ok_3 := (ok_2.up (m := 173) (by decide)).ur (a := 117) (b := 172) (by decide) 1 (by decide)
  have ok_4 := (ok_3.up (m := 174) (by decide)).ur (a := 117) (b := 173) (by decide) 2 (by decide)
  have ok_5 := (ok_4.up (m := 175) (by decide)).ur (a := 117) (b := 174) (by decide) 3 (by decide)
  exact ok_5
def rdC (x : Cn) : Cn := (ur (ui (ur (ur (ur (seaP 60 24 24 x) 59 0 (some 60)) 114 1 (some 115)) 59 1 (some 114)) 59 4 (-1)) 59 5 (some 116))
theorem ct_X3 {x : Cn} (ok : Okx 60 x) (hz : ∀ k, x.1 59 k = 0) : mSpN mX3_init [.ref 59] (hp (60, kwf) x) 57 637 (fun h' => h' = hp (117, kwf) (rdC x)) := by
  refine n_of (by decide) (by simp [Value.category]) (Nat.le_of_ble_eq_true rfl) rfl ?_
  show GN mX3_init 57 637 60 _ (0, 0) 0 [some (.ref 59)] [] _
  refine n_aload_n (pc := 0) dX3_init_0 rfl ?_
  refine n_objInit (pc := 1) dX3_init_1 lk_X3_3 oi_i oi_c ⟨by decide, by decide⟩ (Nat.le_of_ble_eq_true rfl) ?_
  refine n_aload_n (pc := 4) dX3_init_4 rfl ?_
  refine n_new (n := 60) (pc := 5) (ci := 4) (c' := (1, 10)) dX3_init_5 kl_X3_9 it_4 iz_4 (by decide) ok (by decide) (by intro b9 h9; simp at h9; first | (subst h9; show @LT.lt Nat _ _ _; omega) | (rcases h9 with h9 | h9 <;> (subst h9; show @LT.lt Nat _ _ _; omega)) | (rcases h9 with h9 | h9 | h9 <;> (subst h9; show @LT.lt Nat _ _ _; omega))) (by intro b9 h9; simp at h9; first | (subst h9; show @LT.lt Nat _ _ _; omega) | (rcases h9 with h9 | h9 <;> (subst h9; show @LT.lt Nat _ _ _; omega)) | (rcases h9 with h9 | h9 | h9 <;> (subst h9; show @LT.lt Nat _ _ _; omega))) (by decide) rfl (Nat.le_of_ble_eq_true rfl) (Nat.le_of_ble_eq_true rfl) (by decide) ?_
  refine n_dup (pc := 8) dX3_init_8 rfl ?_
  refine n_callI mX4_init (n := 61) (n' := 114) (pc := 9) (m1 := 53) (s1 := 577) (c' := (54, 587)) dX3_init_9 (Or.inl lk_X3_11) ii_X4_init mo_X4_init rfl rfl ⟨by decide, by decide⟩ (Nat.le_of_ble_eq_true rfl) (by intro b9 h9; simp at h9; first | (subst h9; show @LT.lt Nat _ _ _; omega) | (rcases h9 with h9 | h9 <;> (subst h9; show @LT.lt Nat _ _ _; omega)) | (rcases h9 with h9 | h9 | h9 <;> (subst h9; show @LT.lt Nat _ _ _; omega))) (by intro b9 h9; simp at h9; first | (subst h9; show @LT.lt Nat _ _ _; omega) | (rcases h9 with h9 | h9 <;> (subst h9; show @LT.lt Nat _ _ _; omega)) | (rcases h9 with h9 | h9 | h9 <;> (subst h9; show @LT.lt Nat _ _ _; omega))) (by decide) rfl (Nat.le_of_ble_eq_true rfl) (Nat.le_of_ble_eq_true rfl) (ct_X4 (q := 60) (by decide) (ksK (Or.inr (Or.inl rfl))) (ok.up (m := 61) (by decide)) (fun k => (ok.1 _ k (by decide)).1)) ?_
  have ok_1 := seaP_ok (q := 60) (i := 24) (j := 24) (n := 114) (ok.up (m := 61) (by decide)) (by decide) (Or.inr (by decide))
  refine n_putRF (n := 114) (b := 60) (pc := 12) (ci := 3) dX3_init_12 fl_X3_12 rfl rfl rfl rfl (by decide) (by decide) ?_
  have ok_2 := (ok_1.up (m := 114) (by decide)).ur (a := 59) (b := 60) (by decide) 0 (by decide)
  refine n_aload_n (pc := 15) dX3_init_15 rfl ?_
  refine n_new (n := 114) (pc := 16) (ci := 1) (c' := (55, 589)) dX3_init_16 kl_X3_18 it_1 iz_1 (by decide) ok_2 (by decide) (by intro b9 h9; simp at h9; first | (subst h9; show @LT.lt Nat _ _ _; omega) | (rcases h9 with h9 | h9 <;> (subst h9; show @LT.lt Nat _ _ _; omega)) | (rcases h9 with h9 | h9 | h9 <;> (subst h9; show @LT.lt Nat _ _ _; omega))) (by intro b9 h9; simp at h9; first | (subst h9; show @LT.lt Nat _ _ _; omega) | (rcases h9 with h9 | h9 <;> (subst h9; show @LT.lt Nat _ _ _; omega)) | (rcases h9 with h9 | h9 | h9 <;> (subst h9; show @LT.lt Nat _ _ _; omega))) (by decide) rfl (Nat.le_of_ble_eq_true rfl) (Nat.le_of_ble_eq_true rfl) (by decide) ?_
  refine n_dup (pc := 19) dX3_init_19 rfl ?_
  refine n_callI mX1_init (n := 115) (n' := 116) (pc := 20) (m1 := 1) (s1 := 48) (c' := (56, 637)) dX3_init_20 (Or.inr ⟨_, nl_X3_20⟩) ii_X1_init mo_X1_init rfl rfl ⟨by decide, by decide⟩ (Nat.le_of_ble_eq_true rfl) (by intro b9 h9; simp at h9; first | (subst h9; show @LT.lt Nat _ _ _; omega) | (rcases h9 with h9 | h9 <;> (subst h9; show @LT.lt Nat _ _ _; omega)) | (rcases h9 with h9 | h9 | h9 <;> (subst h9; show @LT.lt Nat _ _ _; omega))) (by intro b9 h9; simp at h9; first | (subst h9; show @LT.lt Nat _ _ _; omega) | (rcases h9 with h9 | h9 <;> (subst h9; show @LT.lt Nat _ _ _; omega)) | (rcases h9 with h9 | h9 | h9 <;> (subst h9; show @LT.lt Nat _ _ _; omega))) (by decide) rfl (Nat.le_of_ble_eq_true rfl) (Nat.le_of_ble_eq_true rfl) (ct_X1 (b := 114) (n := 115) (by decide) (by decide) (by decide) (by decide) (ok_2.up (m := 115) (by decide)) (fun k => (ok_2.1 _ k (by decide)).1)) ?_
  have ok_3 := (ok_2.up (m := 116) (by decide)).ur (a := 114) (b := 115) (by decide) 1 (by decide)
  refine n_putRF (n := 116) (b := 114) (pc := 23) (ci := 3) dX3_init_23 fl_X3_21 rfl rfl rfl rfl (by decide) (by decide) ?_
  have ok_4 := (ok_3.up (m := 116) (by decide)).ur (a := 59) (b := 114) (by decide) 1 (by decide)
  refine n_aload_n (pc := 26) dX3_init_26 rfl ?_
  refine n_iconst (v := 0) (pc := 27) dX3_init_27 (by decide) ?_
  refine n_put0 (n := 116) (pc := 28) (ci := 3) dX3_init_28 fl_X3_25 rfl rfl (by decide) (by decide) ⟨rfl, rfl⟩ (hz 2) ?_
  refine n_aload_n (pc := 31) dX3_init_31 rfl ?_
  refine n_iconst (v := 0) (pc := 32) dX3_init_32 (by decide) ?_
  refine n_put0 (n := 116) (pc := 33) (ci := 3) dX3_init_33 fl_X3_29 rfl rfl (by decide) (by decide) ⟨rfl, rfl⟩ (hz 3) ?_
  refine n_aload_n (pc := 36) dX3_init_36 rfl ?_
  refine n_iconst (v := (-1)) (pc := 37) dX3_init_37 (by decide) ?_
  refine n_putI (n := 116) (pc := 38) (ci := 3) dX3_init_38 fl_X3_32 rfl rfl (by decide) (by decide) ⟨rfl, rfl⟩ ?_
  have ok_5 := ok_4.ui (a := 59) (by decide) 4 (-1)
  refine n_aload_n (pc := 41) dX3_init_41 rfl ?_
  refine n_iconst (v := 0) (pc := 42) dX3_init_42 (by decide) ?_
  refine n_newa (n := 116) (N := 0) (kn := 21) (c' := (57, 637)) (pc := 43) dX3_init_43 (Or.inr ⟨rfl, rfl⟩) ac_b rfl (by decide) ok_5 (by decide) (by intro b9 h9; simp at h9; first | (subst h9; show @LT.lt Nat _ _ _; omega) | (rcases h9 with h9 | h9 <;> (subst h9; show @LT.lt Nat _ _ _; omega)) | (rcases h9 with h9 | h9 | h9 <;> (subst h9; show @LT.lt Nat _ _ _; omega))) (by intro b9 h9; simp at h9; first | (subst h9; show @LT.lt Nat _ _ _; omega) | (rcases h9 with h9 | h9 <;> (subst h9; show @LT.lt Nat _ _ _; omega)) | (rcases h9 with h9 | h9 | h9 <;> (subst h9; show @LT.lt Nat _ _ _; omega))) (by decide) rfl (Nat.le_of_ble_eq_true rfl) (Nat.le_of_ble_eq_true rfl) (by decide) ?_
  refine n_putR (n := 117) (b := 116) (pc := 45) (ci := 3) dX3_init_45 fl_X3_35 rfl rfl (by decide) (by decide) ?_
  have ok_6 := (ok_5.up (m := 117) (by decide)).ur (a := 59) (b := 116) (by decide) 5 (by decide)
  refine n_aload_n (pc := 48) dX3_init_48 rfl ?_
  refine n_iconst (v := 0) (pc := 49) dX3_init_49 (by decide) ?_
  refine n_put0 (n := 117) (pc := 50) (ci := 3) dX3_init_50 fl_X3_39 rfl rfl (by decide) (by decide) ⟨rfl, rfl⟩ (uiz (a := 59) (k := 4) (v := -1) (by decide) (hz 6)) ?_
  refine n_aload_n (pc := 53) dX3_init_53 rfl ?_
  refine n_iconst (v := 0) (pc := 54) dX3_init_54 (by decide) ?_
  refine n_put0 (n := 117) (pc := 55) (ci := 3) dX3_init_55 fl_X3_42 rfl rfl (by decide) (by decide) ⟨rfl, rfl⟩ (uiz (a := 59) (k := 4) (v := -1) (by decide) (hz 7)) ?_
  refine n_aload_n (pc := 58) dX3_init_58 rfl ?_
  refine n_iconst (v := 0) (pc := 59) dX3_init_59 (by decide) ?_
  refine n_put0 (n := 117) (pc := 60) (ci := 3) dX3_init_60 fl_X3_45 rfl rfl (by decide) (by decide) ⟨rfl, rfl⟩ (uiz (a := 59) (k := 4) (v := -1) (by decide) (hz 8)) ?_
  refine n_aload_n (pc := 63) dX3_init_63 rfl ?_
  refine n_iconst (v := 0) (pc := 64) dX3_init_64 (by decide) ?_
  refine n_put0 (n := 117) (pc := 65) (ci := 3) dX3_init_65 fl_X3_48 rfl rfl (by decide) (by decide) ⟨rfl, rfl⟩ (uiz (a := 59) (k := 4) (v := -1) (by decide) (hz 9)) ?_
  refine n_aload_n (pc := 68) dX3_init_68 rfl ?_
  refine n_iconst (v := 0) (pc := 69) dX3_init_69 (by decide) ?_
  refine n_put0 (n := 117) (pc := 70) (ci := 3) dX3_init_70 fl_X3_51 rfl rfl (by decide) (by decide) ⟨rfl, rfl⟩ (uiz (a := 59) (k := 4) (v := -1) (by decide) (hz 10)) ?_
  refine n_aload_n (pc := 73) dX3_init_73 rfl ?_
  refine n_iconst (v := 0) (pc := 74) dX3_init_74 (by decide) ?_
  refine n_put0 (n := 117) (pc := 75) (ci := 3) dX3_init_75 fl_X3_54 rfl rfl (by decide) (by decide) ⟨rfl, rfl⟩ (uiz (a := 59) (k := 4) (v := -1) (by decide) (hz 11)) ?_
  refine n_aload_n (pc := 78) dX3_init_78 rfl ?_
  refine n_iconst (v := 0) (pc := 79) dX3_init_79 (by decide) ?_
  refine n_put0 (n := 117) (pc := 80) (ci := 3) dX3_init_80 fl_X3_57 rfl rfl (by decide) (by decide) ⟨rfl, rfl⟩ (uiz (a := 59) (k := 4) (v := -1) (by decide) (hz 12)) ?_
  refine n_aload_n (pc := 83) dX3_init_83 rfl ?_
  refine n_iconst (v := 0) (pc := 84) dX3_init_84 (by decide) ?_
  refine n_put0 (n := 117) (pc := 85) (ci := 3) dX3_init_85 fl_X3_60 rfl rfl (by decide) (by decide) ⟨rfl, rfl⟩ (uiz (a := 59) (k := 4) (v := -1) (by decide) (hz 13)) ?_
  refine n_aload_n (pc := 88) dX3_init_88 rfl ?_
  refine n_iconst (v := 0) (pc := 89) dX3_init_89 (by decide) ?_
  refine n_put0 (n := 117) (pc := 90) (ci := 3) dX3_init_90 fl_X3_63 rfl rfl (by decide) (by decide) ⟨rfl, rfl⟩ (uiz (a := 59) (k := 4) (v := -1) (by decide) (hz 14)) ?_
  refine n_aload_n (pc := 93) dX3_init_93 rfl ?_
  refine n_iconst (v := 0) (pc := 94) dX3_init_94 (by decide) ?_
  refine n_put0 (n := 117) (pc := 95) (ci := 3) dX3_init_95 fl_X3_66 rfl rfl (by decide) (by decide) ⟨rfl, rfl⟩ (uiz (a := 59) (k := 4) (v := -1) (by decide) (hz 15)) ?_
  refine n_aload_n (pc := 98) dX3_init_98 rfl ?_
  refine n_iconst (v := 0) (pc := 99) dX3_init_99 (by decide) ?_
  refine n_put0 (n := 117) (pc := 100) (ci := 3) dX3_init_100 fl_X3_69 rfl rfl (by decide) (by decide) ⟨rfl, rfl⟩ (uiz (a := 59) (k := 4) (v := -1) (by decide) (hz 16)) ?_
  refine n_aload_n (pc := 103) dX3_init_103 rfl ?_
  refine n_iconst (v := 0) (pc := 104) dX3_init_104 (by decide) ?_
  refine n_put0 (n := 117) (pc := 105) (ci := 3) dX3_init_105 fl_X3_72 rfl rfl (by decide) (by decide) ⟨rfl, rfl⟩ (uiz (a := 59) (k := 4) (v := -1) (by decide) (hz 17)) ?_
  exact n_ret (pc := 108) rfl rfl dX3_init_108 rfl
theorem rdC_ok {x : Cn} (ok : Okx 60 x) : Okx 117 (rdC x) := by
  have ok_1 := seaP_ok (q := 60) (i := 24) (j := 24) (n := 114) (ok.up (m := 61) (by decide)) (by decide) (Or.inr (by decide))
  have ok_2 := (ok_1.up (m := 114) (by decide)).ur (a := 59) (b := 60) (by decide) 0 (by decide)
  have ok_3 := (ok_2.up (m := 116) (by decide)).ur (a := 114) (b := 115) (by decide) 1 (by decide)
  have ok_4 := (ok_3.up (m := 116) (by decide)).ur (a := 59) (b := 114) (by decide) 1 (by decide)
  have ok_5 := ok_4.ui (a := 59) (by decide) 4 (-1)
  have ok_6 := (ok_5.up (m := 117) (by decide)).ur (a := 59) (b := 116) (by decide) 5 (by decide)
  exact ok_6
def clC (x : Cn) : Cn := (ur (seaP 663 24 24 (ur (seaP 609 24 24 (ur (seaP 555 24 24 (ur (seaP 501 24 24 (ur (seaP 447 24 24 (ur (seaP 393 24 24 (ur (seaP 339 24 24 (ur (seaP 285 24 24 (ur (seaP 231 24 24 (ur (seaP 177 24 24 (ur (ur (ur (plC (ui (ur (rdC (ur (ur (ur (ur (seaP 2 24 24 (ur x 0 0 (some 1))) 0 2 (some 2)) 56 1 (some 57)) 0 3 (some 56)) 0 4 (some 58))) 0 6 (some 59)) 0 8 (-1))) 0 9 (some 117)) 175 0 (some 176)) 0 10 (some 175))) 58 0 (some 177))) 58 1 (some 231))) 58 2 (some 285))) 58 3 (some 339))) 58 4 (some 393))) 58 5 (some 447))) 58 6 (some 501))) 58 7 (some 555))) 58 8 (some 609))) 58 9 (some 663))
theorem ct_X7 {x : Cn} (ok : Okx 1 x) (hz : ∀ k, x.1 0 k = 0) : mSpN mX7_init [.ref 0] (hp (1, kwf) x) 716 11470 (fun h' => h' = hp (717, kwf) (clC x)) := by
  refine n_of (by decide) (by simp [Value.category]) (Nat.le_of_ble_eq_true rfl) rfl ?_
  show GN mX7_init 716 11470 1 _ (0, 0) 0 [some (.ref 0), none] [] _
  refine n_aload_n (pc := 0) dX7_init_0 rfl ?_
  refine n_objInit (pc := 1) dX7_init_1 lk_X7_1 oi_i oi_c ⟨by decide, by decide⟩ (Nat.le_of_ble_eq_true rfl) ?_
  refine n_aload_n (pc := 4) dX7_init_4 rfl ?_
  refine n_sipush (v := 1200) (pc := 5) dX7_init_5 (by decide) ?_
  refine n_newa (n := 1) (N := 1200) (kn := 21) (c' := (1, 1200)) (pc := 8) dX7_init_8 (Or.inr ⟨rfl, rfl⟩) ac_b rfl (by decide) ok (by decide) (by intro b9 h9; simp at h9; first | (subst h9; show @LT.lt Nat _ _ _; omega) | (rcases h9 with h9 | h9 <;> (subst h9; show @LT.lt Nat _ _ _; omega)) | (rcases h9 with h9 | h9 | h9 <;> (subst h9; show @LT.lt Nat _ _ _; omega))) (by intro b9 h9; simp at h9; first | (subst h9; show @LT.lt Nat _ _ _; omega) | (rcases h9 with h9 | h9 <;> (subst h9; show @LT.lt Nat _ _ _; omega)) | (rcases h9 with h9 | h9 | h9 <;> (subst h9; show @LT.lt Nat _ _ _; omega))) (by decide) rfl (Nat.le_of_ble_eq_true rfl) (Nat.le_of_ble_eq_true rfl) (by decide) ?_
  refine n_putRF (n := 2) (b := 1) (pc := 10) (ci := 7) dX7_init_10 fl_X7_9 rfl rfl rfl rfl (by decide) (by decide) ?_
  have ok_1 := (ok.up (m := 2) (by decide)).ur (a := 0) (b := 1) (by decide) 0 (by decide)
  refine n_aload_n (pc := 13) dX7_init_13 rfl ?_
  refine n_iconst (v := 0) (pc := 14) dX7_init_14 (by decide) ?_
  refine n_put0 (n := 2) (pc := 15) (ci := 7) dX7_init_15 fl_X7_13 rfl rfl (by decide) (by decide) ⟨rfl, rfl⟩ (hz 1) ?_
  refine n_aload_n (pc := 18) dX7_init_18 rfl ?_
  refine n_new (n := 2) (pc := 19) (ci := 4) (c' := (2, 1210)) dX7_init_19 kl_X7_17 it_4 iz_4 (by decide) ok_1 (by decide) (by intro b9 h9; simp at h9; first | (subst h9; show @LT.lt Nat _ _ _; omega) | (rcases h9 with h9 | h9 <;> (subst h9; show @LT.lt Nat _ _ _; omega)) | (rcases h9 with h9 | h9 | h9 <;> (subst h9; show @LT.lt Nat _ _ _; omega))) (by intro b9 h9; simp at h9; first | (subst h9; show @LT.lt Nat _ _ _; omega) | (rcases h9 with h9 | h9 <;> (subst h9; show @LT.lt Nat _ _ _; omega)) | (rcases h9 with h9 | h9 | h9 <;> (subst h9; show @LT.lt Nat _ _ _; omega))) (by decide) rfl (Nat.le_of_ble_eq_true rfl) (Nat.le_of_ble_eq_true rfl) (by decide) ?_
  refine n_dup (pc := 22) dX7_init_22 rfl ?_
  refine n_callI mX4_init (n := 3) (n' := 56) (pc := 23) (m1 := 53) (s1 := 577) (c' := (55, 1787)) dX7_init_23 (Or.inl lk_X7_19) ii_X4_init mo_X4_init rfl rfl ⟨by decide, by decide⟩ (Nat.le_of_ble_eq_true rfl) (by intro b9 h9; simp at h9; first | (subst h9; show @LT.lt Nat _ _ _; omega) | (rcases h9 with h9 | h9 <;> (subst h9; show @LT.lt Nat _ _ _; omega)) | (rcases h9 with h9 | h9 | h9 <;> (subst h9; show @LT.lt Nat _ _ _; omega))) (by intro b9 h9; simp at h9; first | (subst h9; show @LT.lt Nat _ _ _; omega) | (rcases h9 with h9 | h9 <;> (subst h9; show @LT.lt Nat _ _ _; omega)) | (rcases h9 with h9 | h9 | h9 <;> (subst h9; show @LT.lt Nat _ _ _; omega))) (by decide) rfl (Nat.le_of_ble_eq_true rfl) (Nat.le_of_ble_eq_true rfl) (ct_X4 (q := 2) (by decide) (ksK (Or.inl rfl)) (ok_1.up (m := 3) (by decide)) (fun k => (ok_1.1 _ k (by decide)).1)) ?_
  have ok_2 := seaP_ok (q := 2) (i := 24) (j := 24) (n := 56) (ok_1.up (m := 3) (by decide)) (by decide) (Or.inr (by decide))
  refine n_putRF (n := 56) (b := 2) (pc := 26) (ci := 7) dX7_init_26 fl_X7_20 rfl rfl rfl rfl (by decide) (by decide) ?_
  have ok_3 := (ok_2.up (m := 56) (by decide)).ur (a := 0) (b := 2) (by decide) 2 (by decide)
  refine n_aload_n (pc := 29) dX7_init_29 rfl ?_
  refine n_new (n := 56) (pc := 30) (ci := 1) (c' := (56, 1789)) dX7_init_30 kl_X7_24 it_1 iz_1 (by decide) ok_3 (by decide) (by intro b9 h9; simp at h9; first | (subst h9; show @LT.lt Nat _ _ _; omega) | (rcases h9 with h9 | h9 <;> (subst h9; show @LT.lt Nat _ _ _; omega)) | (rcases h9 with h9 | h9 | h9 <;> (subst h9; show @LT.lt Nat _ _ _; omega))) (by intro b9 h9; simp at h9; first | (subst h9; show @LT.lt Nat _ _ _; omega) | (rcases h9 with h9 | h9 <;> (subst h9; show @LT.lt Nat _ _ _; omega)) | (rcases h9 with h9 | h9 | h9 <;> (subst h9; show @LT.lt Nat _ _ _; omega))) (by decide) rfl (Nat.le_of_ble_eq_true rfl) (Nat.le_of_ble_eq_true rfl) (by decide) ?_
  refine n_dup (pc := 33) dX7_init_33 rfl ?_
  refine n_callI mX1_init (n := 57) (n' := 58) (pc := 34) (m1 := 1) (s1 := 48) (c' := (57, 1837)) dX7_init_34 (Or.inr ⟨_, nl_X7_26⟩) ii_X1_init mo_X1_init rfl rfl ⟨by decide, by decide⟩ (Nat.le_of_ble_eq_true rfl) (by intro b9 h9; simp at h9; first | (subst h9; show @LT.lt Nat _ _ _; omega) | (rcases h9 with h9 | h9 <;> (subst h9; show @LT.lt Nat _ _ _; omega)) | (rcases h9 with h9 | h9 | h9 <;> (subst h9; show @LT.lt Nat _ _ _; omega))) (by intro b9 h9; simp at h9; first | (subst h9; show @LT.lt Nat _ _ _; omega) | (rcases h9 with h9 | h9 <;> (subst h9; show @LT.lt Nat _ _ _; omega)) | (rcases h9 with h9 | h9 | h9 <;> (subst h9; show @LT.lt Nat _ _ _; omega))) (by decide) rfl (Nat.le_of_ble_eq_true rfl) (Nat.le_of_ble_eq_true rfl) (ct_X1 (b := 56) (n := 57) (by decide) (by decide) (by decide) (by decide) (ok_3.up (m := 57) (by decide)) (fun k => (ok_3.1 _ k (by decide)).1)) ?_
  have ok_4 := (ok_3.up (m := 58) (by decide)).ur (a := 56) (b := 57) (by decide) 1 (by decide)
  refine n_putRF (n := 58) (b := 56) (pc := 37) (ci := 7) dX7_init_37 fl_X7_27 rfl rfl rfl rfl (by decide) (by decide) ?_
  have ok_5 := (ok_4.up (m := 58) (by decide)).ur (a := 0) (b := 56) (by decide) 3 (by decide)
  refine n_aload_n (pc := 40) dX7_init_40 rfl ?_
  refine n_bipush (v := 10) (pc := 41) dX7_init_41 (by decide) ?_
  refine n_anew (n := 58) (N := 10) (kn := 22) (c' := (58, 1847)) (pc := 43) dX7_init_43 kl_X7_17 (Or.inl ⟨rfl, rfl⟩) rfl (by decide) ok_5 (by decide) (by intro b9 h9; simp at h9; first | (subst h9; show @LT.lt Nat _ _ _; omega) | (rcases h9 with h9 | h9 <;> (subst h9; show @LT.lt Nat _ _ _; omega)) | (rcases h9 with h9 | h9 | h9 <;> (subst h9; show @LT.lt Nat _ _ _; omega))) (by intro b9 h9; simp at h9; first | (subst h9; show @LT.lt Nat _ _ _; omega) | (rcases h9 with h9 | h9 <;> (subst h9; show @LT.lt Nat _ _ _; omega)) | (rcases h9 with h9 | h9 | h9 <;> (subst h9; show @LT.lt Nat _ _ _; omega))) (by decide) rfl (Nat.le_of_ble_eq_true rfl) (Nat.le_of_ble_eq_true rfl) (by decide) ?_
  refine n_putRF (n := 59) (b := 58) (pc := 46) (ci := 7) dX7_init_46 fl_X7_31 rfl rfl rfl rfl (by decide) (by decide) ?_
  have ok_6 := (ok_5.up (m := 59) (by decide)).ur (a := 0) (b := 58) (by decide) 4 (by decide)
  refine n_aload_n (pc := 49) dX7_init_49 rfl ?_
  refine n_iconst (v := 0) (pc := 50) dX7_init_50 (by decide) ?_
  refine n_put0 (n := 59) (pc := 51) (ci := 7) dX7_init_51 fl_X7_35 rfl rfl (by decide) (by decide) ⟨rfl, rfl⟩ (hz 5) ?_
  refine n_aload_n (pc := 54) dX7_init_54 rfl ?_
  refine n_new (n := 59) (pc := 55) (ci := 3) (c' := (59, 1865)) dX7_init_55 kl_X7_38 it_3 iz_3 (by decide) ok_6 (by decide) (by intro b9 h9; simp at h9; first | (subst h9; show @LT.lt Nat _ _ _; omega) | (rcases h9 with h9 | h9 <;> (subst h9; show @LT.lt Nat _ _ _; omega)) | (rcases h9 with h9 | h9 | h9 <;> (subst h9; show @LT.lt Nat _ _ _; omega))) (by intro b9 h9; simp at h9; first | (subst h9; show @LT.lt Nat _ _ _; omega) | (rcases h9 with h9 | h9 <;> (subst h9; show @LT.lt Nat _ _ _; omega)) | (rcases h9 with h9 | h9 | h9 <;> (subst h9; show @LT.lt Nat _ _ _; omega))) (by decide) rfl (Nat.le_of_ble_eq_true rfl) (Nat.le_of_ble_eq_true rfl) (by decide) ?_
  refine n_dup (pc := 58) dX7_init_58 rfl ?_
  refine n_callI mX3_init (n := 60) (n' := 117) (pc := 59) (m1 := 57) (s1 := 637) (c' := (116, 2502)) dX7_init_59 (Or.inr ⟨_, nl_X7_40⟩) ii_X3_init mo_X3_init rfl rfl ⟨by decide, by decide⟩ (Nat.le_of_ble_eq_true rfl) (by intro b9 h9; simp at h9; first | (subst h9; show @LT.lt Nat _ _ _; omega) | (rcases h9 with h9 | h9 <;> (subst h9; show @LT.lt Nat _ _ _; omega)) | (rcases h9 with h9 | h9 | h9 <;> (subst h9; show @LT.lt Nat _ _ _; omega))) (by intro b9 h9; simp at h9; first | (subst h9; show @LT.lt Nat _ _ _; omega) | (rcases h9 with h9 | h9 <;> (subst h9; show @LT.lt Nat _ _ _; omega)) | (rcases h9 with h9 | h9 | h9 <;> (subst h9; show @LT.lt Nat _ _ _; omega))) (by decide) rfl (Nat.le_of_ble_eq_true rfl) (Nat.le_of_ble_eq_true rfl) (ct_X3 (ok_6.up (m := 60) (by decide)) (fun k => (ok_6.1 _ k (by decide)).1)) ?_
  have ok_7 := rdC_ok (ok_6.up (m := 60) (by decide))
  refine n_putRF (n := 117) (b := 59) (pc := 62) (ci := 7) dX7_init_62 fl_X7_41 rfl rfl rfl rfl (by decide) (by decide) ?_
  have ok_8 := (ok_7.up (m := 117) (by decide)).ur (a := 0) (b := 59) (by decide) 6 (by decide)
  refine n_aload_n (pc := 65) dX7_init_65 rfl ?_
  refine n_iconst (v := 0) (pc := 66) dX7_init_66 (by decide) ?_
  refine n_put0 (n := 117) (pc := 67) (ci := 7) dX7_init_67 fl_X7_45 rfl rfl (by decide) (by decide) ⟨rfl, rfl⟩ (uiz (a := 59) (k := 4) (v := -1) (by decide) (hz 7)) ?_
  refine n_aload_n (pc := 70) dX7_init_70 rfl ?_
  refine n_iconst (v := (-1)) (pc := 71) dX7_init_71 (by decide) ?_
  refine n_putI (n := 117) (pc := 72) (ci := 7) dX7_init_72 fl_X7_48 rfl rfl (by decide) (by decide) ⟨rfl, rfl⟩ ?_
  have ok_9 := ok_8.ui (a := 0) (by decide) 8 (-1)
  refine n_aload_n (pc := 75) dX7_init_75 rfl ?_
  refine n_new (n := 117) (pc := 76) (ci := 2) (c' := (117, 2507)) dX7_init_76 kl_X7_51 it_2 iz_2 (by decide) ok_9 (by decide) (by intro b9 h9; simp at h9; first | (subst h9; show @LT.lt Nat _ _ _; omega) | (rcases h9 with h9 | h9 <;> (subst h9; show @LT.lt Nat _ _ _; omega)) | (rcases h9 with h9 | h9 | h9 <;> (subst h9; show @LT.lt Nat _ _ _; omega))) (by intro b9 h9; simp at h9; first | (subst h9; show @LT.lt Nat _ _ _; omega) | (rcases h9 with h9 | h9 <;> (subst h9; show @LT.lt Nat _ _ _; omega)) | (rcases h9 with h9 | h9 | h9 <;> (subst h9; show @LT.lt Nat _ _ _; omega))) (by decide) rfl (Nat.le_of_ble_eq_true rfl) (Nat.le_of_ble_eq_true rfl) (by decide) ?_
  refine n_dup (pc := 79) dX7_init_79 rfl ?_
  refine n_callI mX2_init (n := 118) (n' := 175) (pc := 80) (m1 := 57) (s1 := 691) (c' := (174, 3198)) dX7_init_80 (Or.inr ⟨_, nl_X7_53⟩) ii_X2_init mo_X2_init rfl rfl ⟨by decide, by decide⟩ (Nat.le_of_ble_eq_true rfl) (by intro b9 h9; simp at h9; first | (subst h9; show @LT.lt Nat _ _ _; omega) | (rcases h9 with h9 | h9 <;> (subst h9; show @LT.lt Nat _ _ _; omega)) | (rcases h9 with h9 | h9 | h9 <;> (subst h9; show @LT.lt Nat _ _ _; omega))) (by intro b9 h9; simp at h9; first | (subst h9; show @LT.lt Nat _ _ _; omega) | (rcases h9 with h9 | h9 <;> (subst h9; show @LT.lt Nat _ _ _; omega)) | (rcases h9 with h9 | h9 | h9 <;> (subst h9; show @LT.lt Nat _ _ _; omega))) (by decide) rfl (Nat.le_of_ble_eq_true rfl) (Nat.le_of_ble_eq_true rfl) (ct_X2 (ok_9.up (m := 118) (by decide)) (fun k => (ok_9.1 _ k (by decide)).1)) ?_
  have ok_10 := plC_ok (ok_9.up (m := 118) (by decide))
  refine n_putRF (n := 175) (b := 117) (pc := 83) (ci := 7) dX7_init_83 fl_X7_54 rfl rfl rfl rfl (by decide) (by decide) ?_
  have ok_11 := (ok_10.up (m := 175) (by decide)).ur (a := 0) (b := 117) (by decide) 9 (by decide)
  refine n_aload_n (pc := 86) dX7_init_86 rfl ?_
  refine n_new (n := 175) (pc := 87) (ci := 6) (c' := (175, 3200)) dX7_init_87 kl_X7_58 it_6 iz_6 (by decide) ok_11 (by decide) (by intro b9 h9; simp at h9; first | (subst h9; show @LT.lt Nat _ _ _; omega) | (rcases h9 with h9 | h9 <;> (subst h9; show @LT.lt Nat _ _ _; omega)) | (rcases h9 with h9 | h9 | h9 <;> (subst h9; show @LT.lt Nat _ _ _; omega))) (by intro b9 h9; simp at h9; first | (subst h9; show @LT.lt Nat _ _ _; omega) | (rcases h9 with h9 | h9 <;> (subst h9; show @LT.lt Nat _ _ _; omega)) | (rcases h9 with h9 | h9 | h9 <;> (subst h9; show @LT.lt Nat _ _ _; omega))) (by decide) rfl (Nat.le_of_ble_eq_true rfl) (Nat.le_of_ble_eq_true rfl) (by decide) ?_
  refine n_dup (pc := 90) dX7_init_90 rfl ?_
  refine n_callI mX6_init (n := 176) (n' := 177) (pc := 91) (m1 := 1) (s1 := 2400) (c' := (176, 5600)) dX7_init_91 (Or.inr ⟨_, nl_X7_60⟩) ii_X6_init mo_X6_init rfl rfl ⟨by decide, by decide⟩ (Nat.le_of_ble_eq_true rfl) (by intro b9 h9; simp at h9; first | (subst h9; show @LT.lt Nat _ _ _; omega) | (rcases h9 with h9 | h9 <;> (subst h9; show @LT.lt Nat _ _ _; omega)) | (rcases h9 with h9 | h9 | h9 <;> (subst h9; show @LT.lt Nat _ _ _; omega))) (by intro b9 h9; simp at h9; first | (subst h9; show @LT.lt Nat _ _ _; omega) | (rcases h9 with h9 | h9 <;> (subst h9; show @LT.lt Nat _ _ _; omega)) | (rcases h9 with h9 | h9 | h9 <;> (subst h9; show @LT.lt Nat _ _ _; omega))) (by decide) rfl (Nat.le_of_ble_eq_true rfl) (Nat.le_of_ble_eq_true rfl) (ct_X6 (b := 175) (n := 176) (by decide) (by decide) (by decide) (by decide) (ok_11.up (m := 176) (by decide)) (fun k => (ok_11.1 _ k (by decide)).1)) ?_
  have ok_12 := (ok_11.up (m := 177) (by decide)).ur (a := 175) (b := 176) (by decide) 0 (by decide)
  refine n_putRF (n := 177) (b := 175) (pc := 94) (ci := 7) dX7_init_94 fl_X7_61 rfl rfl rfl rfl (by decide) (by decide) ?_
  have ok_13 := (ok_12.up (m := 177) (by decide)).ur (a := 0) (b := 175) (by decide) 10 (by decide)
  refine n_iconst (v := 0) (pc := 97) dX7_init_97 (by decide) ?_
  refine n_istore_n (pc := 98) dX7_init_98 (by decide) ?_
  refine n_iload_n (pc := 99) dX7_init_99 rfl ?_
  refine n_bipush (v := 10) (pc := 100) dX7_init_100 (by decide) ?_
  refine n_icmp_ge (pc := 102) (tgt := 124) dX7_init_102 (by decide) (fun z => absurd z (by decide)) (fun _ => ?_)
  refine n_aload_n (pc := 105) dX7_init_105 rfl ?_
  refine n_getR (n := 177) (b := 58) (pc := 106) (ci := 7) dX7_init_106 fl_X7_31 rfl (by decide) (by decide) (by rfl) ?_
  refine n_iload_n (pc := 109) dX7_init_109 rfl ?_
  refine n_new (n := 177) (pc := 110) (ci := 4) (c' := (177, 5610)) dX7_init_110 kl_X7_17 it_4 iz_4 (by decide) ok_13 (by decide) (by intro b9 h9; simp at h9; first | (subst h9; show @LT.lt Nat _ _ _; omega) | (rcases h9 with h9 | h9 <;> (subst h9; show @LT.lt Nat _ _ _; omega)) | (rcases h9 with h9 | h9 | h9 <;> (subst h9; show @LT.lt Nat _ _ _; omega))) (by intro b9 h9; simp at h9; first | (subst h9; show @LT.lt Nat _ _ _; omega) | (rcases h9 with h9 | h9 <;> (subst h9; show @LT.lt Nat _ _ _; omega)) | (rcases h9 with h9 | h9 | h9 <;> (subst h9; show @LT.lt Nat _ _ _; omega))) (by decide) rfl (Nat.le_of_ble_eq_true rfl) (Nat.le_of_ble_eq_true rfl) (by decide) ?_
  refine n_dup (pc := 113) dX7_init_113 rfl ?_
  refine n_callI mX4_init (n := 178) (n' := 231) (pc := 114) (m1 := 53) (s1 := 577) (c' := (230, 6187)) dX7_init_114 (Or.inl lk_X7_19) ii_X4_init mo_X4_init rfl rfl ⟨by decide, by decide⟩ (Nat.le_of_ble_eq_true rfl) (by intro b9 h9; simp at h9; first | (subst h9; show @LT.lt Nat _ _ _; omega) | (rcases h9 with h9 | h9 <;> (subst h9; show @LT.lt Nat _ _ _; omega)) | (rcases h9 with h9 | h9 | h9 <;> (subst h9; show @LT.lt Nat _ _ _; omega))) (by intro b9 h9; simp at h9; first | (subst h9; show @LT.lt Nat _ _ _; omega) | (rcases h9 with h9 | h9 <;> (subst h9; show @LT.lt Nat _ _ _; omega)) | (rcases h9 with h9 | h9 | h9 <;> (subst h9; show @LT.lt Nat _ _ _; omega))) (by decide) rfl (Nat.le_of_ble_eq_true rfl) (Nat.le_of_ble_eq_true rfl) (ct_X4 (q := 177) (by decide) (ksK (Or.inr (Or.inr (Or.inr ⟨0, by decide, rfl⟩)))) (ok_13.up (m := 178) (by decide)) (fun k => (ok_13.1 _ k (by decide)).1)) ?_
  have ok_14 := seaP_ok (q := 177) (i := 24) (j := 24) (n := 231) (ok_13.up (m := 178) (by decide)) (by decide) (Or.inr (by decide))
  refine n_aast (n := 231) (pc := 117) (ci := 22) (N := 10) (cj := 4) (nb := 0) (j := 0) dX7_init_117 (by decide) (by decide) (by decide) (by decide) rfl (by decide) (by decide) (iv0 0 10 (by decide) (by decide) (by decide)) (by decide) ?_
  have ok_15 := (ok_14.up (m := 231) (by decide)).ur (a := 58) (b := 177) (by decide) 0 (by decide)
  refine n_iinc (pc := 118) (w := 1) dX7_init_118 rfl (by decide) (by decide) ?_
  refine n_goto (pc := 121) (tgt := 99) dX7_init_121 (by decide) ?_
  refine n_iload_n (pc := 99) dX7_init_99 rfl ?_
  refine n_bipush (v := 10) (pc := 100) dX7_init_100 (by decide) ?_
  refine n_icmp_ge (pc := 102) (tgt := 124) dX7_init_102 (by decide) (fun z => absurd z (by decide)) (fun _ => ?_)
  refine n_aload_n (pc := 105) dX7_init_105 rfl ?_
  refine n_getR (n := 231) (b := 58) (pc := 106) (ci := 7) dX7_init_106 fl_X7_31 rfl (by decide) (by decide) (by rfl) ?_
  refine n_iload_n (pc := 109) dX7_init_109 rfl ?_
  refine n_new (n := 231) (pc := 110) (ci := 4) (c' := (231, 6197)) dX7_init_110 kl_X7_17 it_4 iz_4 (by decide) ok_15 (by decide) (by intro b9 h9; simp at h9; first | (subst h9; show @LT.lt Nat _ _ _; omega) | (rcases h9 with h9 | h9 <;> (subst h9; show @LT.lt Nat _ _ _; omega)) | (rcases h9 with h9 | h9 | h9 <;> (subst h9; show @LT.lt Nat _ _ _; omega))) (by intro b9 h9; simp at h9; first | (subst h9; show @LT.lt Nat _ _ _; omega) | (rcases h9 with h9 | h9 <;> (subst h9; show @LT.lt Nat _ _ _; omega)) | (rcases h9 with h9 | h9 | h9 <;> (subst h9; show @LT.lt Nat _ _ _; omega))) (by decide) rfl (Nat.le_of_ble_eq_true rfl) (Nat.le_of_ble_eq_true rfl) (by decide) ?_
  refine n_dup (pc := 113) dX7_init_113 rfl ?_
  refine n_callI mX4_init (n := 232) (n' := 285) (pc := 114) (m1 := 53) (s1 := 577) (c' := (284, 6774)) dX7_init_114 (Or.inl lk_X7_19) ii_X4_init mo_X4_init rfl rfl ⟨by decide, by decide⟩ (Nat.le_of_ble_eq_true rfl) (by intro b9 h9; simp at h9; first | (subst h9; show @LT.lt Nat _ _ _; omega) | (rcases h9 with h9 | h9 <;> (subst h9; show @LT.lt Nat _ _ _; omega)) | (rcases h9 with h9 | h9 | h9 <;> (subst h9; show @LT.lt Nat _ _ _; omega))) (by intro b9 h9; simp at h9; first | (subst h9; show @LT.lt Nat _ _ _; omega) | (rcases h9 with h9 | h9 <;> (subst h9; show @LT.lt Nat _ _ _; omega)) | (rcases h9 with h9 | h9 | h9 <;> (subst h9; show @LT.lt Nat _ _ _; omega))) (by decide) rfl (Nat.le_of_ble_eq_true rfl) (Nat.le_of_ble_eq_true rfl) (ct_X4 (q := 231) (by decide) (ksK (Or.inr (Or.inr (Or.inr ⟨1, by decide, rfl⟩)))) (ok_15.up (m := 232) (by decide)) (fun k => (ok_15.1 _ k (by decide)).1)) ?_
  have ok_16 := seaP_ok (q := 231) (i := 24) (j := 24) (n := 285) (ok_15.up (m := 232) (by decide)) (by decide) (Or.inr (by decide))
  refine n_aast (n := 285) (pc := 117) (ci := 22) (N := 10) (cj := 4) (nb := 0) (j := 1) dX7_init_117 (by decide) (by decide) (by decide) (by decide) rfl (by decide) (by decide) (iv0 1 10 (by decide) (by decide) (by decide)) (by decide) ?_
  have ok_17 := (ok_16.up (m := 285) (by decide)).ur (a := 58) (b := 231) (by decide) 1 (by decide)
  refine n_iinc (pc := 118) (w := 2) dX7_init_118 rfl (by decide) (by decide) ?_
  refine n_goto (pc := 121) (tgt := 99) dX7_init_121 (by decide) ?_
  refine n_iload_n (pc := 99) dX7_init_99 rfl ?_
  refine n_bipush (v := 10) (pc := 100) dX7_init_100 (by decide) ?_
  refine n_icmp_ge (pc := 102) (tgt := 124) dX7_init_102 (by decide) (fun z => absurd z (by decide)) (fun _ => ?_)
  refine n_aload_n (pc := 105) dX7_init_105 rfl ?_
  refine n_getR (n := 285) (b := 58) (pc := 106) (ci := 7) dX7_init_106 fl_X7_31 rfl (by decide) (by decide) (by rfl) ?_
  refine n_iload_n (pc := 109) dX7_init_109 rfl ?_
  refine n_new (n := 285) (pc := 110) (ci := 4) (c' := (285, 6784)) dX7_init_110 kl_X7_17 it_4 iz_4 (by decide) ok_17 (by decide) (by intro b9 h9; simp at h9; first | (subst h9; show @LT.lt Nat _ _ _; omega) | (rcases h9 with h9 | h9 <;> (subst h9; show @LT.lt Nat _ _ _; omega)) | (rcases h9 with h9 | h9 | h9 <;> (subst h9; show @LT.lt Nat _ _ _; omega))) (by intro b9 h9; simp at h9; first | (subst h9; show @LT.lt Nat _ _ _; omega) | (rcases h9 with h9 | h9 <;> (subst h9; show @LT.lt Nat _ _ _; omega)) | (rcases h9 with h9 | h9 | h9 <;> (subst h9; show @LT.lt Nat _ _ _; omega))) (by decide) rfl (Nat.le_of_ble_eq_true rfl) (Nat.le_of_ble_eq_true rfl) (by decide) ?_
  refine n_dup (pc := 113) dX7_init_113 rfl ?_
  refine n_callI mX4_init (n := 286) (n' := 339) (pc := 114) (m1 := 53) (s1 := 577) (c' := (338, 7361)) dX7_init_114 (Or.inl lk_X7_19) ii_X4_init mo_X4_init rfl rfl ⟨by decide, by decide⟩ (Nat.le_of_ble_eq_true rfl) (by intro b9 h9; simp at h9; first | (subst h9; show @LT.lt Nat _ _ _; omega) | (rcases h9 with h9 | h9 <;> (subst h9; show @LT.lt Nat _ _ _; omega)) | (rcases h9 with h9 | h9 | h9 <;> (subst h9; show @LT.lt Nat _ _ _; omega))) (by intro b9 h9; simp at h9; first | (subst h9; show @LT.lt Nat _ _ _; omega) | (rcases h9 with h9 | h9 <;> (subst h9; show @LT.lt Nat _ _ _; omega)) | (rcases h9 with h9 | h9 | h9 <;> (subst h9; show @LT.lt Nat _ _ _; omega))) (by decide) rfl (Nat.le_of_ble_eq_true rfl) (Nat.le_of_ble_eq_true rfl) (ct_X4 (q := 285) (by decide) (ksK (Or.inr (Or.inr (Or.inr ⟨2, by decide, rfl⟩)))) (ok_17.up (m := 286) (by decide)) (fun k => (ok_17.1 _ k (by decide)).1)) ?_
  have ok_18 := seaP_ok (q := 285) (i := 24) (j := 24) (n := 339) (ok_17.up (m := 286) (by decide)) (by decide) (Or.inr (by decide))
  refine n_aast (n := 339) (pc := 117) (ci := 22) (N := 10) (cj := 4) (nb := 0) (j := 2) dX7_init_117 (by decide) (by decide) (by decide) (by decide) rfl (by decide) (by decide) (iv0 2 10 (by decide) (by decide) (by decide)) (by decide) ?_
  have ok_19 := (ok_18.up (m := 339) (by decide)).ur (a := 58) (b := 285) (by decide) 2 (by decide)
  refine n_iinc (pc := 118) (w := 3) dX7_init_118 rfl (by decide) (by decide) ?_
  refine n_goto (pc := 121) (tgt := 99) dX7_init_121 (by decide) ?_
  refine n_iload_n (pc := 99) dX7_init_99 rfl ?_
  refine n_bipush (v := 10) (pc := 100) dX7_init_100 (by decide) ?_
  refine n_icmp_ge (pc := 102) (tgt := 124) dX7_init_102 (by decide) (fun z => absurd z (by decide)) (fun _ => ?_)
  refine n_aload_n (pc := 105) dX7_init_105 rfl ?_
  refine n_getR (n := 339) (b := 58) (pc := 106) (ci := 7) dX7_init_106 fl_X7_31 rfl (by decide) (by decide) (by rfl) ?_
  refine n_iload_n (pc := 109) dX7_init_109 rfl ?_
  refine n_new (n := 339) (pc := 110) (ci := 4) (c' := (339, 7371)) dX7_init_110 kl_X7_17 it_4 iz_4 (by decide) ok_19 (by decide) (by intro b9 h9; simp at h9; first | (subst h9; show @LT.lt Nat _ _ _; omega) | (rcases h9 with h9 | h9 <;> (subst h9; show @LT.lt Nat _ _ _; omega)) | (rcases h9 with h9 | h9 | h9 <;> (subst h9; show @LT.lt Nat _ _ _; omega))) (by intro b9 h9; simp at h9; first | (subst h9; show @LT.lt Nat _ _ _; omega) | (rcases h9 with h9 | h9 <;> (subst h9; show @LT.lt Nat _ _ _; omega)) | (rcases h9 with h9 | h9 | h9 <;> (subst h9; show @LT.lt Nat _ _ _; omega))) (by decide) rfl (Nat.le_of_ble_eq_true rfl) (Nat.le_of_ble_eq_true rfl) (by decide) ?_
  refine n_dup (pc := 113) dX7_init_113 rfl ?_
  refine n_callI mX4_init (n := 340) (n' := 393) (pc := 114) (m1 := 53) (s1 := 577) (c' := (392, 7948)) dX7_init_114 (Or.inl lk_X7_19) ii_X4_init mo_X4_init rfl rfl ⟨by decide, by decide⟩ (Nat.le_of_ble_eq_true rfl) (by intro b9 h9; simp at h9; first | (subst h9; show @LT.lt Nat _ _ _; omega) | (rcases h9 with h9 | h9 <;> (subst h9; show @LT.lt Nat _ _ _; omega)) | (rcases h9 with h9 | h9 | h9 <;> (subst h9; show @LT.lt Nat _ _ _; omega))) (by intro b9 h9; simp at h9; first | (subst h9; show @LT.lt Nat _ _ _; omega) | (rcases h9 with h9 | h9 <;> (subst h9; show @LT.lt Nat _ _ _; omega)) | (rcases h9 with h9 | h9 | h9 <;> (subst h9; show @LT.lt Nat _ _ _; omega))) (by decide) rfl (Nat.le_of_ble_eq_true rfl) (Nat.le_of_ble_eq_true rfl) (ct_X4 (q := 339) (by decide) (ksK (Or.inr (Or.inr (Or.inr ⟨3, by decide, rfl⟩)))) (ok_19.up (m := 340) (by decide)) (fun k => (ok_19.1 _ k (by decide)).1)) ?_
  have ok_20 := seaP_ok (q := 339) (i := 24) (j := 24) (n := 393) (ok_19.up (m := 340) (by decide)) (by decide) (Or.inr (by decide))
  refine n_aast (n := 393) (pc := 117) (ci := 22) (N := 10) (cj := 4) (nb := 0) (j := 3) dX7_init_117 (by decide) (by decide) (by decide) (by decide) rfl (by decide) (by decide) (iv0 3 10 (by decide) (by decide) (by decide)) (by decide) ?_
  have ok_21 := (ok_20.up (m := 393) (by decide)).ur (a := 58) (b := 339) (by decide) 3 (by decide)
  refine n_iinc (pc := 118) (w := 4) dX7_init_118 rfl (by decide) (by decide) ?_
  refine n_goto (pc := 121) (tgt := 99) dX7_init_121 (by decide) ?_
  refine n_iload_n (pc := 99) dX7_init_99 rfl ?_
  refine n_bipush (v := 10) (pc := 100) dX7_init_100 (by decide) ?_
  refine n_icmp_ge (pc := 102) (tgt := 124) dX7_init_102 (by decide) (fun z => absurd z (by decide)) (fun _ => ?_)
  refine n_aload_n (pc := 105) dX7_init_105 rfl ?_
  refine n_getR (n := 393) (b := 58) (pc := 106) (ci := 7) dX7_init_106 fl_X7_31 rfl (by decide) (by decide) (by rfl) ?_
  refine n_iload_n (pc := 109) dX7_init_109 rfl ?_
  refine n_new (n := 393) (pc := 110) (ci := 4) (c' := (393, 7958)) dX7_init_110 kl_X7_17 it_4 iz_4 (by decide) ok_21 (by decide) (by intro b9 h9; simp at h9; first | (subst h9; show @LT.lt Nat _ _ _; omega) | (rcases h9 with h9 | h9 <;> (subst h9; show @LT.lt Nat _ _ _; omega)) | (rcases h9 with h9 | h9 | h9 <;> (subst h9; show @LT.lt Nat _ _ _; omega))) (by intro b9 h9; simp at h9; first | (subst h9; show @LT.lt Nat _ _ _; omega) | (rcases h9 with h9 | h9 <;> (subst h9; show @LT.lt Nat _ _ _; omega)) | (rcases h9 with h9 | h9 | h9 <;> (subst h9; show @LT.lt Nat _ _ _; omega))) (by decide) rfl (Nat.le_of_ble_eq_true rfl) (Nat.le_of_ble_eq_true rfl) (by decide) ?_
  refine n_dup (pc := 113) dX7_init_113 rfl ?_
  refine n_callI mX4_init (n := 394) (n' := 447) (pc := 114) (m1 := 53) (s1 := 577) (c' := (446, 8535)) dX7_init_114 (Or.inl lk_X7_19) ii_X4_init mo_X4_init rfl rfl ⟨by decide, by decide⟩ (Nat.le_of_ble_eq_true rfl) (by intro b9 h9; simp at h9; first | (subst h9; show @LT.lt Nat _ _ _; omega) | (rcases h9 with h9 | h9 <;> (subst h9; show @LT.lt Nat _ _ _; omega)) | (rcases h9 with h9 | h9 | h9 <;> (subst h9; show @LT.lt Nat _ _ _; omega))) (by intro b9 h9; simp at h9; first | (subst h9; show @LT.lt Nat _ _ _; omega) | (rcases h9 with h9 | h9 <;> (subst h9; show @LT.lt Nat _ _ _; omega)) | (rcases h9 with h9 | h9 | h9 <;> (subst h9; show @LT.lt Nat _ _ _; omega))) (by decide) rfl (Nat.le_of_ble_eq_true rfl) (Nat.le_of_ble_eq_true rfl) (ct_X4 (q := 393) (by decide) (ksK (Or.inr (Or.inr (Or.inr ⟨4, by decide, rfl⟩)))) (ok_21.up (m := 394) (by decide)) (fun k => (ok_21.1 _ k (by decide)).1)) ?_
  have ok_22 := seaP_ok (q := 393) (i := 24) (j := 24) (n := 447) (ok_21.up (m := 394) (by decide)) (by decide) (Or.inr (by decide))
  refine n_aast (n := 447) (pc := 117) (ci := 22) (N := 10) (cj := 4) (nb := 0) (j := 4) dX7_init_117 (by decide) (by decide) (by decide) (by decide) rfl (by decide) (by decide) (iv0 4 10 (by decide) (by decide) (by decide)) (by decide) ?_
  have ok_23 := (ok_22.up (m := 447) (by decide)).ur (a := 58) (b := 393) (by decide) 4 (by decide)
  refine n_iinc (pc := 118) (w := 5) dX7_init_118 rfl (by decide) (by decide) ?_
  refine n_goto (pc := 121) (tgt := 99) dX7_init_121 (by decide) ?_
  refine n_iload_n (pc := 99) dX7_init_99 rfl ?_
  refine n_bipush (v := 10) (pc := 100) dX7_init_100 (by decide) ?_
  refine n_icmp_ge (pc := 102) (tgt := 124) dX7_init_102 (by decide) (fun z => absurd z (by decide)) (fun _ => ?_)
  refine n_aload_n (pc := 105) dX7_init_105 rfl ?_
  refine n_getR (n := 447) (b := 58) (pc := 106) (ci := 7) dX7_init_106 fl_X7_31 rfl (by decide) (by decide) (by rfl) ?_
  refine n_iload_n (pc := 109) dX7_init_109 rfl ?_
  refine n_new (n := 447) (pc := 110) (ci := 4) (c' := (447, 8545)) dX7_init_110 kl_X7_17 it_4 iz_4 (by decide) ok_23 (by decide) (by intro b9 h9; simp at h9; first | (subst h9; show @LT.lt Nat _ _ _; omega) | (rcases h9 with h9 | h9 <;> (subst h9; show @LT.lt Nat _ _ _; omega)) | (rcases h9 with h9 | h9 | h9 <;> (subst h9; show @LT.lt Nat _ _ _; omega))) (by intro b9 h9; simp at h9; first | (subst h9; show @LT.lt Nat _ _ _; omega) | (rcases h9 with h9 | h9 <;> (subst h9; show @LT.lt Nat _ _ _; omega)) | (rcases h9 with h9 | h9 | h9 <;> (subst h9; show @LT.lt Nat _ _ _; omega))) (by decide) rfl (Nat.le_of_ble_eq_true rfl) (Nat.le_of_ble_eq_true rfl) (by decide) ?_
  refine n_dup (pc := 113) dX7_init_113 rfl ?_
  refine n_callI mX4_init (n := 448) (n' := 501) (pc := 114) (m1 := 53) (s1 := 577) (c' := (500, 9122)) dX7_init_114 (Or.inl lk_X7_19) ii_X4_init mo_X4_init rfl rfl ⟨by decide, by decide⟩ (Nat.le_of_ble_eq_true rfl) (by intro b9 h9; simp at h9; first | (subst h9; show @LT.lt Nat _ _ _; omega) | (rcases h9 with h9 | h9 <;> (subst h9; show @LT.lt Nat _ _ _; omega)) | (rcases h9 with h9 | h9 | h9 <;> (subst h9; show @LT.lt Nat _ _ _; omega))) (by intro b9 h9; simp at h9; first | (subst h9; show @LT.lt Nat _ _ _; omega) | (rcases h9 with h9 | h9 <;> (subst h9; show @LT.lt Nat _ _ _; omega)) | (rcases h9 with h9 | h9 | h9 <;> (subst h9; show @LT.lt Nat _ _ _; omega))) (by decide) rfl (Nat.le_of_ble_eq_true rfl) (Nat.le_of_ble_eq_true rfl) (ct_X4 (q := 447) (by decide) (ksK (Or.inr (Or.inr (Or.inr ⟨5, by decide, rfl⟩)))) (ok_23.up (m := 448) (by decide)) (fun k => (ok_23.1 _ k (by decide)).1)) ?_
  have ok_24 := seaP_ok (q := 447) (i := 24) (j := 24) (n := 501) (ok_23.up (m := 448) (by decide)) (by decide) (Or.inr (by decide))
  refine n_aast (n := 501) (pc := 117) (ci := 22) (N := 10) (cj := 4) (nb := 0) (j := 5) dX7_init_117 (by decide) (by decide) (by decide) (by decide) rfl (by decide) (by decide) (iv0 5 10 (by decide) (by decide) (by decide)) (by decide) ?_
  have ok_25 := (ok_24.up (m := 501) (by decide)).ur (a := 58) (b := 447) (by decide) 5 (by decide)
  refine n_iinc (pc := 118) (w := 6) dX7_init_118 rfl (by decide) (by decide) ?_
  refine n_goto (pc := 121) (tgt := 99) dX7_init_121 (by decide) ?_
  refine n_iload_n (pc := 99) dX7_init_99 rfl ?_
  refine n_bipush (v := 10) (pc := 100) dX7_init_100 (by decide) ?_
  refine n_icmp_ge (pc := 102) (tgt := 124) dX7_init_102 (by decide) (fun z => absurd z (by decide)) (fun _ => ?_)
  refine n_aload_n (pc := 105) dX7_init_105 rfl ?_
  refine n_getR (n := 501) (b := 58) (pc := 106) (ci := 7) dX7_init_106 fl_X7_31 rfl (by decide) (by decide) (by rfl) ?_
  refine n_iload_n (pc := 109) dX7_init_109 rfl ?_
  refine n_new (n := 501) (pc := 110) (ci := 4) (c' := (501, 9132)) dX7_init_110 kl_X7_17 it_4 iz_4 (by decide) ok_25 (by decide) (by intro b9 h9; simp at h9; first | (subst h9; show @LT.lt Nat _ _ _; omega) | (rcases h9 with h9 | h9 <;> (subst h9; show @LT.lt Nat _ _ _; omega)) | (rcases h9 with h9 | h9 | h9 <;> (subst h9; show @LT.lt Nat _ _ _; omega))) (by intro b9 h9; simp at h9; first | (subst h9; show @LT.lt Nat _ _ _; omega) | (rcases h9 with h9 | h9 <;> (subst h9; show @LT.lt Nat _ _ _; omega)) | (rcases h9 with h9 | h9 | h9 <;> (subst h9; show @LT.lt Nat _ _ _; omega))) (by decide) rfl (Nat.le_of_ble_eq_true rfl) (Nat.le_of_ble_eq_true rfl) (by decide) ?_
  refine n_dup (pc := 113) dX7_init_113 rfl ?_
  refine n_callI mX4_init (n := 502) (n' := 555) (pc := 114) (m1 := 53) (s1 := 577) (c' := (554, 9709)) dX7_init_114 (Or.inl lk_X7_19) ii_X4_init mo_X4_init rfl rfl ⟨by decide, by decide⟩ (Nat.le_of_ble_eq_true rfl) (by intro b9 h9; simp at h9; first | (subst h9; show @LT.lt Nat _ _ _; omega) | (rcases h9 with h9 | h9 <;> (subst h9; show @LT.lt Nat _ _ _; omega)) | (rcases h9 with h9 | h9 | h9 <;> (subst h9; show @LT.lt Nat _ _ _; omega))) (by intro b9 h9; simp at h9; first | (subst h9; show @LT.lt Nat _ _ _; omega) | (rcases h9 with h9 | h9 <;> (subst h9; show @LT.lt Nat _ _ _; omega)) | (rcases h9 with h9 | h9 | h9 <;> (subst h9; show @LT.lt Nat _ _ _; omega))) (by decide) rfl (Nat.le_of_ble_eq_true rfl) (Nat.le_of_ble_eq_true rfl) (ct_X4 (q := 501) (by decide) (ksK (Or.inr (Or.inr (Or.inr ⟨6, by decide, rfl⟩)))) (ok_25.up (m := 502) (by decide)) (fun k => (ok_25.1 _ k (by decide)).1)) ?_
  have ok_26 := seaP_ok (q := 501) (i := 24) (j := 24) (n := 555) (ok_25.up (m := 502) (by decide)) (by decide) (Or.inr (by decide))
  refine n_aast (n := 555) (pc := 117) (ci := 22) (N := 10) (cj := 4) (nb := 0) (j := 6) dX7_init_117 (by decide) (by decide) (by decide) (by decide) rfl (by decide) (by decide) (iv0 6 10 (by decide) (by decide) (by decide)) (by decide) ?_
  have ok_27 := (ok_26.up (m := 555) (by decide)).ur (a := 58) (b := 501) (by decide) 6 (by decide)
  refine n_iinc (pc := 118) (w := 7) dX7_init_118 rfl (by decide) (by decide) ?_
  refine n_goto (pc := 121) (tgt := 99) dX7_init_121 (by decide) ?_
  refine n_iload_n (pc := 99) dX7_init_99 rfl ?_
  refine n_bipush (v := 10) (pc := 100) dX7_init_100 (by decide) ?_
  refine n_icmp_ge (pc := 102) (tgt := 124) dX7_init_102 (by decide) (fun z => absurd z (by decide)) (fun _ => ?_)
  refine n_aload_n (pc := 105) dX7_init_105 rfl ?_
  refine n_getR (n := 555) (b := 58) (pc := 106) (ci := 7) dX7_init_106 fl_X7_31 rfl (by decide) (by decide) (by rfl) ?_
  refine n_iload_n (pc := 109) dX7_init_109 rfl ?_
  refine n_new (n := 555) (pc := 110) (ci := 4) (c' := (555, 9719)) dX7_init_110 kl_X7_17 it_4 iz_4 (by decide) ok_27 (by decide) (by intro b9 h9; simp at h9; first | (subst h9; show @LT.lt Nat _ _ _; omega) | (rcases h9 with h9 | h9 <;> (subst h9; show @LT.lt Nat _ _ _; omega)) | (rcases h9 with h9 | h9 | h9 <;> (subst h9; show @LT.lt Nat _ _ _; omega))) (by intro b9 h9; simp at h9; first | (subst h9; show @LT.lt Nat _ _ _; omega) | (rcases h9 with h9 | h9 <;> (subst h9; show @LT.lt Nat _ _ _; omega)) | (rcases h9 with h9 | h9 | h9 <;> (subst h9; show @LT.lt Nat _ _ _; omega))) (by decide) rfl (Nat.le_of_ble_eq_true rfl) (Nat.le_of_ble_eq_true rfl) (by decide) ?_
  refine n_dup (pc := 113) dX7_init_113 rfl ?_
  refine n_callI mX4_init (n := 556) (n' := 609) (pc := 114) (m1 := 53) (s1 := 577) (c' := (608, 10296)) dX7_init_114 (Or.inl lk_X7_19) ii_X4_init mo_X4_init rfl rfl ⟨by decide, by decide⟩ (Nat.le_of_ble_eq_true rfl) (by intro b9 h9; simp at h9; first | (subst h9; show @LT.lt Nat _ _ _; omega) | (rcases h9 with h9 | h9 <;> (subst h9; show @LT.lt Nat _ _ _; omega)) | (rcases h9 with h9 | h9 | h9 <;> (subst h9; show @LT.lt Nat _ _ _; omega))) (by intro b9 h9; simp at h9; first | (subst h9; show @LT.lt Nat _ _ _; omega) | (rcases h9 with h9 | h9 <;> (subst h9; show @LT.lt Nat _ _ _; omega)) | (rcases h9 with h9 | h9 | h9 <;> (subst h9; show @LT.lt Nat _ _ _; omega))) (by decide) rfl (Nat.le_of_ble_eq_true rfl) (Nat.le_of_ble_eq_true rfl) (ct_X4 (q := 555) (by decide) (ksK (Or.inr (Or.inr (Or.inr ⟨7, by decide, rfl⟩)))) (ok_27.up (m := 556) (by decide)) (fun k => (ok_27.1 _ k (by decide)).1)) ?_
  have ok_28 := seaP_ok (q := 555) (i := 24) (j := 24) (n := 609) (ok_27.up (m := 556) (by decide)) (by decide) (Or.inr (by decide))
  refine n_aast (n := 609) (pc := 117) (ci := 22) (N := 10) (cj := 4) (nb := 0) (j := 7) dX7_init_117 (by decide) (by decide) (by decide) (by decide) rfl (by decide) (by decide) (iv0 7 10 (by decide) (by decide) (by decide)) (by decide) ?_
  have ok_29 := (ok_28.up (m := 609) (by decide)).ur (a := 58) (b := 555) (by decide) 7 (by decide)
  refine n_iinc (pc := 118) (w := 8) dX7_init_118 rfl (by decide) (by decide) ?_
  refine n_goto (pc := 121) (tgt := 99) dX7_init_121 (by decide) ?_
  refine n_iload_n (pc := 99) dX7_init_99 rfl ?_
  refine n_bipush (v := 10) (pc := 100) dX7_init_100 (by decide) ?_
  refine n_icmp_ge (pc := 102) (tgt := 124) dX7_init_102 (by decide) (fun z => absurd z (by decide)) (fun _ => ?_)
  refine n_aload_n (pc := 105) dX7_init_105 rfl ?_
  refine n_getR (n := 609) (b := 58) (pc := 106) (ci := 7) dX7_init_106 fl_X7_31 rfl (by decide) (by decide) (by rfl) ?_
  refine n_iload_n (pc := 109) dX7_init_109 rfl ?_
  refine n_new (n := 609) (pc := 110) (ci := 4) (c' := (609, 10306)) dX7_init_110 kl_X7_17 it_4 iz_4 (by decide) ok_29 (by decide) (by intro b9 h9; simp at h9; first | (subst h9; show @LT.lt Nat _ _ _; omega) | (rcases h9 with h9 | h9 <;> (subst h9; show @LT.lt Nat _ _ _; omega)) | (rcases h9 with h9 | h9 | h9 <;> (subst h9; show @LT.lt Nat _ _ _; omega))) (by intro b9 h9; simp at h9; first | (subst h9; show @LT.lt Nat _ _ _; omega) | (rcases h9 with h9 | h9 <;> (subst h9; show @LT.lt Nat _ _ _; omega)) | (rcases h9 with h9 | h9 | h9 <;> (subst h9; show @LT.lt Nat _ _ _; omega))) (by decide) rfl (Nat.le_of_ble_eq_true rfl) (Nat.le_of_ble_eq_true rfl) (by decide) ?_
  refine n_dup (pc := 113) dX7_init_113 rfl ?_
  refine n_callI mX4_init (n := 610) (n' := 663) (pc := 114) (m1 := 53) (s1 := 577) (c' := (662, 10883)) dX7_init_114 (Or.inl lk_X7_19) ii_X4_init mo_X4_init rfl rfl ⟨by decide, by decide⟩ (Nat.le_of_ble_eq_true rfl) (by intro b9 h9; simp at h9; first | (subst h9; show @LT.lt Nat _ _ _; omega) | (rcases h9 with h9 | h9 <;> (subst h9; show @LT.lt Nat _ _ _; omega)) | (rcases h9 with h9 | h9 | h9 <;> (subst h9; show @LT.lt Nat _ _ _; omega))) (by intro b9 h9; simp at h9; first | (subst h9; show @LT.lt Nat _ _ _; omega) | (rcases h9 with h9 | h9 <;> (subst h9; show @LT.lt Nat _ _ _; omega)) | (rcases h9 with h9 | h9 | h9 <;> (subst h9; show @LT.lt Nat _ _ _; omega))) (by decide) rfl (Nat.le_of_ble_eq_true rfl) (Nat.le_of_ble_eq_true rfl) (ct_X4 (q := 609) (by decide) (ksK (Or.inr (Or.inr (Or.inr ⟨8, by decide, rfl⟩)))) (ok_29.up (m := 610) (by decide)) (fun k => (ok_29.1 _ k (by decide)).1)) ?_
  have ok_30 := seaP_ok (q := 609) (i := 24) (j := 24) (n := 663) (ok_29.up (m := 610) (by decide)) (by decide) (Or.inr (by decide))
  refine n_aast (n := 663) (pc := 117) (ci := 22) (N := 10) (cj := 4) (nb := 0) (j := 8) dX7_init_117 (by decide) (by decide) (by decide) (by decide) rfl (by decide) (by decide) (iv0 8 10 (by decide) (by decide) (by decide)) (by decide) ?_
  have ok_31 := (ok_30.up (m := 663) (by decide)).ur (a := 58) (b := 609) (by decide) 8 (by decide)
  refine n_iinc (pc := 118) (w := 9) dX7_init_118 rfl (by decide) (by decide) ?_
  refine n_goto (pc := 121) (tgt := 99) dX7_init_121 (by decide) ?_
  refine n_iload_n (pc := 99) dX7_init_99 rfl ?_
  refine n_bipush (v := 10) (pc := 100) dX7_init_100 (by decide) ?_
  refine n_icmp_ge (pc := 102) (tgt := 124) dX7_init_102 (by decide) (fun z => absurd z (by decide)) (fun _ => ?_)
  refine n_aload_n (pc := 105) dX7_init_105 rfl ?_
  refine n_getR (n := 663) (b := 58) (pc := 106) (ci := 7) dX7_init_106 fl_X7_31 rfl (by decide) (by decide) (by rfl) ?_
  refine n_iload_n (pc := 109) dX7_init_109 rfl ?_
  refine n_new (n := 663) (pc := 110) (ci := 4) (c' := (663, 10893)) dX7_init_110 kl_X7_17 it_4 iz_4 (by decide) ok_31 (by decide) (by intro b9 h9; simp at h9; first | (subst h9; show @LT.lt Nat _ _ _; omega) | (rcases h9 with h9 | h9 <;> (subst h9; show @LT.lt Nat _ _ _; omega)) | (rcases h9 with h9 | h9 | h9 <;> (subst h9; show @LT.lt Nat _ _ _; omega))) (by intro b9 h9; simp at h9; first | (subst h9; show @LT.lt Nat _ _ _; omega) | (rcases h9 with h9 | h9 <;> (subst h9; show @LT.lt Nat _ _ _; omega)) | (rcases h9 with h9 | h9 | h9 <;> (subst h9; show @LT.lt Nat _ _ _; omega))) (by decide) rfl (Nat.le_of_ble_eq_true rfl) (Nat.le_of_ble_eq_true rfl) (by decide) ?_
  refine n_dup (pc := 113) dX7_init_113 rfl ?_
  refine n_callI mX4_init (n := 664) (n' := 717) (pc := 114) (m1 := 53) (s1 := 577) (c' := (716, 11470)) dX7_init_114 (Or.inl lk_X7_19) ii_X4_init mo_X4_init rfl rfl ⟨by decide, by decide⟩ (Nat.le_of_ble_eq_true rfl) (by intro b9 h9; simp at h9; first | (subst h9; show @LT.lt Nat _ _ _; omega) | (rcases h9 with h9 | h9 <;> (subst h9; show @LT.lt Nat _ _ _; omega)) | (rcases h9 with h9 | h9 | h9 <;> (subst h9; show @LT.lt Nat _ _ _; omega))) (by intro b9 h9; simp at h9; first | (subst h9; show @LT.lt Nat _ _ _; omega) | (rcases h9 with h9 | h9 <;> (subst h9; show @LT.lt Nat _ _ _; omega)) | (rcases h9 with h9 | h9 | h9 <;> (subst h9; show @LT.lt Nat _ _ _; omega))) (by decide) rfl (Nat.le_of_ble_eq_true rfl) (Nat.le_of_ble_eq_true rfl) (ct_X4 (q := 663) (by decide) (ksK (Or.inr (Or.inr (Or.inr ⟨9, by decide, rfl⟩)))) (ok_31.up (m := 664) (by decide)) (fun k => (ok_31.1 _ k (by decide)).1)) ?_
  have ok_32 := seaP_ok (q := 663) (i := 24) (j := 24) (n := 717) (ok_31.up (m := 664) (by decide)) (by decide) (Or.inr (by decide))
  refine n_aast (n := 717) (pc := 117) (ci := 22) (N := 10) (cj := 4) (nb := 0) (j := 9) dX7_init_117 (by decide) (by decide) (by decide) (by decide) rfl (by decide) (by decide) (iv0 9 10 (by decide) (by decide) (by decide)) (by decide) ?_
  have ok_33 := (ok_32.up (m := 717) (by decide)).ur (a := 58) (b := 663) (by decide) 9 (by decide)
  refine n_iinc (pc := 118) (w := 10) dX7_init_118 rfl (by decide) (by decide) ?_
  refine n_goto (pc := 121) (tgt := 99) dX7_init_121 (by decide) ?_
  refine n_iload_n (pc := 99) dX7_init_99 rfl ?_
  refine n_bipush (v := 10) (pc := 100) dX7_init_100 (by decide) ?_
  refine n_icmp_ge (pc := 102) (tgt := 124) dX7_init_102 (by decide) (fun _ => ?_) (fun z => absurd (by decide) z)
  exact n_ret (pc := 124) rfl rfl dX7_init_124 rfl
theorem clC_ok {x : Cn} (ok : Okx 1 x) : Okx 717 (clC x) := by
  have ok_1 := (ok.up (m := 2) (by decide)).ur (a := 0) (b := 1) (by decide) 0 (by decide)
  have ok_2 := seaP_ok (q := 2) (i := 24) (j := 24) (n := 56) (ok_1.up (m := 3) (by decide)) (by decide) (Or.inr (by decide))
  have ok_3 := (ok_2.up (m := 56) (by decide)).ur (a := 0) (b := 2) (by decide) 2 (by decide)
  have ok_4 := (ok_3.up (m := 58) (by decide)).ur (a := 56) (b := 57) (by decide) 1 (by decide)
  have ok_5 := (ok_4.up (m := 58) (by decide)).ur (a := 0) (b := 56) (by decide) 3 (by decide)
  have ok_6 := (ok_5.up (m := 59) (by decide)).ur (a := 0) (b := 58) (by decide) 4 (by decide)
  have ok_7 := rdC_ok (ok_6.up (m := 60) (by decide))
  have ok_8 := (ok_7.up (m := 117) (by decide)).ur (a := 0) (b := 59) (by decide) 6 (by decide)
  have ok_9 := ok_8.ui (a := 0) (by decide) 8 (-1)
  have ok_10 := plC_ok (ok_9.up (m := 118) (by decide))
  have ok_11 := (ok_10.up (m := 175) (by decide)).ur (a := 0) (b := 117) (by decide) 9 (by decide)
  have ok_12 := (ok_11.up (m := 177) (by decide)).ur (a := 175) (b := 176) (by decide) 0 (by decide)
  have ok_13 := (ok_12.up (m := 177) (by decide)).ur (a := 0) (b := 175) (by decide) 10 (by decide)
  have ok_14 := seaP_ok (q := 177) (i := 24) (j := 24) (n := 231) (ok_13.up (m := 178) (by decide)) (by decide) (Or.inr (by decide))
  have ok_15 := (ok_14.up (m := 231) (by decide)).ur (a := 58) (b := 177) (by decide) 0 (by decide)
  have ok_16 := seaP_ok (q := 231) (i := 24) (j := 24) (n := 285) (ok_15.up (m := 232) (by decide)) (by decide) (Or.inr (by decide))
  have ok_17 := (ok_16.up (m := 285) (by decide)).ur (a := 58) (b := 231) (by decide) 1 (by decide)
  have ok_18 := seaP_ok (q := 285) (i := 24) (j := 24) (n := 339) (ok_17.up (m := 286) (by decide)) (by decide) (Or.inr (by decide))
  have ok_19 := (ok_18.up (m := 339) (by decide)).ur (a := 58) (b := 285) (by decide) 2 (by decide)
  have ok_20 := seaP_ok (q := 339) (i := 24) (j := 24) (n := 393) (ok_19.up (m := 340) (by decide)) (by decide) (Or.inr (by decide))
  have ok_21 := (ok_20.up (m := 393) (by decide)).ur (a := 58) (b := 339) (by decide) 3 (by decide)
  have ok_22 := seaP_ok (q := 393) (i := 24) (j := 24) (n := 447) (ok_21.up (m := 394) (by decide)) (by decide) (Or.inr (by decide))
  have ok_23 := (ok_22.up (m := 447) (by decide)).ur (a := 58) (b := 393) (by decide) 4 (by decide)
  have ok_24 := seaP_ok (q := 447) (i := 24) (j := 24) (n := 501) (ok_23.up (m := 448) (by decide)) (by decide) (Or.inr (by decide))
  have ok_25 := (ok_24.up (m := 501) (by decide)).ur (a := 58) (b := 447) (by decide) 5 (by decide)
  have ok_26 := seaP_ok (q := 501) (i := 24) (j := 24) (n := 555) (ok_25.up (m := 502) (by decide)) (by decide) (Or.inr (by decide))
  have ok_27 := (ok_26.up (m := 555) (by decide)).ur (a := 58) (b := 501) (by decide) 6 (by decide)
  have ok_28 := seaP_ok (q := 555) (i := 24) (j := 24) (n := 609) (ok_27.up (m := 556) (by decide)) (by decide) (Or.inr (by decide))
  have ok_29 := (ok_28.up (m := 609) (by decide)).ur (a := 58) (b := 555) (by decide) 7 (by decide)
  have ok_30 := seaP_ok (q := 609) (i := 24) (j := 24) (n := 663) (ok_29.up (m := 610) (by decide)) (by decide) (Or.inr (by decide))
  have ok_31 := (ok_30.up (m := 663) (by decide)).ur (a := 58) (b := 609) (by decide) 8 (by decide)
  have ok_32 := seaP_ok (q := 663) (i := 24) (j := 24) (n := 717) (ok_31.up (m := 664) (by decide)) (by decide) (Or.inr (by decide))
  have ok_33 := (ok_32.up (m := 717) (by decide)).ur (a := 58) (b := 663) (by decide) 9 (by decide)
  exact ok_33
def moC (x : Cn) : Cn := (ur (ur (ur (ur (ur (ui (ur (ur (ur (ur x 717 1 (some 718)) 717 2 (some 719)) 717 3 (some 718)) 717 4 (some 720)) 717 12 (-1)) 717 15 (some 721)) 717 16 (some 722)) 717 17 (some 723)) 717 20 (some 724)) 717 21 (some 725))
theorem ct_X8 {x : Cn} (ok : Okx 718 x) (hz : ∀ k, x.1 717 k = 0) : mSpN mX8_init [.ref 717] (hp (718, kwf) x) 8 10471 (fun h' => h' = hp (726, kwf) (moC x)) := by
  refine n_of (by decide) (by simp [Value.category]) (Nat.le_of_ble_eq_true rfl) rfl ?_
  show GN mX8_init 8 10471 718 _ (0, 0) 0 [some (.ref 717)] [] _
  refine n_aload_n (pc := 0) dX8_init_0 rfl ?_
  refine n_objInit (pc := 1) dX8_init_1 lk_X8_1 oi_i oi_c ⟨by decide, by decide⟩ (Nat.le_of_ble_eq_true rfl) ?_
  refine n_aload_n (pc := 4) dX8_init_4 rfl ?_
  refine n_sipush (v := 518) (pc := 5) dX8_init_5 (by decide) ?_
  refine n_newa (n := 718) (N := 518) (kn := 20) (c' := (1, 518)) (pc := 8) dX8_init_8 (Or.inl ⟨rfl, rfl⟩) ac_i rfl (by decide) ok (by decide) (by intro b9 h9; simp at h9; first | (subst h9; show @LT.lt Nat _ _ _; omega) | (rcases h9 with h9 | h9 <;> (subst h9; show @LT.lt Nat _ _ _; omega)) | (rcases h9 with h9 | h9 | h9 <;> (subst h9; show @LT.lt Nat _ _ _; omega))) (by intro b9 h9; simp at h9; first | (subst h9; show @LT.lt Nat _ _ _; omega) | (rcases h9 with h9 | h9 <;> (subst h9; show @LT.lt Nat _ _ _; omega)) | (rcases h9 with h9 | h9 | h9 <;> (subst h9; show @LT.lt Nat _ _ _; omega))) (by decide) rfl (Nat.le_of_ble_eq_true rfl) (Nat.le_of_ble_eq_true rfl) (by decide) ?_
  refine n_putRF (n := 719) (b := 718) (pc := 10) (ci := 8) dX8_init_10 fl_X8_9 rfl rfl rfl rfl (by decide) (by decide) ?_
  have ok_1 := (ok.up (m := 719) (by decide)).ur (a := 717) (b := 718) (by decide) 1 (by decide)
  refine n_aload_n (pc := 13) dX8_init_13 rfl ?_
  refine n_sipush (v := 518) (pc := 14) dX8_init_14 (by decide) ?_
  refine n_newa (n := 719) (N := 518) (kn := 20) (c' := (2, 1036)) (pc := 17) dX8_init_17 (Or.inl ⟨rfl, rfl⟩) ac_i rfl (by decide) ok_1 (by decide) (by intro b9 h9; simp at h9; first | (subst h9; show @LT.lt Nat _ _ _; omega) | (rcases h9 with h9 | h9 <;> (subst h9; show @LT.lt Nat _ _ _; omega)) | (rcases h9 with h9 | h9 | h9 <;> (subst h9; show @LT.lt Nat _ _ _; omega))) (by intro b9 h9; simp at h9; first | (subst h9; show @LT.lt Nat _ _ _; omega) | (rcases h9 with h9 | h9 <;> (subst h9; show @LT.lt Nat _ _ _; omega)) | (rcases h9 with h9 | h9 | h9 <;> (subst h9; show @LT.lt Nat _ _ _; omega))) (by decide) rfl (Nat.le_of_ble_eq_true rfl) (Nat.le_of_ble_eq_true rfl) (by decide) ?_
  refine n_putRF (n := 720) (b := 719) (pc := 19) (ci := 8) dX8_init_19 fl_X8_13 rfl rfl rfl rfl (by decide) (by decide) ?_
  have ok_2 := (ok_1.up (m := 720) (by decide)).ur (a := 717) (b := 719) (by decide) 2 (by decide)
  refine n_aload_n (pc := 22) dX8_init_22 rfl ?_
  refine n_aload_n (pc := 23) dX8_init_23 rfl ?_
  refine n_getR (n := 720) (b := 718) (pc := 24) (ci := 8) dX8_init_24 fl_X8_9 rfl (by decide) (by decide) (by rfl) ?_
  refine n_putR (n := 720) (b := 718) (pc := 27) (ci := 8) dX8_init_27 fl_X8_16 rfl rfl (by decide) (by decide) ?_
  have ok_3 := (ok_2.up (m := 720) (by decide)).ur (a := 717) (b := 718) (by decide) 3 (by decide)
  refine n_aload_n (pc := 30) dX8_init_30 rfl ?_
  refine n_sipush (v := 1200) (pc := 31) dX8_init_31 (by decide) ?_
  refine n_newa (n := 720) (N := 1200) (kn := 21) (c' := (3, 2236)) (pc := 34) dX8_init_34 (Or.inr ⟨rfl, rfl⟩) ac_b rfl (by decide) ok_3 (by decide) (by intro b9 h9; simp at h9; first | (subst h9; show @LT.lt Nat _ _ _; omega) | (rcases h9 with h9 | h9 <;> (subst h9; show @LT.lt Nat _ _ _; omega)) | (rcases h9 with h9 | h9 | h9 <;> (subst h9; show @LT.lt Nat _ _ _; omega))) (by intro b9 h9; simp at h9; first | (subst h9; show @LT.lt Nat _ _ _; omega) | (rcases h9 with h9 | h9 <;> (subst h9; show @LT.lt Nat _ _ _; omega)) | (rcases h9 with h9 | h9 | h9 <;> (subst h9; show @LT.lt Nat _ _ _; omega))) (by decide) rfl (Nat.le_of_ble_eq_true rfl) (Nat.le_of_ble_eq_true rfl) (by decide) ?_
  refine n_putRF (n := 721) (b := 720) (pc := 36) (ci := 8) dX8_init_36 fl_X8_19 rfl rfl rfl rfl (by decide) (by decide) ?_
  have ok_4 := (ok_3.up (m := 721) (by decide)).ur (a := 717) (b := 720) (by decide) 4 (by decide)
  refine n_aload_n (pc := 39) dX8_init_39 rfl ?_
  refine n_iconst (v := (-1)) (pc := 40) dX8_init_40 (by decide) ?_
  refine n_putI (n := 721) (pc := 41) (ci := 8) dX8_init_41 fl_X8_23 rfl rfl (by decide) (by decide) ⟨rfl, rfl⟩ ?_
  have ok_5 := ok_4.ui (a := 717) (by decide) 12 (-1)
  refine n_aload_n (pc := 44) dX8_init_44 rfl ?_
  refine n_bipush (v := 7) (pc := 45) dX8_init_45 (by decide) ?_
  refine n_newa (n := 721) (N := 7) (kn := 20) (c' := (4, 2243)) (pc := 47) dX8_init_47 (Or.inl ⟨rfl, rfl⟩) ac_i rfl (by decide) ok_5 (by decide) (by intro b9 h9; simp at h9; first | (subst h9; show @LT.lt Nat _ _ _; omega) | (rcases h9 with h9 | h9 <;> (subst h9; show @LT.lt Nat _ _ _; omega)) | (rcases h9 with h9 | h9 | h9 <;> (subst h9; show @LT.lt Nat _ _ _; omega))) (by intro b9 h9; simp at h9; first | (subst h9; show @LT.lt Nat _ _ _; omega) | (rcases h9 with h9 | h9 <;> (subst h9; show @LT.lt Nat _ _ _; omega)) | (rcases h9 with h9 | h9 | h9 <;> (subst h9; show @LT.lt Nat _ _ _; omega))) (by decide) rfl (Nat.le_of_ble_eq_true rfl) (Nat.le_of_ble_eq_true rfl) (by decide) ?_
  refine n_putRF (n := 722) (b := 721) (pc := 49) (ci := 8) dX8_init_49 fl_X8_27 rfl rfl rfl rfl (by decide) (by decide) ?_
  have ok_6 := (ok_5.up (m := 722) (by decide)).ur (a := 717) (b := 721) (by decide) 15 (by decide)
  refine n_aload_n (pc := 52) dX8_init_52 rfl ?_
  refine n_bipush (v := 24) (pc := 53) dX8_init_53 (by decide) ?_
  refine n_newa (n := 722) (N := 24) (kn := 20) (c' := (5, 2267)) (pc := 55) dX8_init_55 (Or.inl ⟨rfl, rfl⟩) ac_i rfl (by decide) ok_6 (by decide) (by intro b9 h9; simp at h9; first | (subst h9; show @LT.lt Nat _ _ _; omega) | (rcases h9 with h9 | h9 <;> (subst h9; show @LT.lt Nat _ _ _; omega)) | (rcases h9 with h9 | h9 | h9 <;> (subst h9; show @LT.lt Nat _ _ _; omega))) (by intro b9 h9; simp at h9; first | (subst h9; show @LT.lt Nat _ _ _; omega) | (rcases h9 with h9 | h9 <;> (subst h9; show @LT.lt Nat _ _ _; omega)) | (rcases h9 with h9 | h9 | h9 <;> (subst h9; show @LT.lt Nat _ _ _; omega))) (by decide) rfl (Nat.le_of_ble_eq_true rfl) (Nat.le_of_ble_eq_true rfl) (by decide) ?_
  refine n_putRF (n := 723) (b := 722) (pc := 57) (ci := 8) dX8_init_57 fl_X8_30 rfl rfl rfl rfl (by decide) (by decide) ?_
  have ok_7 := (ok_6.up (m := 723) (by decide)).ur (a := 717) (b := 722) (by decide) 16 (by decide)
  refine n_aload_n (pc := 60) dX8_init_60 rfl ?_
  refine n_bipush (v := 24) (pc := 61) dX8_init_61 (by decide) ?_
  refine n_newa (n := 723) (N := 24) (kn := 20) (c' := (6, 2291)) (pc := 63) dX8_init_63 (Or.inl ⟨rfl, rfl⟩) ac_i rfl (by decide) ok_7 (by decide) (by intro b9 h9; simp at h9; first | (subst h9; show @LT.lt Nat _ _ _; omega) | (rcases h9 with h9 | h9 <;> (subst h9; show @LT.lt Nat _ _ _; omega)) | (rcases h9 with h9 | h9 | h9 <;> (subst h9; show @LT.lt Nat _ _ _; omega))) (by intro b9 h9; simp at h9; first | (subst h9; show @LT.lt Nat _ _ _; omega) | (rcases h9 with h9 | h9 <;> (subst h9; show @LT.lt Nat _ _ _; omega)) | (rcases h9 with h9 | h9 | h9 <;> (subst h9; show @LT.lt Nat _ _ _; omega))) (by decide) rfl (Nat.le_of_ble_eq_true rfl) (Nat.le_of_ble_eq_true rfl) (by decide) ?_
  refine n_putRF (n := 724) (b := 723) (pc := 65) (ci := 8) dX8_init_65 fl_X8_33 rfl rfl rfl rfl (by decide) (by decide) ?_
  have ok_8 := (ok_7.up (m := 724) (by decide)).ur (a := 717) (b := 723) (by decide) 17 (by decide)
  refine n_aload_n (pc := 68) dX8_init_68 rfl ?_
  refine n_sipush (v := 5180) (pc := 69) dX8_init_69 (by decide) ?_
  refine n_newa (n := 724) (N := 5180) (kn := 20) (c' := (7, 7471)) (pc := 72) dX8_init_72 (Or.inl ⟨rfl, rfl⟩) ac_i rfl (by decide) ok_8 (by decide) (by intro b9 h9; simp at h9; first | (subst h9; show @LT.lt Nat _ _ _; omega) | (rcases h9 with h9 | h9 <;> (subst h9; show @LT.lt Nat _ _ _; omega)) | (rcases h9 with h9 | h9 | h9 <;> (subst h9; show @LT.lt Nat _ _ _; omega))) (by intro b9 h9; simp at h9; first | (subst h9; show @LT.lt Nat _ _ _; omega) | (rcases h9 with h9 | h9 <;> (subst h9; show @LT.lt Nat _ _ _; omega)) | (rcases h9 with h9 | h9 | h9 <;> (subst h9; show @LT.lt Nat _ _ _; omega))) (by decide) rfl (Nat.le_of_ble_eq_true rfl) (Nat.le_of_ble_eq_true rfl) (by decide) ?_
  refine n_putRF (n := 725) (b := 724) (pc := 74) (ci := 8) dX8_init_74 fl_X8_36 rfl rfl rfl rfl (by decide) (by decide) ?_
  have ok_9 := (ok_8.up (m := 725) (by decide)).ur (a := 717) (b := 724) (by decide) 20 (by decide)
  refine n_aload_n (pc := 77) dX8_init_77 rfl ?_
  refine n_sipush (v := 3000) (pc := 78) dX8_init_78 (by decide) ?_
  refine n_newa (n := 725) (N := 3000) (kn := 21) (c' := (8, 10471)) (pc := 81) dX8_init_81 (Or.inr ⟨rfl, rfl⟩) ac_b rfl (by decide) ok_9 (by decide) (by intro b9 h9; simp at h9; first | (subst h9; show @LT.lt Nat _ _ _; omega) | (rcases h9 with h9 | h9 <;> (subst h9; show @LT.lt Nat _ _ _; omega)) | (rcases h9 with h9 | h9 | h9 <;> (subst h9; show @LT.lt Nat _ _ _; omega))) (by intro b9 h9; simp at h9; first | (subst h9; show @LT.lt Nat _ _ _; omega) | (rcases h9 with h9 | h9 <;> (subst h9; show @LT.lt Nat _ _ _; omega)) | (rcases h9 with h9 | h9 | h9 <;> (subst h9; show @LT.lt Nat _ _ _; omega))) (by decide) rfl (Nat.le_of_ble_eq_true rfl) (Nat.le_of_ble_eq_true rfl) (by decide) ?_
  refine n_putRF (n := 726) (b := 725) (pc := 83) (ci := 8) dX8_init_83 fl_X8_39 rfl rfl rfl rfl (by decide) (by decide) ?_
  have ok_10 := (ok_9.up (m := 726) (by decide)).ur (a := 717) (b := 725) (by decide) 21 (by decide)
  exact n_ret (pc := 86) rfl rfl dX8_init_86 rfl
theorem moC_ok {x : Cn} (ok : Okx 718 x) : Okx 726 (moC x) := by
  have ok_1 := (ok.up (m := 719) (by decide)).ur (a := 717) (b := 718) (by decide) 1 (by decide)
  have ok_2 := (ok_1.up (m := 720) (by decide)).ur (a := 717) (b := 719) (by decide) 2 (by decide)
  have ok_3 := (ok_2.up (m := 720) (by decide)).ur (a := 717) (b := 718) (by decide) 3 (by decide)
  have ok_4 := (ok_3.up (m := 721) (by decide)).ur (a := 717) (b := 720) (by decide) 4 (by decide)
  have ok_5 := ok_4.ui (a := 717) (by decide) 12 (-1)
  have ok_6 := (ok_5.up (m := 722) (by decide)).ur (a := 717) (b := 721) (by decide) 15 (by decide)
  have ok_7 := (ok_6.up (m := 723) (by decide)).ur (a := 717) (b := 722) (by decide) 16 (by decide)
  have ok_8 := (ok_7.up (m := 724) (by decide)).ur (a := 717) (b := 723) (by decide) 17 (by decide)
  have ok_9 := (ok_8.up (m := 725) (by decide)).ur (a := 717) (b := 724) (by decide) 20 (by decide)
  have ok_10 := (ok_9.up (m := 726) (by decide)).ur (a := 717) (b := 725) (by decide) 21 (by decide)
  exact ok_10
end
/-! 64.start.lean.txt -/
section
def mFp : List Nat := [9, 86, 95, 104, 110, 121, 131, 209, 216, 223, 230, 236, 246, 256, 263, 275, 282, 289, 296, 303, 310, 317, 324, 335, 343, 351, 359, 366, 376, 386, 394, 406, 417, 426, 435, 440, 448]
def mSr : List (Nat × Nat) := [(1, 174), (4, 139), (4, 164), (4, 165), (4, 166), (4, 176), (4, 181), (4, 182), (4, 187), (4, 192), (4, 193), (5, 69), (5, 108), (5, 117), (5, 118), (5, 138), (5, 139), (5, 140), (5, 141), (5, 142), (5, 143), (5, 144), (5, 145), (5, 146), (5, 147), (5, 148), (5, 149), (7, 119), (7, 132), (7, 133), (7, 134), (7, 139), (7, 144), (7, 145), (7, 146), (7, 147), (7, 148)]
def mTm (q : String × Nat × String × List Int32) : Term := .string q.1 q.2.1
def mTv (q : String × Nat × String × List Int32) : Term := .field (mTm q) "java/lang/String" "value" "[B"
def mBlk (q : String × Nat × String × List Int32) : List Cond := Cond.exactly (mTm q) "java/lang/String" :: Cond.eq (.field (mTm q) "java/lang/String" "coder" "B") (.int 0) :: Cond.arrayOf (mTv q) .byte :: Cond.eq (.length (mTv q)) (.int (Int32.ofNat q.2.2.2.length)) :: (List.range q.2.2.2.length).map (fun j => Cond.eq (.elem (mTv q) (.int (Int32.ofNat j))) (.int (q.2.2.2.getD j 0)))
theorem mS_len : mS.length = 37 := by decide +kernel
theorem mBlk_all : (List.range 37).all (fun i => decide (((flatC (Cond.and given_1 narrow_1)).drop (mFp.getD i 0)).take (mBlk (mSq i)).length = mBlk (mSq i))) = true := by decide +kernel
theorem mSr_all : (List.range 37).all (fun i => decide ((mCk (mSr.getD i (0, 0)).1)[(mSr.getD i (0, 0)).2]? = some (Cond.stringRef (mSq i).1 (mSq i).2.1 (mSq i).2.2.1) ∧ (mSq i).2.2.2.length < 2 ^ 31)) = true := by decide +kernel
def mNp : List (Nat × Nat) := [(0, 35), (0, 104), (0, 215), (0, 232), (0, 239), (1, 62), (1, 89), (1, 167), (1, 223), (2, 7), (2, 26), (2, 62), (2, 69), (2, 76), (2, 94), (2, 200), (3, 157), (3, 180), (3, 224), (4, 148), (4, 149)]
theorem mNst_all : (List.range 21).all (fun i => decide (∃ q ∈ mNst[i]?, (mCk (mNp.getD i (0, 0)).1)[(mNp.getD i (0, 0)).2]? = some (Cond.methodLinkNest q.1 q.2.1 q.2.2.1 q.2.2.2))) = true := by decide +kernel
theorem mNst_len : mNst.length = 21 := by decide
theorem w_lc : Cond.laysStatic "java/lang/String" "COMPACT_STRINGS" "Z" ∈ lw_tbl := List.mem_append_right _ (lw_t2 184 rfl)
theorem w_ls : Cond.laysStatic mFm.1 mFm.2.1 mFm.2.2 ∈ lw_tbl := List.mem_append_right _ (lw_t2 200 rfl)
theorem w_ic : Cond.initialized "java/lang/String" ∈ lw_tbl := List.mem_append_right _ (lw_t1 11 rfl)
theorem w_is : Cond.initialized mFm.1 ∈ lw_tbl := List.mem_append_right _ (lw_t1 13 rfl)
theorem w_aoX4 : Cond.arrayOver (.object RX4) ∈ lw_tbl := List.mem_append_right _ (lw_t1 229 rfl)
theorem w_aoX5 : Cond.arrayOver (.object RX5) ∈ lw_tbl := List.mem_append_right _ (lw_t1 31 rfl)
theorem w_aoX0 : Cond.arrayOver (.object RX0) ∈ lw_tbl := List.mem_append_right _ (lw_t1 33 rfl)
theorem f_cs : Cond.eq (.static "java/lang/String" "COMPACT_STRINGS" "Z") (.int 1) ∈ flatC (Cond.and given_1 narrow_1) := List.mem_of_getElem? (i := 4) (by decide +kernel)
theorem f_fm : Cond.isRef (.static mFm.1 mFm.2.1 mFm.2.2) ∈ flatC (Cond.and given_1 narrow_1) := List.mem_of_getElem? (i := 5) (by decide +kernel)
theorem all_r {n : Nat} {f : Nat → Bool} (h : (List.range n).all f = true) {i : Nat} (hi : i < n) : f i = true := List.all_eq_true.mp h i (List.mem_range.mpr hi)
theorem mSq_of {i : Nat} {q : String × Nat × String × List Int32} (h : mS[i]? = some q) : i < 37 ∧ mSq i = q := by
  have hl := (List.getElem?_eq_some_iff.mp h).1
  rw [mS_len] at hl
  refine ⟨hl, ?_⟩
  unfold mSq
  rw [List.getD_eq_getElem?_getD, h]
  rfl
theorem mBlk_in {i : Nat} (hi : i < 37) {w : Cond} (hw : w ∈ mBlk (mSq i)) : w ∈ flatC (Cond.and given_1 narrow_1) := by
  have h := of_decide_eq_true (all_r mBlk_all hi)
  rw [← h] at hw
  exact List.mem_of_mem_drop (List.mem_of_mem_take hw)
/-- String constants, links and statics at the start -/
theorem mSK_start {s : State} {args : Array Value} {A : Nat → Prop} (hts : ∀ w ∈ lw_tbl, w.before args s = true) (hgv : (Cond.and given_1 narrow_1).before args s = true) (hA : ∀ a : Nat, a < s.heap.size → ¬ A a) (b : Nat) : ∃ ad : Nat → Nat, mSK ad A s ∧ ad (mSB + 950) = b := by
  have hs := flat_of_before _ hgv
  have h0 : ∀ i : Nat, ∃ t : Nat × Nat, ∀ q : String × Nat × String × List Int32, mS[i]? = some q → vk_R q.1 q.2.1 q.2.2.1 t.1 s ∧ va_O "java/lang/String" t.1 A s s.heap ∧ va_OF "java/lang/String" "coder" "B" (.int 0) t.1 A s s.heap ∧ va_OF "java/lang/String" "value" "[B" (.ref t.2) t.1 A s s.heap ∧ va_T .byte t.2 q.2.2.2.length (fun j => .int (q.2.2.2.getD j 0)) A s s.heap := by
    intro i
    cases hq : mS[i]? with
    | none => exact ⟨(0, 0), fun q h => by cases h⟩
    | some q =>
      obtain ⟨hi, eq⟩ := mSq_of hq
      have hin : ∀ w ∈ mBlk q, w.before args s = true := fun w hw => hs w (mBlk_in hi (by rw [eq]; exact hw))
      obtain ⟨hr, hlen⟩ := of_decide_eq_true (all_r mSr_all hi)
      rw [eq] at hr hlen
      obtain ⟨a, c, cA, kA, q1, q2, q3, q4, q5, q6, -⟩ := Cond.exactly_spec (args := args) (first := s) (o := none) (s := s) (idx := []) (t := mTm q) (cls := "java/lang/String") (hin _ List.mem_cons_self)
      have m1 : Cond.eq (.field (mTm q) "java/lang/String" "coder" "B") (.int 0) ∈ mBlk q := List.mem_cons_of_mem _ List.mem_cons_self
      have m2 : Cond.arrayOf (mTv q) .byte ∈ mBlk q := List.mem_cons_of_mem _ (List.mem_cons_of_mem _ List.mem_cons_self)
      have m3 : Cond.eq (.length (mTv q)) (.int (Int32.ofNat q.2.2.2.length)) ∈ mBlk q := List.mem_cons_of_mem _ (List.mem_cons_of_mem _ (List.mem_cons_of_mem _ List.mem_cons_self))
      have m4 : ∀ j, j < q.2.2.2.length → Cond.eq (.elem (mTv q) (.int (Int32.ofNat j))) (.int (q.2.2.2.getD j 0)) ∈ mBlk q := fun j hj => List.mem_cons_of_mem _ (List.mem_cons_of_mem _ (List.mem_cons_of_mem _ (List.mem_cons_of_mem _ (List.mem_map.mpr ⟨j, List.mem_range.mpr hj, rfl⟩))))
      obtain ⟨t, ht, hT⟩ := va_Tof (f := fun j => .int (q.2.2.2.getD j 0)) (A := A) hlen (hin _ m2) (va_eqt (hin _ m3)) (fun j hj => va_eqt (hin _ (m4 j hj))) hA
      refine ⟨(a, t), fun q' h => ?_⟩
      cases h
      exact ⟨vk_R.of (hts _ (List.mem_append_right _ (mCk_sub (List.mem_of_getElem? hr)))) q1, ⟨cA, q3, q5, by rw [q6]; exact q2, hA a (Array.getElem?_eq_some_iff.mp q3).1⟩, vk_OFof q1 (va_eqt (hin _ m1)) hA, vk_OFof q1 ht hA, hT⟩
  obtain ⟨f, hf⟩ := Classical.axiomOfChoice h0
  have hfm := va_Zqof (A := A) (hts _ w_ls) (hts _ w_is) (hs _ f_fm) hA
  obtain ⟨fm, hfm⟩ : ∃ fm : Nat, va_Z mFm.1 mFm.2.1 mFm.2.2 .null A s s.heap ∨ va_Z mFm.1 mFm.2.1 mFm.2.2 (.ref fm) A s s.heap := by
    rcases hfm with h | ⟨t, h⟩
    · exact ⟨0, Or.inl h⟩
    · exact ⟨t, Or.inr h⟩
  refine ⟨fun a => if a < mSB + 100 then (f (a - mSB)).1 else if a < mSB + 200 then (f (a - (mSB + 100))).2 else if a < mSB + 901 then fm else b, ⟨va_Zof (hts _ w_lc) (hts _ w_ic) (va_eqt (hs _ f_cs)) hA, fun q hq => ?_, fun i q hq => ?_, ?_, va_AO.of (hts _ w_aoX4), va_AO.of (hts _ w_aoX5), va_AO.of (hts _ w_aoX0)⟩, ?_⟩
  · obtain ⟨i, hi⟩ := List.getElem?_of_mem hq
    have hl := (List.getElem?_eq_some_iff.mp hi).1
    rw [mNst_len] at hl
    obtain ⟨q', h1, h2⟩ := of_decide_eq_true (all_r mNst_all hl)
    rw [hi] at h1
    cases h1
    exact va_Nw.of rfl (hts _ (List.mem_append_right _ (mCk_sub (List.mem_of_getElem? h2))))
  · have hi := (mSq_of hq).1
    have e1 : (if mSB + i < mSB + 100 then (f (mSB + i - mSB)).1 else if mSB + i < mSB + 200 then (f (mSB + i - (mSB + 100))).2 else if mSB + i < mSB + 901 then fm else b) = (f i).1 := by
      rw [if_pos (by omega), show mSB + i - mSB = i by omega]
    have e2 : (if mSB + 100 + i < mSB + 100 then (f (mSB + 100 + i - mSB)).1 else if mSB + 100 + i < mSB + 200 then (f (mSB + 100 + i - (mSB + 100))).2 else if mSB + 100 + i < mSB + 901 then fm else b) = (f i).2 := by
      rw [if_neg (by omega), if_pos (by omega), show mSB + 100 + i - (mSB + 100) = i by omega]
    simp only [e1, e2]
    exact hf i q hq
  · have e3 : (if mSB + 900 < mSB + 100 then (f (mSB + 900 - mSB)).1 else if mSB + 900 < mSB + 200 then (f (mSB + 900 - (mSB + 100))).2 else if mSB + 900 < mSB + 901 then fm else b) = fm := by
      rw [if_neg (by omega), if_neg (by omega), if_pos (by omega)]
    simp only [e3]
    exact hfm
  · show (if mSB + 950 < mSB + 100 then (f (mSB + 950 - mSB)).1 else if mSB + 950 < mSB + 200 then (f (mSB + 950 - (mSB + 100))).2 else if mSB + 950 < mSB + 901 then fm else b) = b
    rw [if_neg (by omega), if_neg (by omega), if_neg (by omega)]
/-- the classes at the start -/
theorem mK_start {s : State} {args : Array Value} (hts : ∀ w ∈ lw_tbl, w.before args s = true) : ∃ D : va_G, va_K D vwCl [] s := by
  have hm : ∀ w ∈ mTb, w.before args s = true := fun w hw => hts w (List.mem_filter.mp hw).1
  have hi : ∀ k, k < 9 → Cond.instantiable (mCn k) (mNF k) ∈ mTb := by
    intro k hk
    rcases (show k = 0 ∨ k = 1 ∨ k = 2 ∨ k = 3 ∨ k = 4 ∨ k = 5 ∨ k = 6 ∨ k = 7 ∨ k = 8 by omega) with rfl | rfl | rfl | rfl | rfl | rfl | rfl | rfl | rfl
    · exact it_0
    · exact it_1
    · exact it_2
    · exact it_3
    · exact it_4
    · exact it_5
    · exact it_6
    · exact it_7
    · exact it_8
  have h0 : ∀ k : Nat, ∃ t : ClassId × (Nat → Nat), k < 9 → u_Kn s (mCn k) (mTt k) (mNF k) t.1 t.2 := by
    intro k
    by_cases hk : k < 9
    · obtain ⟨c, i, h⟩ := u_known (ws := mTb) hm (mIn hk) (hm _ (hi k hk))
      exact ⟨(c, i), fun _ => h⟩
    · exact ⟨(0, fun _ => 0), fun h => absurd h hk⟩
  obtain ⟨f, hf⟩ := Classical.axiomOfChoice h0
  refine ⟨(fun k => (f k).1, fun k => (f k).2), fun k q hq => ?_, fun k q h => by simp at h⟩
  have hk : k < 9 := (List.getElem?_eq_some_iff.mp hq).1
  have := mCl_at hk
  rw [hq] at this
  cases this
  exact hf k hk
/-! the state behind both constructors -/
def x0 : Cn := (fun _ _ => 0, fun _ _ => none)
theorem x0_ok : Okx 0 x0 := ⟨fun _ _ _ => ⟨rfl, rfl⟩, fun _ _ _ h => by cases h⟩
def xS : Cn := moC (clC x0)
theorem xS_i (a k : Nat) : gi xS a k = if a = 717 ∧ k = 12 then -1 else if a = 0 ∧ k = 8 then -1 else if a = 59 ∧ k = 4 then -1 else 0 := rfl
theorem xS_z {a k : Nat} (h : ¬ (a = 717 ∧ k = 12)) (h1 : ¬ (a = 0 ∧ k = 8)) (h2 : ¬ (a = 59 ∧ k = 4)) : gi xS a k = 0 := by rw [xS_i, if_neg h, if_neg h1, if_neg h2]
theorem SRf_of {x : Cn} {q : Nat} (h : (gr x q 5 = some (q + 1) ∧ gr x q 6 = some (q + 2) ∧ gr x q 7 = some (q + 3) ∧ gr x q 8 = some (q + 4) ∧ gr x q 9 = some (q + 5)) ∧ (∀ s, s < 24 → gr x (q + 3) s = some (q + 6 + s) ∧ gr x (q + 4) s = some (q + 30 + s))) : SRf x q := by
  obtain ⟨⟨h5, h6, h7, h8, h9⟩, hs⟩ := h
  refine ⟨h5, h6, h7, h8, h9, fun s hl => ⟨s, hl, (hs s hl).1⟩, fun s t h1 h2 e => ?_, fun s hl => ⟨s, hl, (hs s hl).2⟩, fun s t h1 h2 e => ?_⟩
  · rw [(hs s h1).1, (hs t h2).1] at e
    have := Option.some.inj e
    omega
  · rw [(hs s h1).2, (hs t h2).2] at e
    have := Option.some.inj e
    omega
theorem xS_2 : SRf xS 2 := SRf_of (by decide +kernel)
theorem xS_60 : SRf xS 60 := SRf_of (by decide +kernel)
theorem xS_118 : SRf xS 118 := SRf_of (by decide +kernel)
theorem xS_p : ∀ j, j < 10 → SRf xS (177 + 54 * j) := fun j hj => SRf_of ((show ∀ j, j < 10 → (gr xS (177 + 54 * j) 5 = some (177 + 54 * j + 1) ∧ gr xS (177 + 54 * j) 6 = some (177 + 54 * j + 2) ∧ gr xS (177 + 54 * j) 7 = some (177 + 54 * j + 3) ∧ gr xS (177 + 54 * j) 8 = some (177 + 54 * j + 4) ∧ gr xS (177 + 54 * j) 9 = some (177 + 54 * j + 5)) ∧ (∀ s, s < 24 → gr xS (177 + 54 * j + 3) s = some (177 + 54 * j + 6 + s) ∧ gr xS (177 + 54 * j + 4) s = some (177 + 54 * j + 30 + s)) by decide +kernel) j hj)
theorem xS_58 : ∀ i, i < 10 → gr xS 58 i = some (177 + 54 * i) := by decide +kernel
theorem xS_c : CRf xS := by
  refine ⟨by decide +kernel, by decide +kernel, by decide +kernel, by decide +kernel, by decide +kernel, by decide +kernel, by decide +kernel, by decide +kernel, by decide +kernel, by decide +kernel, Or.inl (by decide +kernel), by decide +kernel, by decide +kernel, by decide +kernel, by decide +kernel, by decide +kernel, by decide +kernel, xS_60, xS_118, xS_p, fun i hi => ⟨i, hi, xS_58 i hi⟩, fun i j hi hj e => ?_⟩
  rw [xS_58 i hi, xS_58 j hj] at e
  have := Option.some.inj e
  omega
theorem xS_m : MRf xS 718 := by
  refine ⟨by decide +kernel, by decide +kernel, by decide +kernel, by decide +kernel, by decide +kernel, by decide +kernel, by decide +kernel, by decide +kernel, by decide +kernel⟩
theorem xS_718 (k : Nat) : gi xS 718 k = 0 := xS_z (by omega) (by omega) (by omega)
theorem xS_rel : Rel xS := by
  refine ⟨xS_c, xS_m, ⟨trivial, trivial⟩, ⟨0, by decide, xS_z (by omega) (by omega) (by omega), xS_z (by omega) (by omega) (by omega), fun i hi => absurd hi (by omega)⟩, ⟨0, by decide, xS_z (by omega) (by omega) (by omega), xS_z (by omega) (by omega) (by omega), fun i hi => absurd hi (by omega)⟩, 0, 0, 0, 0, 0, ⟨Or.inl rfl, xS_2, ⟨?_, ?_, ?_, ?_, ?_, fun h hh => ⟨?_, ?_⟩, fun s p hs _ => absurd hs (by omega), fun s p hs _ => absurd hs (by omega)⟩, ⟨xS_718 _, Or.inl ⟨rfl, rfl⟩, by decide, xS_718 _, by decide, xS_718 _, by decide, xS_718 _, by decide, xS_718 _, by decide, fun h hh => ⟨0, 0, by decide, by decide, xS_718 _, xS_718 _⟩, fun s hs => absurd hs (by omega), fun s hs => absurd hs (by omega)⟩⟩, ⟨xS_z (by omega) (by omega) (by omega), fun c hc => absurd hc (by omega)⟩, ⟨0, by decide, xS_z (by omega) (by omega) (by omega), xS_z (by omega) (by omega) (by omega), fun j hj => absurd hj (by omega)⟩⟩
  all_goals (rw [xS_718, xS_z (by omega) (by omega) (by omega)])
theorem xS_f : gi xS 0 7 = gi xS 717 11 ∧ gi xS 0 8 = gi xS 717 12 := ⟨rfl, rfl⟩
end

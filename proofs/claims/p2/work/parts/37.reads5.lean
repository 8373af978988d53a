abbrev c_of (T : TT) (a b : Int32) (s : Nat) : Prop := so T s 0 = a ∧ (b = -1 ∨ so T s 1 = b)
def stL (T : TT) (s : Nat) : Nat → Int32 × Int32 → Int32 × Int32 := fun w a => if tb (so T s 9) w = true then ((if a.1 < (a.2 + 1) then (a.2 + 1) else a.1), a.2 + 1) else ((if a.1 < 0 then 0 else a.1), 0)
noncomputable def ahd (T : TT) (S : Nat) (c : Nat) : Nat → Int32 → Int32 := fun d a => if d = c then a else a + bP (btr T S (nI d) (nI c))
noncomputable def stB (T : TT) (S C : Nat) (k : Int32) : Nat → Unit → Unit ⊕ Int32 := fun c _ => if accT (ahd T S c) C 0 = k then .inr (nI c) else .inl ()
abbrev cMo (T : TT) (S : Nat) (day : Int32) (c d : Nat) : Prop := bOf T S (nI c) day < bOf T S (nI d) day ∨ (bOf T S (nI d) day = bOf T S (nI c) day ∧ d < c)
def stM (T : TT) (S C : Nat) (day k : Int32) : Nat → Unit → Unit ⊕ Int32 := fun c _ => if accT (inc (cMo T S day c)) C 0 = k then .inr (nI c) else .inl ()
set_option maxHeartbeats 2000000 in
theorem v_X7_of_0 {K : Sh} {x : Cn} {Q : Int32 → Cn → Prop} {b0 : Nat} {l1 : Int32} {l2 : Int32} {b0_3 : Nat} {b0_2 : Nat} (k_b0 : kk K b0 = some (7, 0)) (g_b0_3 : gr x b0 3 = some b0_3) (k_b0_3 : kk K b0_3 = some (1, 0)) (g_b0_2 : gr x b0 2 = some b0_2) (k_b0_2 : kk K b0_2 = some (4, 0)) (K0 : (¬ (0 ≤ l1 ∧ l1 < gi x b0_3 0) → (Q (-2) x)) ∧ ((0 ≤ l1 ∧ l1 < gi x b0_3 0) → ((l2 = (-1) → (GI mX7_of 29 [some (.ref b0), some (.int l1), some (.int l2), some (.int 0), some (.int 0)] [] K x Q)) ∧ (¬ l2 = (-1) → (((0 < gi x b0_2 0 ∧ 0 ≤ l2 ∧ l2 < 7) → (GI mX7_of 29 [some (.ref b0), some (.int l1), some (.int l2), some (.int 0), some (.int 0)] [] K x Q)) ∧ (¬ (0 < gi x b0_2 0 ∧ 0 ≤ l2 ∧ l2 < 7) → (Q (-2) x))))))) : mSI mX7_of [.ref b0, .int l1, .int l2] K x Q := by
  refine s_I (by decide) (by simp [Value.category]) (Nat.le_of_ble_eq_true rfl) ?_
  show mGM mX7_of 0 [some (.ref b0), some (.int l1), some (.int l2), none, none] [] (hp K x) (PI K Q)
  refine r_aload_n (pc := 0) dX7_of_0 rfl ?_
  refine r_iload_n (pc := 1) dX7_of_1 rfl ?_
  refine s_VI (pc := 2) mX7_isCarrier (ci := 7) (a := b0) (As := [.int l1]) dX7_of_2 lk_X7_109 in_X7_isCarrier mo_X7_isCarrier ⟨by decide, rfl⟩ ⟨by decide, by decide⟩ (Nat.le_of_ble_eq_true rfl) k_b0 (sp_X7_isCarrier k_b0 g_b0_3 k_b0_3 ?_)
  refine r_if_eq (pc := 5) (tgt := 21) dX7_of_5 (by decide) (fun q => ?_) (fun q => ?_)
  · have q := (b2i_z _).mp q
    have K0 := K0.1 q
    refine r_bipush (pc := 21) (v := (-2)) dX7_of_21 (by decide) ?_
    exact s_iret rfl dX7_of_23 K0
  · have q := b2i_nz q
    have K0 := K0.2 q
    refine r_iload_n (pc := 8) dX7_of_8 rfl ?_
    refine r_iconst (pc := 9) (v := (-1)) dX7_of_9 (by decide) ?_
    refine r_icmp_eq (pc := 10) (tgt := 24) dX7_of_10 (by decide) (fun q => ?_) (fun q => ?_)
    · have K0 := K0.1 q
      refine r_iconst (pc := 24) (v := 0) dX7_of_24 (by decide) ?_
      refine r_istore_n (pc := 25) dX7_of_25 (by decide) ?_
      refine r_iconst (pc := 26) (L := [some (.ref b0), some (.int l1), some (.int l2), some (.int 0), none]) (v := 0) dX7_of_26 (by decide) ?_
      refine r_istore (pc := 27) dX7_of_27 (by decide) ?_
      exact r_le (L' := [some (.ref b0), some (.int l1), some (.int l2), some (.int 0), some (.int 0)]) ⟨rfl, ⟨rfl, ⟨rfl, ⟨rfl, ⟨rfl, trivial⟩⟩⟩⟩⟩ K0
    · have K0 := K0.2 q
      refine r_aload_n (pc := 13) dX7_of_13 rfl ?_
      refine r_iload_n (pc := 14) dX7_of_14 rfl ?_
      refine s_VI (pc := 15) mX7_isDay (ci := 7) (a := b0) (As := [.int l2]) dX7_of_15 lk_X7_245 in_X7_isDay mo_X7_isDay ⟨by decide, rfl⟩ ⟨by decide, by decide⟩ (Nat.le_of_ble_eq_true rfl) k_b0 (sp_X7_isDay k_b0 g_b0_2 k_b0_2 ?_)
      refine r_if_ne (pc := 18) (tgt := 24) dX7_of_18 (by decide) (fun q => ?_) (fun q => ?_)
      · have q := b2i_nz q
        have K0 := K0.1 q
        refine r_iconst (pc := 24) (v := 0) dX7_of_24 (by decide) ?_
        refine r_istore_n (pc := 25) dX7_of_25 (by decide) ?_
        refine r_iconst (pc := 26) (L := [some (.ref b0), some (.int l1), some (.int l2), some (.int 0), none]) (v := 0) dX7_of_26 (by decide) ?_
        refine r_istore (pc := 27) dX7_of_27 (by decide) ?_
        exact r_le (L' := [some (.ref b0), some (.int l1), some (.int l2), some (.int 0), some (.int 0)]) ⟨rfl, ⟨rfl, ⟨rfl, ⟨rfl, ⟨rfl, trivial⟩⟩⟩⟩⟩ K0
      · have q := (b2i_z _).mp q
        have K0 := K0.2 q
        refine r_bipush (pc := 21) (v := (-2)) dX7_of_21 (by decide) ?_
        exact s_iret rfl dX7_of_23 K0
set_option maxHeartbeats 2000000 in
theorem v_X7_of_29 {K : Sh} {x : Cn} {Q : Int32 → Cn → Prop} {b0 : Nat} {l1 : Int32} {l2 : Int32} {l3 : Int32} {l4 : Int32} {b0_2 : Nat} {b0_2_7 : Nat} {n_b0_2_7 : Nat} (k_b0 : kk K b0 = some (7, 0)) (g_b0_2 : gr x b0 2 = some b0_2) (k_b0_2 : kk K b0_2 = some (4, 0)) (g_b0_2_7 : gr x b0_2 7 = some b0_2_7) (k_b0_2_7 : kk K b0_2_7 = some (23, n_b0_2_7)) (K0 : ((gi x b0_2 3) ≤ l4 → (Q l3 x)) ∧ (¬ (gi x b0_2 3) ≤ l4 → (vp_in l4 n_b0_2_7 ∧ (∃ c_3 : Nat, gr x b0_2_7 ((l4 : Int32).toNatClampNeg) = some c_3 ∧ (kk K c_3 = some (5, 0) ∧ ((¬ (gi x c_3 0 = l1 ∧ (l2 = -1 ∨ gi x c_3 1 = l2)) → (GI mX7_of 29 [some (.ref b0), some (.int l1), some (.int l2), some (.int l3), some (.int (l4 + 1))] [] K x Q)) ∧ ((gi x c_3 0 = l1 ∧ (l2 = -1 ∨ gi x c_3 1 = l2)) → (GI mX7_of 29 [some (.ref b0), some (.int l1), some (.int l2), some (.int (l3 ||| (1 <<< (l4 &&& 31)))), some (.int (l4 + 1))] [] K x Q)))))))) : GI mX7_of 29 [some (.ref b0), some (.int l1), some (.int l2), some (.int l3), some (.int l4)] [] K x Q := by
  show mGM mX7_of 29 [some (.ref b0), some (.int l1), some (.int l2), some (.int l3), some (.int l4)] [] (hp K x) (PI K Q)
  refine r_iload (pc := 29) dX7_of_29 rfl ?_
  refine r_aload_n (pc := 31) dX7_of_31 rfl ?_
  refine s_getR (pc := 32) dX7_of_32 fl_X7_20 rfl k_b0 g_b0_2 ?_
  refine s_getI (pc := 35) dX7_of_35 fl_X7_97 rfl k_b0_2 ?_
  refine r_icmp_ge (pc := 38) (tgt := 72) dX7_of_38 (by decide) (fun q => ?_) (fun q => ?_)
  · have K0 := K0.1 q
    refine r_iload_n (pc := 72) dX7_of_72 rfl ?_
    exact s_iret rfl dX7_of_73 K0
  · have K0 := K0.2 q
    refine r_aload_n (pc := 41) dX7_of_41 rfl ?_
    refine s_getR (pc := 42) dX7_of_42 fl_X7_20 rfl k_b0 g_b0_2 ?_
    refine s_getR (pc := 45) dX7_of_45 fl_X7_135 rfl k_b0_2 g_b0_2_7 ?_
    refine r_iload (pc := 48) dX7_of_48 rfl ?_
    obtain ⟨i_2, K0⟩ := K0
    obtain ⟨c_3, g_4, K0⟩ := K0
    refine s_aald (pc := 50) dX7_of_50 (by decide) rfl k_b0_2_7 i_2 g_4 ?_
    refine r_iload_n (pc := 51) dX7_of_51 rfl ?_
    refine r_iload_n (pc := 52) dX7_of_52 rfl ?_
    obtain ⟨e_5, K0⟩ := K0
    refine s_VI (pc := 53) mX5_isOf (ci := 5) (a := c_3) (As := [.int l1, .int l2]) dX7_of_53 lk_X7_248 in_X5_isOf mo_X5_isOf ⟨by decide, rfl⟩ ⟨by decide, by decide⟩ (Nat.le_of_ble_eq_true rfl) e_5 (sp_X5_isOf e_5 ?_)
    refine r_if_eq (pc := 56) (tgt := 66) dX7_of_56 (by decide) (fun q => ?_) (fun q => ?_)
    · have q := (b2i_z _).mp q
      have K0 := K0.1 q
      refine r_iinc (pc := 66) (v := l4 + 1) dX7_of_66 rfl rfl (by decide) ?_
      refine r_goto (pc := 69) (L := [some (.ref b0), some (.int l1), some (.int l2), some (.int l3), some (.int (l4 + 1))]) (tgt := 29) dX7_of_69 (by decide) ?_
      exact r_le (L' := [some (.ref b0), some (.int l1), some (.int l2), some (.int l3), some (.int (l4 + 1))]) ⟨rfl, ⟨rfl, ⟨rfl, ⟨rfl, ⟨rfl, trivial⟩⟩⟩⟩⟩ K0
    · have q := b2i_nz q
      have K0 := K0.2 q
      refine r_iload_n (pc := 59) dX7_of_59 rfl ?_
      refine r_iconst (pc := 60) (v := 1) dX7_of_60 (by decide) ?_
      refine r_iload (pc := 61) dX7_of_61 rfl ?_
      refine r_ishl (pc := 63) dX7_of_63 ?_
      refine r_ior (pc := 64) dX7_of_64 ?_
      refine r_istore_n (pc := 65) dX7_of_65 (by decide) ?_
      refine r_iinc (pc := 66) (L := [some (.ref b0), some (.int l1), some (.int l2), some (.int (l3 ||| (1 <<< (l4 &&& 31)))), some (.int l4)]) (v := l4 + 1) dX7_of_66 rfl rfl (by decide) ?_
      refine r_goto (pc := 69) (L := [some (.ref b0), some (.int l1), some (.int l2), some (.int (l3 ||| (1 <<< (l4 &&& 31)))), some (.int (l4 + 1))]) (tgt := 29) dX7_of_69 (by decide) ?_
      exact r_le (L' := [some (.ref b0), some (.int l1), some (.int l2), some (.int (l3 ||| (1 <<< (l4 &&& 31)))), some (.int (l4 + 1))]) ⟨rfl, ⟨rfl, ⟨rfl, ⟨rfl, ⟨rfl, trivial⟩⟩⟩⟩⟩ K0
set_option maxHeartbeats 2000000 in
theorem v_X8_of_0 {K : Sh} {x : Cn} {Q : Int32 → Cn → Prop} {b0 : Nat} {l1 : Int32} {l2 : Int32} {b0_1 : Nat} {n_b0_1 : Nat} (k_b0 : kk K b0 = some (8, 0)) (g_b0_1 : gr x b0 1 = some b0_1) (k_b0_1 : kk K b0_1 = some (20, n_b0_1)) (K0 : vp_in 1 n_b0_1 ∧ ((¬ (0 ≤ l1 ∧ l1 ≤ gi x b0_1 1 - 1) → (Q (-2) x)) ∧ ((0 ≤ l1 ∧ l1 ≤ gi x b0_1 1 - 1) → ((((-1) ≤ l2 ∧ l2 ≤ 6) → (GI mX8_of 30 [some (.ref b0), some (.int l1), some (.int l2), some (.int 0), some (.int 0)] [] K x Q)) ∧ (¬ ((-1) ≤ l2 ∧ l2 ≤ 6) → (Q (-2) x)))))) : mSI mX8_of [.ref b0, .int l1, .int l2] K x Q := by
  refine s_I (by decide) (by simp [Value.category]) (Nat.le_of_ble_eq_true rfl) ?_
  show mGM mX8_of 0 [some (.ref b0), some (.int l1), some (.int l2), none, none] [] (hp K x) (PI K Q)
  refine r_aload_n (pc := 0) dX8_of_0 rfl ?_
  refine r_iload_n (pc := 1) dX8_of_1 rfl ?_
  obtain ⟨i_1, K0⟩ := K0
  refine s_VI (pc := 2) mX8_isCarrier (ci := 8) (a := b0) (As := [.int l1]) dX8_of_2 lk_X8_265 in_X8_isCarrier mo_X8_isCarrier ⟨by decide, rfl⟩ ⟨by decide, by decide⟩ (Nat.le_of_ble_eq_true rfl) k_b0 (sp_X8_isCarrier k_b0 g_b0_1 k_b0_1 i_1 ?_)
  refine r_if_eq (pc := 5) (tgt := 22) dX8_of_5 (by decide) (fun q => ?_) (fun q => ?_)
  · have q := (b2i_z _).mp q
    have K0 := K0.1 q
    refine r_bipush (pc := 22) (v := (-2)) dX8_of_22 (by decide) ?_
    exact s_iret rfl dX8_of_24 K0
  · have q := b2i_nz q
    have K0 := K0.2 q
    refine r_iload_n (pc := 8) dX8_of_8 rfl ?_
    refine r_i2l (pc := 9) dX8_of_9 ?_
    refine r_ldc2 (pc := 10) (v := (-1)) dX8_of_10 cn_X8_311 ?_
    refine r_ldc2 (pc := 13) (v := 6) dX8_of_13 cn_X8_53 ?_
    refine s_SI (pc := 16) mX8_in (As := [.long ((l2 : Int32).toInt64), .long (-1), .long 6]) dX8_of_16 lk_X8_45 st_X8_in mo_X8_in ⟨by decide, by decide⟩ (Nat.le_of_ble_eq_true rfl) (sq_X8_in (v := l2) (lo := (-1)) (hi := 6) rfl (by decide) (by decide) ?_)
    refine r_if_ne (pc := 19) (tgt := 25) dX8_of_19 (by decide) (fun q => ?_) (fun q => ?_)
    · have q := b2i_nz q
      have K0 := K0.1 q
      refine r_iconst (pc := 25) (v := 0) dX8_of_25 (by decide) ?_
      refine r_istore_n (pc := 26) dX8_of_26 (by decide) ?_
      refine r_iconst (pc := 27) (L := [some (.ref b0), some (.int l1), some (.int l2), some (.int 0), none]) (v := 0) dX8_of_27 (by decide) ?_
      refine r_istore (pc := 28) dX8_of_28 (by decide) ?_
      exact r_le (L' := [some (.ref b0), some (.int l1), some (.int l2), some (.int 0), some (.int 0)]) ⟨rfl, ⟨rfl, ⟨rfl, ⟨rfl, ⟨rfl, trivial⟩⟩⟩⟩⟩ K0
    · have q := (b2i_z _).mp q
      have K0 := K0.2 q
      refine r_bipush (pc := 22) (v := (-2)) dX8_of_22 (by decide) ?_
      exact s_iret rfl dX8_of_24 K0
set_option maxHeartbeats 2000000 in
theorem v_X8_of_30 {K : Sh} {x : Cn} {Q : Int32 → Cn → Prop} {b0 : Nat} {l1 : Int32} {l2 : Int32} {l3 : Int32} {l4 : Int32} {b0_1 : Nat} {n_b0_1 : Nat} {b0_3 : Nat} {n_b0_3 : Nat} (k_b0 : kk K b0 = some (8, 0)) (g_b0_1 : gr x b0 1 = some b0_1) (k_b0_1 : kk K b0_1 = some (20, n_b0_1)) (g_b0_3 : gr x b0 3 = some b0_3) (k_b0_3 : kk K b0_3 = some (20, n_b0_3)) (K0 : vp_in 2 n_b0_1 ∧ (((gi x b0_1 2) ≤ l4 → (Q l3 x)) ∧ (¬ (gi x b0_1 2) ≤ l4 → ((l24 l4 n_b0_3) ∧ ((¬ (so (gi x b0_3) (l4 : Int32).toNatClampNeg 0) = l1 → (GI mX8_of 30 [some (.ref b0), some (.int l1), some (.int l2), some (.int (l3 ||| 0)), some (.int (l4 + 1))] [] K x Q)) ∧ ((so (gi x b0_3) (l4 : Int32).toNatClampNeg 0) = l1 → ((l2 = (-1) → (GI mX8_of 30 [some (.ref b0), some (.int l1), some (.int l2), some (.int (l3 ||| (1 <<< (l4 &&& 31)))), some (.int (l4 + 1))] [] K x Q)) ∧ (¬ l2 = (-1) → ((¬ (so (gi x b0_3) (l4 : Int32).toNatClampNeg 1) = l2 → (GI mX8_of 30 [some (.ref b0), some (.int l1), some (.int l2), some (.int (l3 ||| 0)), some (.int (l4 + 1))] [] K x Q)) ∧ ((so (gi x b0_3) (l4 : Int32).toNatClampNeg 1) = l2 → (GI mX8_of 30 [some (.ref b0), some (.int l1), some (.int l2), some (.int (l3 ||| (1 <<< (l4 &&& 31)))), some (.int (l4 + 1))] [] K x Q))))))))))) : GI mX8_of 30 [some (.ref b0), some (.int l1), some (.int l2), some (.int l3), some (.int l4)] [] K x Q := by
  show mGM mX8_of 30 [some (.ref b0), some (.int l1), some (.int l2), some (.int l3), some (.int l4)] [] (hp K x) (PI K Q)
  refine r_iload (pc := 30) dX8_of_30 rfl ?_
  refine r_aload_n (pc := 32) dX8_of_32 rfl ?_
  refine s_getR (pc := 33) dX8_of_33 fl_X8_9 rfl k_b0 g_b0_1 ?_
  refine r_iconst (pc := 36) (v := 2) dX8_of_36 (by decide) ?_
  obtain ⟨i_1, K0⟩ := K0
  refine s_iald (pc := 37) dX8_of_37 k_b0_1 i_1 ?_
  refine r_icmp_ge (pc := 38) (tgt := 85) dX8_of_38 (by decide) (fun q => ?_) (fun q => ?_)
  · have K0 := K0.1 q
    refine r_iload_n (pc := 85) dX8_of_85 rfl ?_
    exact s_iret rfl dX8_of_86 K0
  · have K0 := K0.2 q
    refine r_iload_n (pc := 41) dX8_of_41 rfl ?_
    refine r_aload_n (pc := 42) dX8_of_42 rfl ?_
    refine r_iload (pc := 43) dX8_of_43 rfl ?_
    refine r_iconst (pc := 45) (v := 0) dX8_of_45 (by decide) ?_
    obtain ⟨p_3, K0⟩ := K0
    refine s_VI (pc := 46) mX8_one (ci := 8) (a := b0) (As := [.int l4, .int 0]) dX8_of_46 lk_X8_67 in_X8_one mo_X8_one ⟨by decide, rfl⟩ ⟨by decide, by decide⟩ (Nat.le_of_ble_eq_true rfl) k_b0 (sr_X8_one k_b0 g_b0_3 k_b0_3 p_3 ⟨by decide, by decide⟩ ?_)
    refine r_iload_n (pc := 49) dX8_of_49 rfl ?_
    refine r_icmp_ne (pc := 50) (tgt := 76) dX8_of_50 (by decide) (fun q => ?_) (fun q => ?_)
    · have K0 := K0.1 q
      refine r_iconst (pc := 76) (v := 0) dX8_of_76 (by decide) ?_
      refine r_ior (pc := 77) dX8_of_77 ?_
      refine r_istore_n (pc := 78) dX8_of_78 (by decide) ?_
      refine r_iinc (pc := 79) (L := [some (.ref b0), some (.int l1), some (.int l2), some (.int (l3 ||| 0)), some (.int l4)]) (v := l4 + 1) dX8_of_79 rfl rfl (by decide) ?_
      refine r_goto (pc := 82) (L := [some (.ref b0), some (.int l1), some (.int l2), some (.int (l3 ||| 0)), some (.int (l4 + 1))]) (tgt := 30) dX8_of_82 (by decide) ?_
      exact r_le (L' := [some (.ref b0), some (.int l1), some (.int l2), some (.int (l3 ||| 0)), some (.int (l4 + 1))]) ⟨rfl, ⟨rfl, ⟨rfl, ⟨rfl, ⟨rfl, trivial⟩⟩⟩⟩⟩ K0
    · have K0 := K0.2 q
      refine r_iload_n (pc := 53) dX8_of_53 rfl ?_
      refine r_iconst (pc := 54) (v := (-1)) dX8_of_54 (by decide) ?_
      refine r_icmp_eq (pc := 55) (tgt := 69) dX8_of_55 (by decide) (fun q => ?_) (fun q => ?_)
      · have K0 := K0.1 q
        refine r_iconst (pc := 69) (v := 1) dX8_of_69 (by decide) ?_
        refine r_iload (pc := 70) dX8_of_70 rfl ?_
        refine r_ishl (pc := 72) dX8_of_72 ?_
        refine r_goto (pc := 73) (tgt := 77) dX8_of_73 (by decide) ?_
        refine r_ior (pc := 77) dX8_of_77 ?_
        refine r_istore_n (pc := 78) dX8_of_78 (by decide) ?_
        refine r_iinc (pc := 79) (L := [some (.ref b0), some (.int l1), some (.int l2), some (.int (l3 ||| (1 <<< (l4 &&& 31)))), some (.int l4)]) (v := l4 + 1) dX8_of_79 rfl rfl (by decide) ?_
        refine r_goto (pc := 82) (L := [some (.ref b0), some (.int l1), some (.int l2), some (.int (l3 ||| (1 <<< (l4 &&& 31)))), some (.int (l4 + 1))]) (tgt := 30) dX8_of_82 (by decide) ?_
        exact r_le (L' := [some (.ref b0), some (.int l1), some (.int l2), some (.int (l3 ||| (1 <<< (l4 &&& 31)))), some (.int (l4 + 1))]) ⟨rfl, ⟨rfl, ⟨rfl, ⟨rfl, ⟨rfl, trivial⟩⟩⟩⟩⟩ K0
      · have K0 := K0.2 q
        refine r_aload_n (pc := 58) dX8_of_58 rfl ?_
        refine r_iload (pc := 59) dX8_of_59 rfl ?_
        refine r_iconst (pc := 61) (v := 1) dX8_of_61 (by decide) ?_
        refine s_VI (pc := 62) mX8_one (ci := 8) (a := b0) (As := [.int l4, .int 1]) dX8_of_62 lk_X8_67 in_X8_one mo_X8_one ⟨by decide, rfl⟩ ⟨by decide, by decide⟩ (Nat.le_of_ble_eq_true rfl) k_b0 (sr_X8_one k_b0 g_b0_3 k_b0_3 p_3 ⟨by decide, by decide⟩ ?_)
        refine r_iload_n (pc := 65) dX8_of_65 rfl ?_
        refine r_icmp_ne (pc := 66) (tgt := 76) dX8_of_66 (by decide) (fun q => ?_) (fun q => ?_)
        · have K0 := K0.1 q
          refine r_iconst (pc := 76) (v := 0) dX8_of_76 (by decide) ?_
          refine r_ior (pc := 77) dX8_of_77 ?_
          refine r_istore_n (pc := 78) dX8_of_78 (by decide) ?_
          refine r_iinc (pc := 79) (L := [some (.ref b0), some (.int l1), some (.int l2), some (.int (l3 ||| 0)), some (.int l4)]) (v := l4 + 1) dX8_of_79 rfl rfl (by decide) ?_
          refine r_goto (pc := 82) (L := [some (.ref b0), some (.int l1), some (.int l2), some (.int (l3 ||| 0)), some (.int (l4 + 1))]) (tgt := 30) dX8_of_82 (by decide) ?_
          exact r_le (L' := [some (.ref b0), some (.int l1), some (.int l2), some (.int (l3 ||| 0)), some (.int (l4 + 1))]) ⟨rfl, ⟨rfl, ⟨rfl, ⟨rfl, ⟨rfl, trivial⟩⟩⟩⟩⟩ K0
        · have K0 := K0.2 q
          refine r_iconst (pc := 69) (v := 1) dX8_of_69 (by decide) ?_
          refine r_iload (pc := 70) dX8_of_70 rfl ?_
          refine r_ishl (pc := 72) dX8_of_72 ?_
          refine r_goto (pc := 73) (tgt := 77) dX8_of_73 (by decide) ?_
          refine r_ior (pc := 77) dX8_of_77 ?_
          refine r_istore_n (pc := 78) dX8_of_78 (by decide) ?_
          refine r_iinc (pc := 79) (L := [some (.ref b0), some (.int l1), some (.int l2), some (.int (l3 ||| (1 <<< (l4 &&& 31)))), some (.int l4)]) (v := l4 + 1) dX8_of_79 rfl rfl (by decide) ?_
          refine r_goto (pc := 82) (L := [some (.ref b0), some (.int l1), some (.int l2), some (.int (l3 ||| (1 <<< (l4 &&& 31)))), some (.int (l4 + 1))]) (tgt := 30) dX8_of_82 (by decide) ?_
          exact r_le (L' := [some (.ref b0), some (.int l1), some (.int l2), some (.int (l3 ||| (1 <<< (l4 &&& 31)))), some (.int (l4 + 1))]) ⟨rfl, ⟨rfl, ⟨rfl, ⟨rfl, ⟨rfl, trivial⟩⟩⟩⟩⟩ K0
set_option maxHeartbeats 2000000 in
theorem v_X7_sum_0 {K : Sh} {x : Cn} {Q : Int32 → Cn → Prop} {b0 : Nat} {l1 : Int32} {l2 : Int32} {b0_3 : Nat} (k_b0 : kk K b0 = some (7, 0)) (g_b0_3 : gr x b0 3 = some b0_3) (k_b0_3 : kk K b0_3 = some (1, 0)) (K0 : (¬ (0 ≤ l1 ∧ l1 < gi x b0_3 0) → (Q (-2) x)) ∧ ((0 ≤ l1 ∧ l1 < gi x b0_3 0) → (((0 ≤ l2 ∧ l2 ≤ 4) → (GI mX7_sum 23 [some (.ref b0), some (.int l1), some (.int l2), some (.int 0), some (.int 0)] [] K x Q)) ∧ (¬ (0 ≤ l2 ∧ l2 ≤ 4) → (Q (-2) x))))) : mSI mX7_sum [.ref b0, .int l1, .int l2] K x Q := by
  refine s_I (by decide) (by simp [Value.category]) (Nat.le_of_ble_eq_true rfl) ?_
  show mGM mX7_sum 0 [some (.ref b0), some (.int l1), some (.int l2), none, none] [] (hp K x) (PI K Q)
  refine r_aload_n (pc := 0) dX7_sum_0 rfl ?_
  refine r_iload_n (pc := 1) dX7_sum_1 rfl ?_
  refine s_VI (pc := 2) mX7_isCarrier (ci := 7) (a := b0) (As := [.int l1]) dX7_sum_2 lk_X7_109 in_X7_isCarrier mo_X7_isCarrier ⟨by decide, rfl⟩ ⟨by decide, by decide⟩ (Nat.le_of_ble_eq_true rfl) k_b0 (sp_X7_isCarrier k_b0 g_b0_3 k_b0_3 ?_)
  refine r_if_eq (pc := 5) (tgt := 15) dX7_sum_5 (by decide) (fun q => ?_) (fun q => ?_)
  · have q := (b2i_z _).mp q
    have K0 := K0.1 q
    refine r_bipush (pc := 15) (v := (-2)) dX7_sum_15 (by decide) ?_
    exact s_iret rfl dX7_sum_17 K0
  · have q := b2i_nz q
    have K0 := K0.2 q
    refine r_iload_n (pc := 8) dX7_sum_8 rfl ?_
    refine s_SI (pc := 9) mX7_isState (As := [.int l2]) dX7_sum_9 lk_X7_160 st_X7_isState mo_X7_isState ⟨by decide, by decide⟩ (Nat.le_of_ble_eq_true rfl) (sp_X7_isState  ?_)
    refine r_if_ne (pc := 12) (tgt := 18) dX7_sum_12 (by decide) (fun q => ?_) (fun q => ?_)
    · have q := b2i_nz q
      have K0 := K0.1 q
      refine r_iconst (pc := 18) (v := 0) dX7_sum_18 (by decide) ?_
      refine r_istore_n (pc := 19) dX7_sum_19 (by decide) ?_
      refine r_iconst (pc := 20) (L := [some (.ref b0), some (.int l1), some (.int l2), some (.int 0), none]) (v := 0) dX7_sum_20 (by decide) ?_
      refine r_istore (pc := 21) dX7_sum_21 (by decide) ?_
      exact r_le (L' := [some (.ref b0), some (.int l1), some (.int l2), some (.int 0), some (.int 0)]) ⟨rfl, ⟨rfl, ⟨rfl, ⟨rfl, ⟨rfl, trivial⟩⟩⟩⟩⟩ K0
    · have q := (b2i_z _).mp q
      have K0 := K0.2 q
      refine r_bipush (pc := 15) (v := (-2)) dX7_sum_15 (by decide) ?_
      exact s_iret rfl dX7_sum_17 K0
set_option maxHeartbeats 2000000 in
theorem v_X7_sum_23 {K : Sh} {x : Cn} {Q : Int32 → Cn → Prop} {b0 : Nat} {l1 : Int32} {l2 : Int32} {l3 : Int32} {l4 : Int32} {b0_2 : Nat} {b0_2_7 : Nat} {n_b0_2_7 : Nat} (k_b0 : kk K b0 = some (7, 0)) (g_b0_2 : gr x b0 2 = some b0_2) (k_b0_2 : kk K b0_2 = some (4, 0)) (g_b0_2_7 : gr x b0_2 7 = some b0_2_7) (k_b0_2_7 : kk K b0_2_7 = some (23, n_b0_2_7)) (K0 : ((gi x b0_2 3) ≤ l4 → (Q l3 x)) ∧ (¬ (gi x b0_2 3) ≤ l4 → (vp_in l4 n_b0_2_7 ∧ (∃ c_3 : Nat, gr x b0_2_7 ((l4 : Int32).toNatClampNeg) = some c_3 ∧ (kk K c_3 = some (5, 0) ∧ ((¬ (gi x c_3 0) = l1 → (GI mX7_sum 23 [some (.ref b0), some (.int l1), some (.int l2), some (.int l3), some (.int (l4 + 1))] [] K x Q)) ∧ ((gi x c_3 0) = l1 → (mSI mX5_bitsThatAre [.ref c_3, .int l2] K x (fun r_8 y_7 => GI mX7_sum 23 [some (.ref b0), some (.int l1), some (.int l2), some (.int (l3 + (nI (cpt r_8)))), some (.int (l4 + 1))] [] K y_7 Q))))))))) : GI mX7_sum 23 [some (.ref b0), some (.int l1), some (.int l2), some (.int l3), some (.int l4)] [] K x Q := by
  show mGM mX7_sum 23 [some (.ref b0), some (.int l1), some (.int l2), some (.int l3), some (.int l4)] [] (hp K x) (PI K Q)
  refine r_iload (pc := 23) dX7_sum_23 rfl ?_
  refine r_aload_n (pc := 25) dX7_sum_25 rfl ?_
  refine s_getR (pc := 26) dX7_sum_26 fl_X7_20 rfl k_b0 g_b0_2 ?_
  refine s_getI (pc := 29) dX7_sum_29 fl_X7_97 rfl k_b0_2 ?_
  refine r_icmp_ge (pc := 32) (tgt := 78) dX7_sum_32 (by decide) (fun q => ?_) (fun q => ?_)
  · have K0 := K0.1 q
    refine r_iload_n (pc := 78) dX7_sum_78 rfl ?_
    exact s_iret rfl dX7_sum_79 K0
  · have K0 := K0.2 q
    refine r_aload_n (pc := 35) dX7_sum_35 rfl ?_
    refine s_getR (pc := 36) dX7_sum_36 fl_X7_20 rfl k_b0 g_b0_2 ?_
    refine s_getR (pc := 39) dX7_sum_39 fl_X7_135 rfl k_b0_2 g_b0_2_7 ?_
    refine r_iload (pc := 42) dX7_sum_42 rfl ?_
    obtain ⟨i_2, K0⟩ := K0
    obtain ⟨c_3, g_4, K0⟩ := K0
    refine s_aald (pc := 44) dX7_sum_44 (by decide) rfl k_b0_2_7 i_2 g_4 ?_
    obtain ⟨e_5, K0⟩ := K0
    refine s_getI (pc := 45) dX7_sum_45 fl_X7_139 rfl e_5 ?_
    refine r_iload_n (pc := 48) dX7_sum_48 rfl ?_
    refine r_icmp_ne (pc := 49) (tgt := 72) dX7_sum_49 (by decide) (fun q => ?_) (fun q => ?_)
    · have K0 := K0.1 q
      refine r_iinc (pc := 72) (v := l4 + 1) dX7_sum_72 rfl rfl (by decide) ?_
      refine r_goto (pc := 75) (L := [some (.ref b0), some (.int l1), some (.int l2), some (.int l3), some (.int (l4 + 1))]) (tgt := 23) dX7_sum_75 (by decide) ?_
      exact r_le (L' := [some (.ref b0), some (.int l1), some (.int l2), some (.int l3), some (.int (l4 + 1))]) ⟨rfl, ⟨rfl, ⟨rfl, ⟨rfl, ⟨rfl, trivial⟩⟩⟩⟩⟩ K0
    · have K0 := K0.2 q
      refine r_iload_n (pc := 52) dX7_sum_52 rfl ?_
      refine r_aload_n (pc := 53) dX7_sum_53 rfl ?_
      refine s_getR (pc := 54) dX7_sum_54 fl_X7_20 rfl k_b0 g_b0_2 ?_
      refine s_getR (pc := 57) dX7_sum_57 fl_X7_135 rfl k_b0_2 g_b0_2_7 ?_
      refine r_iload (pc := 60) dX7_sum_60 rfl ?_
      refine s_aald (pc := 62) dX7_sum_62 (by decide) rfl k_b0_2_7 i_2 g_4 ?_
      refine r_iload_n (pc := 63) dX7_sum_63 rfl ?_
      refine s_VI (pc := 64) mX5_bitsThatAre (ci := 5) (a := c_3) (As := [.int l2]) dX7_sum_64 lk_X7_163 in_X5_bitsThatAre mo_X5_bitsThatAre ⟨by decide, rfl⟩ ⟨by decide, by decide⟩ (Nat.le_of_ble_eq_true rfl) e_5 (mSI_mono K0 (fun r_8 y_7 K0 => ?_))
      refine s_SI (pc := 67) mJ6_bitCount_0f7a4 (As := [.int r_8]) dX7_sum_67 lk_X7_255 st_J6_bitCount_0f7a4 mo_J6_bitCount_0f7a4 ⟨by decide, by decide⟩ (Nat.le_of_ble_eq_true rfl) (sp_bc  ?_)
      refine r_iadd (pc := 70) dX7_sum_70 ?_
      refine r_istore_n (pc := 71) dX7_sum_71 (by decide) ?_
      refine r_iinc (pc := 72) (L := [some (.ref b0), some (.int l1), some (.int l2), some (.int (l3 + (nI (cpt r_8)))), some (.int l4)]) (v := l4 + 1) dX7_sum_72 rfl rfl (by decide) ?_
      refine r_goto (pc := 75) (L := [some (.ref b0), some (.int l1), some (.int l2), some (.int (l3 + (nI (cpt r_8)))), some (.int (l4 + 1))]) (tgt := 23) dX7_sum_75 (by decide) ?_
      exact r_le (L' := [some (.ref b0), some (.int l1), some (.int l2), some (.int (l3 + (nI (cpt r_8)))), some (.int (l4 + 1))]) ⟨rfl, ⟨rfl, ⟨rfl, ⟨rfl, ⟨rfl, trivial⟩⟩⟩⟩⟩ K0
set_option maxHeartbeats 2000000 in
theorem v_X8_sum_0 {K : Sh} {x : Cn} {Q : Int32 → Cn → Prop} {b0 : Nat} {l1 : Int32} {l2 : Int32} {b0_1 : Nat} {n_b0_1 : Nat} (k_b0 : kk K b0 = some (8, 0)) (g_b0_1 : gr x b0 1 = some b0_1) (k_b0_1 : kk K b0_1 = some (20, n_b0_1)) (K0 : vp_in 1 n_b0_1 ∧ ((¬ (0 ≤ l1 ∧ l1 ≤ gi x b0_1 1 - 1) → (Q (-2) x)) ∧ ((0 ≤ l1 ∧ l1 ≤ gi x b0_1 1 - 1) → (((0 ≤ l2 ∧ l2 ≤ 4) → (GI mX8_sum 28 [some (.ref b0), some (.int l1), some (.int l2), some (.int 0), some (.int 0)] [] K x Q)) ∧ (¬ (0 ≤ l2 ∧ l2 ≤ 4) → (Q (-2) x)))))) : mSI mX8_sum [.ref b0, .int l1, .int l2] K x Q := by
  refine s_I (by decide) (by simp [Value.category]) (Nat.le_of_ble_eq_true rfl) ?_
  show mGM mX8_sum 0 [some (.ref b0), some (.int l1), some (.int l2), none, none] [] (hp K x) (PI K Q)
  refine r_aload_n (pc := 0) dX8_sum_0 rfl ?_
  refine r_iload_n (pc := 1) dX8_sum_1 rfl ?_
  obtain ⟨i_1, K0⟩ := K0
  refine s_VI (pc := 2) mX8_isCarrier (ci := 8) (a := b0) (As := [.int l1]) dX8_sum_2 lk_X8_265 in_X8_isCarrier mo_X8_isCarrier ⟨by decide, rfl⟩ ⟨by decide, by decide⟩ (Nat.le_of_ble_eq_true rfl) k_b0 (sp_X8_isCarrier k_b0 g_b0_1 k_b0_1 i_1 ?_)
  refine r_if_eq (pc := 5) (tgt := 20) dX8_sum_5 (by decide) (fun q => ?_) (fun q => ?_)
  · have q := (b2i_z _).mp q
    have K0 := K0.1 q
    refine r_bipush (pc := 20) (v := (-2)) dX8_sum_20 (by decide) ?_
    exact s_iret rfl dX8_sum_22 K0
  · have q := b2i_nz q
    have K0 := K0.2 q
    refine r_iload_n (pc := 8) dX8_sum_8 rfl ?_
    refine r_i2l (pc := 9) dX8_sum_9 ?_
    refine r_lconst (pc := 10) (v := 0) dX8_sum_10 (by decide) ?_
    refine r_ldc2 (pc := 11) (v := 4) dX8_sum_11 cn_X8_276 ?_
    refine s_SI (pc := 14) mX8_in (As := [.long ((l2 : Int32).toInt64), .long 0, .long 4]) dX8_sum_14 lk_X8_45 st_X8_in mo_X8_in ⟨by decide, by decide⟩ (Nat.le_of_ble_eq_true rfl) (sq_X8_in (v := l2) (lo := 0) (hi := 4) rfl (by decide) (by decide) ?_)
    refine r_if_ne (pc := 17) (tgt := 23) dX8_sum_17 (by decide) (fun q => ?_) (fun q => ?_)
    · have q := b2i_nz q
      have K0 := K0.1 q
      refine r_iconst (pc := 23) (v := 0) dX8_sum_23 (by decide) ?_
      refine r_istore_n (pc := 24) dX8_sum_24 (by decide) ?_
      refine r_iconst (pc := 25) (L := [some (.ref b0), some (.int l1), some (.int l2), some (.int 0), none]) (v := 0) dX8_sum_25 (by decide) ?_
      refine r_istore (pc := 26) dX8_sum_26 (by decide) ?_
      exact r_le (L' := [some (.ref b0), some (.int l1), some (.int l2), some (.int 0), some (.int 0)]) ⟨rfl, ⟨rfl, ⟨rfl, ⟨rfl, ⟨rfl, trivial⟩⟩⟩⟩⟩ K0
    · have q := (b2i_z _).mp q
      have K0 := K0.2 q
      refine r_bipush (pc := 20) (v := (-2)) dX8_sum_20 (by decide) ?_
      exact s_iret rfl dX8_sum_22 K0
set_option maxHeartbeats 2000000 in
theorem v_X8_sum_28 {K : Sh} {x : Cn} {Q : Int32 → Cn → Prop} {b0 : Nat} {l1 : Int32} {l2 : Int32} {l3 : Int32} {l4 : Int32} {b0_1 : Nat} {n_b0_1 : Nat} {b0_3 : Nat} {n_b0_3 : Nat} (k_b0 : kk K b0 = some (8, 0)) (g_b0_1 : gr x b0 1 = some b0_1) (k_b0_1 : kk K b0_1 = some (20, n_b0_1)) (g_b0_3 : gr x b0 3 = some b0_3) (k_b0_3 : kk K b0_3 = some (20, n_b0_3)) (K0 : vp_in 2 n_b0_1 ∧ (((gi x b0_1 2) ≤ l4 → (Q l3 x)) ∧ (¬ (gi x b0_1 2) ≤ l4 → ((l24 l4 n_b0_3) ∧ ((¬ (so (gi x b0_3) (l4 : Int32).toNatClampNeg 0) = l1 → (GI mX8_sum 28 [some (.ref b0), some (.int l1), some (.int l2), some (.int (l3 + 0)), some (.int (l4 + 1))] [] K x Q)) ∧ ((so (gi x b0_3) (l4 : Int32).toNatClampNeg 0) = l1 → ((l12 (7 + l2)) ∧ (∀ r_6 : Int32, r_6 = (l3 + (nI (cpt (so (gi x b0_3) (l4 : Int32).toNatClampNeg ((7 + l2) : Int32).toNatClampNeg)))) → (GI mX8_sum 28 [some (.ref b0), some (.int l1), some (.int l2), some (.int r_6), some (.int (l4 + 1))] [] K x Q))))))))) : GI mX8_sum 28 [some (.ref b0), some (.int l1), some (.int l2), some (.int l3), some (.int l4)] [] K x Q := by
  show mGM mX8_sum 28 [some (.ref b0), some (.int l1), some (.int l2), some (.int l3), some (.int l4)] [] (hp K x) (PI K Q)
  refine r_iload (pc := 28) dX8_sum_28 rfl ?_
  refine r_aload_n (pc := 30) dX8_sum_30 rfl ?_
  refine s_getR (pc := 31) dX8_sum_31 fl_X8_9 rfl k_b0 g_b0_1 ?_
  refine r_iconst (pc := 34) (v := 2) dX8_sum_34 (by decide) ?_
  obtain ⟨i_1, K0⟩ := K0
  refine s_iald (pc := 35) dX8_sum_35 k_b0_1 i_1 ?_
  refine r_icmp_ge (pc := 36) (tgt := 76) dX8_sum_36 (by decide) (fun q => ?_) (fun q => ?_)
  · have K0 := K0.1 q
    refine r_iload_n (pc := 76) dX8_sum_76 rfl ?_
    exact s_iret rfl dX8_sum_77 K0
  · have K0 := K0.2 q
    refine r_iload_n (pc := 39) dX8_sum_39 rfl ?_
    refine r_aload_n (pc := 40) dX8_sum_40 rfl ?_
    refine r_iload (pc := 41) dX8_sum_41 rfl ?_
    refine r_iconst (pc := 43) (v := 0) dX8_sum_43 (by decide) ?_
    obtain ⟨p_3, K0⟩ := K0
    refine s_VI (pc := 44) mX8_one (ci := 8) (a := b0) (As := [.int l4, .int 0]) dX8_sum_44 lk_X8_67 in_X8_one mo_X8_one ⟨by decide, rfl⟩ ⟨by decide, by decide⟩ (Nat.le_of_ble_eq_true rfl) k_b0 (sr_X8_one k_b0 g_b0_3 k_b0_3 p_3 ⟨by decide, by decide⟩ ?_)
    refine r_iload_n (pc := 47) dX8_sum_47 rfl ?_
    refine r_icmp_ne (pc := 48) (tgt := 67) dX8_sum_48 (by decide) (fun q => ?_) (fun q => ?_)
    · have K0 := K0.1 q
      refine r_iconst (pc := 67) (v := 0) dX8_sum_67 (by decide) ?_
      refine r_iadd (pc := 68) dX8_sum_68 ?_
      refine r_istore_n (pc := 69) dX8_sum_69 (by decide) ?_
      refine r_iinc (pc := 70) (L := [some (.ref b0), some (.int l1), some (.int l2), some (.int (l3 + 0)), some (.int l4)]) (v := l4 + 1) dX8_sum_70 rfl rfl (by decide) ?_
      refine r_goto (pc := 73) (L := [some (.ref b0), some (.int l1), some (.int l2), some (.int (l3 + 0)), some (.int (l4 + 1))]) (tgt := 28) dX8_sum_73 (by decide) ?_
      exact r_le (L' := [some (.ref b0), some (.int l1), some (.int l2), some (.int (l3 + 0)), some (.int (l4 + 1))]) ⟨rfl, ⟨rfl, ⟨rfl, ⟨rfl, ⟨rfl, trivial⟩⟩⟩⟩⟩ K0
    · have K0 := K0.2 q
      refine r_aload_n (pc := 51) dX8_sum_51 rfl ?_
      refine r_iload (pc := 52) dX8_sum_52 rfl ?_
      refine r_bipush (pc := 54) (v := 7) dX8_sum_54 (by decide) ?_
      refine r_iload_n (pc := 56) dX8_sum_56 rfl ?_
      refine r_iadd (pc := 57) dX8_sum_57 ?_
      obtain ⟨p_5, K0⟩ := K0
      refine s_VI (pc := 58) mX8_one (ci := 8) (a := b0) (As := [.int l4, .int (7 + l2)]) dX8_sum_58 lk_X8_67 in_X8_one mo_X8_one ⟨by decide, rfl⟩ ⟨by decide, by decide⟩ (Nat.le_of_ble_eq_true rfl) k_b0 (sr_X8_one k_b0 g_b0_3 k_b0_3 p_3 p_5 ?_)
      refine s_SI (pc := 61) mX8_bits (As := [.int (so (gi x b0_3) (l4 : Int32).toNatClampNeg ((7 + l2) : Int32).toNatClampNeg)]) dX8_sum_61 lk_X8_296 st_X8_bits mo_X8_bits ⟨by decide, by decide⟩ (Nat.le_of_ble_eq_true rfl) (sp_X8_bits  ?_)
      refine r_goto (pc := 64) (tgt := 68) dX8_sum_64 (by decide) ?_
      refine r_iadd (pc := 68) dX8_sum_68 ?_
      obtain ⟨r_6, w_7⟩ : ∃ z : Int32, z = (l3 + (nI (cpt (so (gi x b0_3) (l4 : Int32).toNatClampNeg ((7 + l2) : Int32).toNatClampNeg)))) := ⟨_, rfl⟩
      rw [← w_7]
      have K0 := K0 r_6 w_7
      refine r_istore_n (pc := 69) dX8_sum_69 (by decide) ?_
      refine r_iinc (pc := 70) (L := [some (.ref b0), some (.int l1), some (.int l2), some (.int r_6), some (.int l4)]) (v := l4 + 1) dX8_sum_70 rfl rfl (by decide) ?_
      refine r_goto (pc := 73) (L := [some (.ref b0), some (.int l1), some (.int l2), some (.int r_6), some (.int (l4 + 1))]) (tgt := 28) dX8_sum_73 (by decide) ?_
      exact r_le (L' := [some (.ref b0), some (.int l1), some (.int l2), some (.int r_6), some (.int (l4 + 1))]) ⟨rfl, ⟨rfl, ⟨rfl, ⟨rfl, ⟨rfl, trivial⟩⟩⟩⟩⟩ K0
set_option maxHeartbeats 2000000 in
theorem v_X7_longest_0 {K : Sh} {x : Cn} {Q : Int32 → Cn → Prop} {b0 : Nat} {l1 : Int32} {b0_2 : Nat} {b0_2_7 : Nat} {n_b0_2_7 : Nat} (k_b0 : kk K b0 = some (7, 0)) (g_b0_2 : gr x b0 2 = some b0_2) (k_b0_2 : kk K b0_2 = some (4, 0)) (g_b0_2_7 : gr x b0_2 7 = some b0_2_7) (k_b0_2_7 : kk K b0_2_7 = some (23, n_b0_2_7)) (K0 : ((0 ≤ l1 ∧ l1 < gi x b0_2 3) → (vp_in l1 n_b0_2_7 ∧ (∃ c_3 : Nat, gr x b0_2_7 ((l1 : Int32).toNatClampNeg) = some c_3 ∧ (kk K c_3 = some (5, 0) ∧ (GI mX7_longest 32 [some (.ref b0), some (.int l1), some (.int (gi x c_3 9)), some (.int 0), some (.int 0), some (.int 0)] [] K x Q))))) ∧ (¬ (0 ≤ l1 ∧ l1 < gi x b0_2 3) → (Q (-2) x))) : mSI mX7_longest [.ref b0, .int l1] K x Q := by
  refine s_I (by decide) (by simp [Value.category]) (Nat.le_of_ble_eq_true rfl) ?_
  show mGM mX7_longest 0 [some (.ref b0), some (.int l1), none, none, none, none] [] (hp K x) (PI K Q)
  refine r_aload_n (pc := 0) dX7_longest_0 rfl ?_
  refine r_iload_n (pc := 1) dX7_longest_1 rfl ?_
  refine s_VI (pc := 2) mX7_isSeries (ci := 7) (a := b0) (As := [.int l1]) dX7_longest_2 lk_X7_132 in_X7_isSeries mo_X7_isSeries ⟨by decide, rfl⟩ ⟨by decide, by decide⟩ (Nat.le_of_ble_eq_true rfl) k_b0 (sp_X7_isSeries k_b0 g_b0_2 k_b0_2 ?_)
  refine r_if_ne (pc := 5) (tgt := 11) dX7_longest_5 (by decide) (fun q => ?_) (fun q => ?_)
  · have q := b2i_nz q
    have K0 := K0.1 q
    refine r_aload_n (pc := 11) dX7_longest_11 rfl ?_
    refine s_getR (pc := 12) dX7_longest_12 fl_X7_20 rfl k_b0 g_b0_2 ?_
    refine s_getR (pc := 15) dX7_longest_15 fl_X7_135 rfl k_b0_2 g_b0_2_7 ?_
    refine r_iload_n (pc := 18) dX7_longest_18 rfl ?_
    obtain ⟨i_2, K0⟩ := K0
    obtain ⟨c_3, g_4, K0⟩ := K0
    refine s_aald (pc := 19) dX7_longest_19 (by decide) rfl k_b0_2_7 i_2 g_4 ?_
    obtain ⟨e_5, K0⟩ := K0
    refine s_getI (pc := 20) dX7_longest_20 fl_X7_266 rfl e_5 ?_
    refine r_istore_n (pc := 23) dX7_longest_23 (by decide) ?_
    refine r_iconst (pc := 24) (L := [some (.ref b0), some (.int l1), some (.int (gi x c_3 9)), none, none, none]) (v := 0) dX7_longest_24 (by decide) ?_
    refine r_istore_n (pc := 25) dX7_longest_25 (by decide) ?_
    refine r_iconst (pc := 26) (L := [some (.ref b0), some (.int l1), some (.int (gi x c_3 9)), some (.int 0), none, none]) (v := 0) dX7_longest_26 (by decide) ?_
    refine r_istore (pc := 27) dX7_longest_27 (by decide) ?_
    refine r_iconst (pc := 29) (L := [some (.ref b0), some (.int l1), some (.int (gi x c_3 9)), some (.int 0), some (.int 0), none]) (v := 0) dX7_longest_29 (by decide) ?_
    refine r_istore (pc := 30) dX7_longest_30 (by decide) ?_
    exact r_le (L' := [some (.ref b0), some (.int l1), some (.int (gi x c_3 9)), some (.int 0), some (.int 0), some (.int 0)]) ⟨rfl, ⟨rfl, ⟨rfl, ⟨rfl, ⟨rfl, ⟨rfl, trivial⟩⟩⟩⟩⟩⟩ K0
  · have q := (b2i_z _).mp q
    have K0 := K0.2 q
    refine r_bipush (pc := 8) (v := (-2)) dX7_longest_8 (by decide) ?_
    exact s_iret rfl dX7_longest_10 K0
set_option maxHeartbeats 2000000 in
theorem v_X7_longest_32 {K : Sh} {x : Cn} {Q : Int32 → Cn → Prop} {b0 : Nat} {l1 : Int32} {l2 : Int32} {l3 : Int32} {l4 : Int32} {l5 : Int32} {b0_2 : Nat} (k_b0 : kk K b0 = some (7, 0)) (g_b0_2 : gr x b0 2 = some b0_2) (k_b0_2 : kk K b0_2 = some (4, 0)) (K0 : ((gi x b0_2 0) ≤ l5 → (Q l3 x)) ∧ (¬ (gi x b0_2 0) ≤ l5 → ((¬ (f_bit l2 l5) → (GI mX7_longest 32 [some (.ref b0), some (.int l1), some (.int l2), some (.int (if l3 < 0 then 0 else l3)), some (.int 0), some (.int (l5 + 1))] [] K x Q)) ∧ ((f_bit l2 l5) → (GI mX7_longest 32 [some (.ref b0), some (.int l1), some (.int l2), some (.int (if l3 < (l4 + 1) then (l4 + 1) else l3)), some (.int (l4 + 1)), some (.int (l5 + 1))] [] K x Q))))) : GI mX7_longest 32 [some (.ref b0), some (.int l1), some (.int l2), some (.int l3), some (.int l4), some (.int l5)] [] K x Q := by
  show mGM mX7_longest 32 [some (.ref b0), some (.int l1), some (.int l2), some (.int l3), some (.int l4), some (.int l5)] [] (hp K x) (PI K Q)
  refine r_iload (pc := 32) dX7_longest_32 rfl ?_
  refine r_aload_n (pc := 34) dX7_longest_34 rfl ?_
  refine s_getR (pc := 35) dX7_longest_35 fl_X7_20 rfl k_b0 g_b0_2 ?_
  refine s_getI (pc := 38) dX7_longest_38 fl_X7_91 rfl k_b0_2 ?_
  refine r_icmp_ge (pc := 41) (tgt := 76) dX7_longest_41 (by decide) (fun q => ?_) (fun q => ?_)
  · have K0 := K0.1 q
    refine r_iload_n (pc := 76) dX7_longest_76 rfl ?_
    exact s_iret rfl dX7_longest_77 K0
  · have K0 := K0.2 q
    refine r_iload_n (pc := 44) dX7_longest_44 rfl ?_
    refine r_iload (pc := 45) dX7_longest_45 rfl ?_
    refine s_SI (pc := 47) mX7_hasBit (As := [.int l2, .int l5]) dX7_longest_47 lk_X7_269 st_X7_hasBit mo_X7_hasBit ⟨by decide, by decide⟩ (Nat.le_of_ble_eq_true rfl) (sp_X7_hasBit  ?_)
    refine r_if_eq (pc := 50) (tgt := 60) dX7_longest_50 (by decide) (fun q => ?_) (fun q => ?_)
    · have q := (b2i_z _).mp q
      have K0 := K0.1 q
      refine r_iconst (pc := 60) (v := 0) dX7_longest_60 (by decide) ?_
      refine r_istore (pc := 61) dX7_longest_61 (by decide) ?_
      refine r_iload_n (pc := 63) (L := [some (.ref b0), some (.int l1), some (.int l2), some (.int l3), some (.int 0), some (.int l5)]) dX7_longest_63 rfl ?_
      refine r_iload (pc := 64) dX7_longest_64 rfl ?_
      refine r_mmax (pc := 66) dX7_longest_66 lk_X7_226 mw_max ⟨by decide, by decide⟩ (Nat.le_of_ble_eq_true rfl) ?_
      refine r_istore_n (pc := 69) dX7_longest_69 (by decide) ?_
      refine r_iinc (pc := 70) (L := [some (.ref b0), some (.int l1), some (.int l2), some (.int (if l3 < 0 then 0 else l3)), some (.int 0), some (.int l5)]) (v := l5 + 1) dX7_longest_70 rfl rfl (by decide) ?_
      refine r_goto (pc := 73) (L := [some (.ref b0), some (.int l1), some (.int l2), some (.int (if l3 < 0 then 0 else l3)), some (.int 0), some (.int (l5 + 1))]) (tgt := 32) dX7_longest_73 (by decide) ?_
      exact r_le (L' := [some (.ref b0), some (.int l1), some (.int l2), some (.int (if l3 < 0 then 0 else l3)), some (.int 0), some (.int (l5 + 1))]) ⟨rfl, ⟨rfl, ⟨rfl, ⟨rfl, ⟨rfl, ⟨rfl, trivial⟩⟩⟩⟩⟩⟩ K0
    · have q := b2i_nz q
      have K0 := K0.2 q
      refine r_iload (pc := 53) dX7_longest_53 rfl ?_
      refine r_iconst (pc := 55) (v := 1) dX7_longest_55 (by decide) ?_
      refine r_iadd (pc := 56) dX7_longest_56 ?_
      refine r_goto (pc := 57) (tgt := 61) dX7_longest_57 (by decide) ?_
      refine r_istore (pc := 61) dX7_longest_61 (by decide) ?_
      refine r_iload_n (pc := 63) (L := [some (.ref b0), some (.int l1), some (.int l2), some (.int l3), some (.int (l4 + 1)), some (.int l5)]) dX7_longest_63 rfl ?_
      refine r_iload (pc := 64) dX7_longest_64 rfl ?_
      refine r_mmax (pc := 66) dX7_longest_66 lk_X7_226 mw_max ⟨by decide, by decide⟩ (Nat.le_of_ble_eq_true rfl) ?_
      refine r_istore_n (pc := 69) dX7_longest_69 (by decide) ?_
      refine r_iinc (pc := 70) (L := [some (.ref b0), some (.int l1), some (.int l2), some (.int (if l3 < (l4 + 1) then (l4 + 1) else l3)), some (.int (l4 + 1)), some (.int l5)]) (v := l5 + 1) dX7_longest_70 rfl rfl (by decide) ?_
      refine r_goto (pc := 73) (L := [some (.ref b0), some (.int l1), some (.int l2), some (.int (if l3 < (l4 + 1) then (l4 + 1) else l3)), some (.int (l4 + 1)), some (.int (l5 + 1))]) (tgt := 32) dX7_longest_73 (by decide) ?_
      exact r_le (L' := [some (.ref b0), some (.int l1), some (.int l2), some (.int (if l3 < (l4 + 1) then (l4 + 1) else l3)), some (.int (l4 + 1)), some (.int (l5 + 1))]) ⟨rfl, ⟨rfl, ⟨rfl, ⟨rfl, ⟨rfl, ⟨rfl, trivial⟩⟩⟩⟩⟩⟩ K0
set_option maxHeartbeats 2000000 in
theorem v_X8_longest_0 {K : Sh} {x : Cn} {Q : Int32 → Cn → Prop} {b0 : Nat} {l1 : Int32} {b0_1 : Nat} {n_b0_1 : Nat} (k_b0 : kk K b0 = some (8, 0)) (g_b0_1 : gr x b0 1 = some b0_1) (k_b0_1 : kk K b0_1 = some (20, n_b0_1)) (K0 : vp_in 2 n_b0_1 ∧ (((0 ≤ l1 ∧ l1 ≤ gi x b0_1 2 - 1) → (GI mX8_longest 18 [some (.ref b0), some (.int l1), some (.int 0), some (.int 0), some (.int 0)] [] K x Q)) ∧ (¬ (0 ≤ l1 ∧ l1 ≤ gi x b0_1 2 - 1) → (Q (-2) x)))) : mSI mX8_longest [.ref b0, .int l1] K x Q := by
  refine s_I (by decide) (by simp [Value.category]) (Nat.le_of_ble_eq_true rfl) ?_
  show mGM mX8_longest 0 [some (.ref b0), some (.int l1), none, none, none] [] (hp K x) (PI K Q)
  refine r_aload_n (pc := 0) dX8_longest_0 rfl ?_
  refine r_iload_n (pc := 1) dX8_longest_1 rfl ?_
  obtain ⟨i_1, K0⟩ := K0
  refine s_VI (pc := 2) mX8_isSeries (ci := 8) (a := b0) (As := [.int l1]) dX8_longest_2 lk_X8_273 in_X8_isSeries mo_X8_isSeries ⟨by decide, rfl⟩ ⟨by decide, by decide⟩ (Nat.le_of_ble_eq_true rfl) k_b0 (sp_X8_isSeries k_b0 g_b0_1 k_b0_1 i_1 ?_)
  refine r_if_ne (pc := 5) (tgt := 11) dX8_longest_5 (by decide) (fun q => ?_) (fun q => ?_)
  · have q := b2i_nz q
    have K0 := K0.1 q
    refine r_iconst (pc := 11) (v := 0) dX8_longest_11 (by decide) ?_
    refine r_istore_n (pc := 12) dX8_longest_12 (by decide) ?_
    refine r_iconst (pc := 13) (L := [some (.ref b0), some (.int l1), some (.int 0), none, none]) (v := 0) dX8_longest_13 (by decide) ?_
    refine r_istore_n (pc := 14) dX8_longest_14 (by decide) ?_
    refine r_iconst (pc := 15) (L := [some (.ref b0), some (.int l1), some (.int 0), some (.int 0), none]) (v := 0) dX8_longest_15 (by decide) ?_
    refine r_istore (pc := 16) dX8_longest_16 (by decide) ?_
    exact r_le (L' := [some (.ref b0), some (.int l1), some (.int 0), some (.int 0), some (.int 0)]) ⟨rfl, ⟨rfl, ⟨rfl, ⟨rfl, ⟨rfl, trivial⟩⟩⟩⟩⟩ K0
  · have q := (b2i_z _).mp q
    have K0 := K0.2 q
    refine r_bipush (pc := 8) (v := (-2)) dX8_longest_8 (by decide) ?_
    exact s_iret rfl dX8_longest_10 K0
set_option maxHeartbeats 2000000 in
theorem v_X8_longest_18 {K : Sh} {x : Cn} {Q : Int32 → Cn → Prop} {b0 : Nat} {l1 : Int32} {l2 : Int32} {l3 : Int32} {l4 : Int32} {b0_1 : Nat} {n_b0_1 : Nat} {b0_3 : Nat} {n_b0_3 : Nat} (k_b0 : kk K b0 = some (8, 0)) (g_b0_1 : gr x b0 1 = some b0_1) (k_b0_1 : kk K b0_1 = some (20, n_b0_1)) (g_b0_3 : gr x b0 3 = some b0_3) (k_b0_3 : kk K b0_3 = some (20, n_b0_3)) (K0 : vp_in 0 n_b0_1 ∧ (((gi x b0_1 0) ≤ l4 → (Q l2 x)) ∧ (¬ (gi x b0_1 0) ≤ l4 → ((l24 l1 n_b0_3) ∧ ((¬ (f_has (so (gi x b0_3) (l1 : Int32).toNatClampNeg 9) l4) → (GI mX8_longest 18 [some (.ref b0), some (.int l1), some (.int (if l2 < 0 then 0 else l2)), some (.int 0), some (.int (l4 + 1))] [] K x Q)) ∧ ((f_has (so (gi x b0_3) (l1 : Int32).toNatClampNeg 9) l4) → (GI mX8_longest 18 [some (.ref b0), some (.int l1), some (.int (if l2 < (l3 + 1) then (l3 + 1) else l2)), some (.int (l3 + 1)), some (.int (l4 + 1))] [] K x Q))))))) : GI mX8_longest 18 [some (.ref b0), some (.int l1), some (.int l2), some (.int l3), some (.int l4)] [] K x Q := by
  show mGM mX8_longest 18 [some (.ref b0), some (.int l1), some (.int l2), some (.int l3), some (.int l4)] [] (hp K x) (PI K Q)
  refine r_iload (pc := 18) dX8_longest_18 rfl ?_
  refine r_aload_n (pc := 20) dX8_longest_20 rfl ?_
  refine s_getR (pc := 21) dX8_longest_21 fl_X8_9 rfl k_b0 g_b0_1 ?_
  refine r_iconst (pc := 24) (v := 0) dX8_longest_24 (by decide) ?_
  obtain ⟨i_1, K0⟩ := K0
  refine s_iald (pc := 25) dX8_longest_25 k_b0_1 i_1 ?_
  refine r_icmp_ge (pc := 26) (tgt := 64) dX8_longest_26 (by decide) (fun q => ?_) (fun q => ?_)
  · have K0 := K0.1 q
    refine r_iload_n (pc := 64) dX8_longest_64 rfl ?_
    exact s_iret rfl dX8_longest_65 K0
  · have K0 := K0.2 q
    refine r_aload_n (pc := 29) dX8_longest_29 rfl ?_
    refine r_iload_n (pc := 30) dX8_longest_30 rfl ?_
    refine r_bipush (pc := 31) (v := 9) dX8_longest_31 (by decide) ?_
    obtain ⟨p_3, K0⟩ := K0
    refine s_VI (pc := 33) mX8_one (ci := 8) (a := b0) (As := [.int l1, .int 9]) dX8_longest_33 lk_X8_67 in_X8_one mo_X8_one ⟨by decide, rfl⟩ ⟨by decide, by decide⟩ (Nat.le_of_ble_eq_true rfl) k_b0 (sr_X8_one k_b0 g_b0_3 k_b0_3 p_3 ⟨by decide, by decide⟩ ?_)
    refine r_iload (pc := 36) dX8_longest_36 rfl ?_
    refine s_SI (pc := 38) mX8_has (As := [.int (so (gi x b0_3) (l1 : Int32).toNatClampNeg 9), .int l4]) dX8_longest_38 lk_X8_75 st_X8_has mo_X8_has ⟨by decide, by decide⟩ (Nat.le_of_ble_eq_true rfl) (sp_X8_has  ?_)
    refine r_if_eq (pc := 41) (tgt := 50) dX8_longest_41 (by decide) (fun q => ?_) (fun q => ?_)
    · have q := (b2i_z _).mp q
      have K0 := K0.1 q
      refine r_iconst (pc := 50) (v := 0) dX8_longest_50 (by decide) ?_
      refine r_istore_n (pc := 51) dX8_longest_51 (by decide) ?_
      refine r_iload_n (pc := 52) (L := [some (.ref b0), some (.int l1), some (.int l2), some (.int 0), some (.int l4)]) dX8_longest_52 rfl ?_
      refine r_iload_n (pc := 53) dX8_longest_53 rfl ?_
      refine r_mmax (pc := 54) dX8_longest_54 lk_X8_293 mw_max ⟨by decide, by decide⟩ (Nat.le_of_ble_eq_true rfl) ?_
      refine r_istore_n (pc := 57) dX8_longest_57 (by decide) ?_
      refine r_iinc (pc := 58) (L := [some (.ref b0), some (.int l1), some (.int (if l2 < 0 then 0 else l2)), some (.int 0), some (.int l4)]) (v := l4 + 1) dX8_longest_58 rfl rfl (by decide) ?_
      refine r_goto (pc := 61) (L := [some (.ref b0), some (.int l1), some (.int (if l2 < 0 then 0 else l2)), some (.int 0), some (.int (l4 + 1))]) (tgt := 18) dX8_longest_61 (by decide) ?_
      exact r_le (L' := [some (.ref b0), some (.int l1), some (.int (if l2 < 0 then 0 else l2)), some (.int 0), some (.int (l4 + 1))]) ⟨rfl, ⟨rfl, ⟨rfl, ⟨rfl, ⟨rfl, trivial⟩⟩⟩⟩⟩ K0
    · have q := b2i_nz q
      have K0 := K0.2 q
      refine r_iload_n (pc := 44) dX8_longest_44 rfl ?_
      refine r_iconst (pc := 45) (v := 1) dX8_longest_45 (by decide) ?_
      refine r_iadd (pc := 46) dX8_longest_46 ?_
      refine r_goto (pc := 47) (tgt := 51) dX8_longest_47 (by decide) ?_
      refine r_istore_n (pc := 51) dX8_longest_51 (by decide) ?_
      refine r_iload_n (pc := 52) (L := [some (.ref b0), some (.int l1), some (.int l2), some (.int (l3 + 1)), some (.int l4)]) dX8_longest_52 rfl ?_
      refine r_iload_n (pc := 53) dX8_longest_53 rfl ?_
      refine r_mmax (pc := 54) dX8_longest_54 lk_X8_293 mw_max ⟨by decide, by decide⟩ (Nat.le_of_ble_eq_true rfl) ?_
      refine r_istore_n (pc := 57) dX8_longest_57 (by decide) ?_
      refine r_iinc (pc := 58) (L := [some (.ref b0), some (.int l1), some (.int (if l2 < (l3 + 1) then (l3 + 1) else l2)), some (.int (l3 + 1)), some (.int l4)]) (v := l4 + 1) dX8_longest_58 rfl rfl (by decide) ?_
      refine r_goto (pc := 61) (L := [some (.ref b0), some (.int l1), some (.int (if l2 < (l3 + 1) then (l3 + 1) else l2)), some (.int (l3 + 1)), some (.int (l4 + 1))]) (tgt := 18) dX8_longest_61 (by decide) ?_
      exact r_le (L' := [some (.ref b0), some (.int l1), some (.int (if l2 < (l3 + 1) then (l3 + 1) else l2)), some (.int (l3 + 1)), some (.int (l4 + 1))]) ⟨rfl, ⟨rfl, ⟨rfl, ⟨rfl, ⟨rfl, trivial⟩⟩⟩⟩⟩ K0
set_option maxHeartbeats 2000000 in
theorem v_X7_best_0 {K : Sh} {x : Cn} {Q : Int32 → Cn → Prop} {b0 : Nat} {l1 : Int32} {b0_2 : Nat} (k_b0 : kk K b0 = some (7, 0)) (g_b0_2 : gr x b0 2 = some b0_2) (k_b0_2 : kk K b0_2 = some (4, 0)) (K0 : (¬ (0 < gi x b0_2 0) → (Q (-2) x)) ∧ ((0 < gi x b0_2 0) → ((0 ≤ l1 → (GI mX7_best 16 [some (.ref b0), some (.int l1), some (.int 0), none, none] [] K x Q)) ∧ (¬ 0 ≤ l1 → (Q (-2) x))))) : mSI mX7_best [.ref b0, .int l1] K x Q := by
  refine s_I (by decide) (by simp [Value.category]) (Nat.le_of_ble_eq_true rfl) ?_
  show mGM mX7_best 0 [some (.ref b0), some (.int l1), none, none, none] [] (hp K x) (PI K Q)
  refine r_aload_n (pc := 0) dX7_best_0 rfl ?_
  refine s_VI (pc := 1) mX7_hasText (ci := 7) (a := b0) (As := []) dX7_best_1 lk_X7_121 in_X7_hasText mo_X7_hasText ⟨by decide, rfl⟩ ⟨by decide, by decide⟩ (Nat.le_of_ble_eq_true rfl) k_b0 (sp_X7_hasText k_b0 g_b0_2 k_b0_2 ?_)
  refine r_if_eq (pc := 4) (tgt := 11) dX7_best_4 (by decide) (fun q => ?_) (fun q => ?_)
  · have q := (b2i_z _).mp q
    have K0 := K0.1 q
    refine r_bipush (pc := 11) (v := (-2)) dX7_best_11 (by decide) ?_
    exact s_iret rfl dX7_best_13 K0
  · have q := b2i_nz q
    have K0 := K0.2 q
    refine r_iload_n (pc := 7) dX7_best_7 rfl ?_
    refine r_if_ge (pc := 8) (tgt := 14) dX7_best_8 (by decide) (fun q => ?_) (fun q => ?_)
    · have K0 := K0.1 q
      refine r_iconst (pc := 14) (v := 0) dX7_best_14 (by decide) ?_
      refine r_istore_n (pc := 15) dX7_best_15 (by decide) ?_
      exact r_le (L' := [some (.ref b0), some (.int l1), some (.int 0), none, none]) ⟨rfl, ⟨rfl, ⟨rfl, trivial⟩⟩⟩ K0
    · have K0 := K0.2 q
      refine r_bipush (pc := 11) (v := (-2)) dX7_best_11 (by decide) ?_
      exact s_iret rfl dX7_best_13 K0
set_option maxHeartbeats 2000000 in
theorem v_X7_best_16 {K : Sh} {x : Cn} {Q : Int32 → Cn → Prop} {b0 : Nat} {l1 : Int32} {l2 : Int32} {b0_3 : Nat} (k_b0 : kk K b0 = some (7, 0)) (g_b0_3 : gr x b0 3 = some b0_3) (k_b0_3 : kk K b0_3 = some (1, 0)) (K0 : ((gi x b0_3 0) ≤ l2 → (Q (-1) x)) ∧ (¬ (gi x b0_3 0) ≤ l2 → (GI mX7_best 32 [some (.ref b0), some (.int l1), some (.int l2), some (.int 0), some (.int 0)] [] K x Q))) : GI mX7_best 16 [some (.ref b0), some (.int l1), some (.int l2), none, none] [] K x Q := by
  show mGM mX7_best 16 [some (.ref b0), some (.int l1), some (.int l2), none, none] [] (hp K x) (PI K Q)
  refine r_iload_n (pc := 16) dX7_best_16 rfl ?_
  refine r_aload_n (pc := 17) dX7_best_17 rfl ?_
  refine s_getR (pc := 18) dX7_best_18 fl_X7_27 rfl k_b0 g_b0_3 ?_
  refine s_getI (pc := 21) dX7_best_21 fl_X7_94 rfl k_b0_3 ?_
  refine r_icmp_ge (pc := 24) (tgt := 82) dX7_best_24 (by decide) (fun q => ?_) (fun q => ?_)
  · have K0 := K0.1 q
    refine r_iconst (pc := 82) (v := (-1)) dX7_best_82 (by decide) ?_
    exact s_iret rfl dX7_best_83 K0
  · have K0 := K0.2 q
    refine r_iconst (pc := 27) (v := 0) dX7_best_27 (by decide) ?_
    refine r_istore_n (pc := 28) dX7_best_28 (by decide) ?_
    refine r_iconst (pc := 29) (L := [some (.ref b0), some (.int l1), some (.int l2), some (.int 0), none]) (v := 0) dX7_best_29 (by decide) ?_
    refine r_istore (pc := 30) dX7_best_30 (by decide) ?_
    exact r_le (L' := [some (.ref b0), some (.int l1), some (.int l2), some (.int 0), some (.int 0)]) ⟨rfl, ⟨rfl, ⟨rfl, ⟨rfl, ⟨rfl, trivial⟩⟩⟩⟩⟩ K0
set_option maxHeartbeats 2000000 in
theorem v_X7_best_32 {K : Sh} {x : Cn} {Q : Int32 → Cn → Prop} {b0 : Nat} {l1 : Int32} {l2 : Int32} {l3 : Int32} {l4 : Int32} {b0_3 : Nat} (k_b0 : kk K b0 = some (7, 0)) (g_b0_3 : gr x b0 3 = some b0_3) (k_b0_3 : kk K b0_3 = some (1, 0)) (K0 : ((gi x b0_3 0) ≤ l4 → ((¬ l3 = l1 → (GI mX7_best 16 [some (.ref b0), some (.int l1), some (.int (l2 + 1)), none, none] [] K x Q)) ∧ (l3 = l1 → (Q l2 x)))) ∧ (¬ (gi x b0_3 0) ≤ l4 → ((l4 = l2 → (GI mX7_best 32 [some (.ref b0), some (.int l1), some (.int l2), some (.int l3), some (.int (l4 + 1))] [] K x Q)) ∧ (¬ l4 = l2 → (mSI mX7_usesMore [.ref b0, .int l4, .int l2] K x (fun r_5 y_4 => (r_5 = 0 → (GI mX7_best 32 [some (.ref b0), some (.int l1), some (.int l2), some (.int l3), some (.int (l4 + 1))] [] K y_4 Q)) ∧ (¬ r_5 = 0 → (GI mX7_best 32 [some (.ref b0), some (.int l1), some (.int l2), some (.int (l3 + 1)), some (.int (l4 + 1))] [] K y_4 Q)))))))) : GI mX7_best 32 [some (.ref b0), some (.int l1), some (.int l2), some (.int l3), some (.int l4)] [] K x Q := by
  show mGM mX7_best 32 [some (.ref b0), some (.int l1), some (.int l2), some (.int l3), some (.int l4)] [] (hp K x) (PI K Q)
  refine r_iload (pc := 32) dX7_best_32 rfl ?_
  refine r_aload_n (pc := 34) dX7_best_34 rfl ?_
  refine s_getR (pc := 35) dX7_best_35 fl_X7_27 rfl k_b0 g_b0_3 ?_
  refine s_getI (pc := 38) dX7_best_38 fl_X7_94 rfl k_b0_3 ?_
  refine r_icmp_ge (pc := 41) (tgt := 69) dX7_best_41 (by decide) (fun q => ?_) (fun q => ?_)
  · have K0 := K0.1 q
    refine r_iload_n (pc := 69) dX7_best_69 rfl ?_
    refine r_iload_n (pc := 70) dX7_best_70 rfl ?_
    refine r_icmp_ne (pc := 71) (tgt := 76) dX7_best_71 (by decide) (fun q => ?_) (fun q => ?_)
    · have K0 := K0.1 q
      refine r_iinc (pc := 76) (v := l2 + 1) dX7_best_76 rfl rfl (by decide) ?_
      refine r_goto (pc := 79) (L := [some (.ref b0), some (.int l1), some (.int (l2 + 1)), some (.int l3), some (.int l4)]) (tgt := 16) dX7_best_79 (by decide) ?_
      exact r_le (L' := [some (.ref b0), some (.int l1), some (.int (l2 + 1)), none, none]) ⟨rfl, ⟨rfl, ⟨rfl, trivial⟩⟩⟩ K0
    · have K0 := K0.2 q
      refine r_iload_n (pc := 74) dX7_best_74 rfl ?_
      exact s_iret rfl dX7_best_75 K0
  · have K0 := K0.2 q
    refine r_iload (pc := 44) dX7_best_44 rfl ?_
    refine r_iload_n (pc := 46) dX7_best_46 rfl ?_
    refine r_icmp_eq (pc := 47) (tgt := 63) dX7_best_47 (by decide) (fun q => ?_) (fun q => ?_)
    · have K0 := K0.1 q
      refine r_iinc (pc := 63) (v := l4 + 1) dX7_best_63 rfl rfl (by decide) ?_
      refine r_goto (pc := 66) (L := [some (.ref b0), some (.int l1), some (.int l2), some (.int l3), some (.int (l4 + 1))]) (tgt := 32) dX7_best_66 (by decide) ?_
      exact r_le (L' := [some (.ref b0), some (.int l1), some (.int l2), some (.int l3), some (.int (l4 + 1))]) ⟨rfl, ⟨rfl, ⟨rfl, ⟨rfl, ⟨rfl, trivial⟩⟩⟩⟩⟩ K0
    · have K0 := K0.2 q
      refine r_aload_n (pc := 50) dX7_best_50 rfl ?_
      refine r_iload (pc := 51) dX7_best_51 rfl ?_
      refine r_iload_n (pc := 53) dX7_best_53 rfl ?_
      refine s_VI (pc := 54) mX7_usesMore (ci := 7) (a := b0) (As := [.int l4, .int l2]) dX7_best_54 lk_X7_260 in_X7_usesMore mo_X7_usesMore ⟨by decide, rfl⟩ ⟨by decide, by decide⟩ (Nat.le_of_ble_eq_true rfl) k_b0 (mSI_mono K0 (fun r_5 y_4 K0 => ?_))
      refine r_if_eq (pc := 57) (tgt := 63) dX7_best_57 (by decide) (fun q => ?_) (fun q => ?_)
      · have K0 := K0.1 q
        refine r_iinc (pc := 63) (v := l4 + 1) dX7_best_63 rfl rfl (by decide) ?_
        refine r_goto (pc := 66) (L := [some (.ref b0), some (.int l1), some (.int l2), some (.int l3), some (.int (l4 + 1))]) (tgt := 32) dX7_best_66 (by decide) ?_
        exact r_le (L' := [some (.ref b0), some (.int l1), some (.int l2), some (.int l3), some (.int (l4 + 1))]) ⟨rfl, ⟨rfl, ⟨rfl, ⟨rfl, ⟨rfl, trivial⟩⟩⟩⟩⟩ K0
      · have K0 := K0.2 q
        refine r_iinc (pc := 60) (v := l3 + 1) dX7_best_60 rfl rfl (by decide) ?_
        refine r_iinc (pc := 63) (L := [some (.ref b0), some (.int l1), some (.int l2), some (.int (l3 + 1)), some (.int l4)]) (v := l4 + 1) dX7_best_63 rfl rfl (by decide) ?_
        refine r_goto (pc := 66) (L := [some (.ref b0), some (.int l1), some (.int l2), some (.int (l3 + 1)), some (.int (l4 + 1))]) (tgt := 32) dX7_best_66 (by decide) ?_
        exact r_le (L' := [some (.ref b0), some (.int l1), some (.int l2), some (.int (l3 + 1)), some (.int (l4 + 1))]) ⟨rfl, ⟨rfl, ⟨rfl, ⟨rfl, ⟨rfl, trivial⟩⟩⟩⟩⟩ K0
set_option maxHeartbeats 2000000 in
theorem v_X8_best_0 {K : Sh} {x : Cn} {Q : Int32 → Cn → Prop} {b0 : Nat} {l1 : Int32} {b0_1 : Nat} {n_b0_1 : Nat} (k_b0 : kk K b0 = some (8, 0)) (g_b0_1 : gr x b0 1 = some b0_1) (k_b0_1 : kk K b0_1 = some (20, n_b0_1)) (K0 : vp_in 0 n_b0_1 ∧ ((¬ (0 < gi x b0_1 0) → (Q (-2) x)) ∧ ((0 < gi x b0_1 0) → ((0 ≤ l1 → (GI mX8_best 16 [some (.ref b0), some (.int l1), some (.int 0), none, none] [] K x Q)) ∧ (¬ 0 ≤ l1 → (Q (-2) x)))))) : mSI mX8_best [.ref b0, .int l1] K x Q := by
  refine s_I (by decide) (by simp [Value.category]) (Nat.le_of_ble_eq_true rfl) ?_
  show mGM mX8_best 0 [some (.ref b0), some (.int l1), none, none, none] [] (hp K x) (PI K Q)
  refine r_aload_n (pc := 0) dX8_best_0 rfl ?_
  obtain ⟨i_1, K0⟩ := K0
  refine s_VI (pc := 1) mX8_isThere (ci := 8) (a := b0) (As := []) dX8_best_1 lk_X8_49 in_X8_isThere mo_X8_isThere ⟨by decide, rfl⟩ ⟨by decide, by decide⟩ (Nat.le_of_ble_eq_true rfl) k_b0 (sp_X8_isThere k_b0 g_b0_1 k_b0_1 i_1 ?_)
  refine r_if_eq (pc := 4) (tgt := 11) dX8_best_4 (by decide) (fun q => ?_) (fun q => ?_)
  · have q := (b2i_z _).mp q
    have K0 := K0.1 q
    refine r_bipush (pc := 11) (v := (-2)) dX8_best_11 (by decide) ?_
    exact s_iret rfl dX8_best_13 K0
  · have q := b2i_nz q
    have K0 := K0.2 q
    refine r_iload_n (pc := 7) dX8_best_7 rfl ?_
    refine r_if_ge (pc := 8) (tgt := 14) dX8_best_8 (by decide) (fun q => ?_) (fun q => ?_)
    · have K0 := K0.1 q
      refine r_iconst (pc := 14) (v := 0) dX8_best_14 (by decide) ?_
      refine r_istore_n (pc := 15) dX8_best_15 (by decide) ?_
      exact r_le (L' := [some (.ref b0), some (.int l1), some (.int 0), none, none]) ⟨rfl, ⟨rfl, ⟨rfl, trivial⟩⟩⟩ K0
    · have K0 := K0.2 q
      refine r_bipush (pc := 11) (v := (-2)) dX8_best_11 (by decide) ?_
      exact s_iret rfl dX8_best_13 K0
set_option maxHeartbeats 2000000 in
theorem v_X8_best_16 {K : Sh} {x : Cn} {Q : Int32 → Cn → Prop} {b0 : Nat} {l1 : Int32} {l2 : Int32} {b0_1 : Nat} {n_b0_1 : Nat} (k_b0 : kk K b0 = some (8, 0)) (g_b0_1 : gr x b0 1 = some b0_1) (k_b0_1 : kk K b0_1 = some (20, n_b0_1)) (K0 : vp_in 1 n_b0_1 ∧ (((gi x b0_1 1) ≤ l2 → (Q (-1) x)) ∧ (¬ (gi x b0_1 1) ≤ l2 → (GI mX8_best 31 [some (.ref b0), some (.int l1), some (.int l2), some (.int 0), some (.int 0)] [] K x Q)))) : GI mX8_best 16 [some (.ref b0), some (.int l1), some (.int l2), none, none] [] K x Q := by
  show mGM mX8_best 16 [some (.ref b0), some (.int l1), some (.int l2), none, none] [] (hp K x) (PI K Q)
  refine r_iload_n (pc := 16) dX8_best_16 rfl ?_
  refine r_aload_n (pc := 17) dX8_best_17 rfl ?_
  refine s_getR (pc := 18) dX8_best_18 fl_X8_9 rfl k_b0 g_b0_1 ?_
  refine r_iconst (pc := 21) (v := 1) dX8_best_21 (by decide) ?_
  obtain ⟨i_1, K0⟩ := K0
  refine s_iald (pc := 22) dX8_best_22 k_b0_1 i_1 ?_
  refine r_icmp_ge (pc := 23) (tgt := 85) dX8_best_23 (by decide) (fun q => ?_) (fun q => ?_)
  · have K0 := K0.1 q
    refine r_iconst (pc := 85) (v := (-1)) dX8_best_85 (by decide) ?_
    exact s_iret rfl dX8_best_86 K0
  · have K0 := K0.2 q
    refine r_iconst (pc := 26) (v := 0) dX8_best_26 (by decide) ?_
    refine r_istore_n (pc := 27) dX8_best_27 (by decide) ?_
    refine r_iconst (pc := 28) (L := [some (.ref b0), some (.int l1), some (.int l2), some (.int 0), none]) (v := 0) dX8_best_28 (by decide) ?_
    refine r_istore (pc := 29) dX8_best_29 (by decide) ?_
    exact r_le (L' := [some (.ref b0), some (.int l1), some (.int l2), some (.int 0), some (.int 0)]) ⟨rfl, ⟨rfl, ⟨rfl, ⟨rfl, ⟨rfl, trivial⟩⟩⟩⟩⟩ K0
set_option maxHeartbeats 2000000 in
theorem v_X8_best_31 {K : Sh} {x : Cn} {Q : Int32 → Cn → Prop} {b0 : Nat} {l1 : Int32} {l2 : Int32} {l3 : Int32} {l4 : Int32} {b0_1 : Nat} {n_b0_1 : Nat} (k_b0 : kk K b0 = some (8, 0)) (g_b0_1 : gr x b0 1 = some b0_1) (k_b0_1 : kk K b0_1 = some (20, n_b0_1)) (K0 : vp_in 1 n_b0_1 ∧ (((gi x b0_1 1) ≤ l4 → ((¬ l3 = l1 → (GI mX8_best 16 [some (.ref b0), some (.int l1), some (.int (l2 + 1)), none, none] [] K x Q)) ∧ (l3 = l1 → (Q l2 x)))) ∧ (¬ (gi x b0_1 1) ≤ l4 → ((l4 = l2 → (GI mX8_best 31 [some (.ref b0), some (.int l1), some (.int l2), some (.int (l3 + 0)), some (.int (l4 + 1))] [] K x Q)) ∧ (¬ l4 = l2 → (mSI mX8_isBetter [.ref b0, .int l4, .int l2] K x (fun r_6 y_5 => (r_6 = 0 → (GI mX8_best 31 [some (.ref b0), some (.int l1), some (.int l2), some (.int (l3 + 0)), some (.int (l4 + 1))] [] K y_5 Q)) ∧ (¬ r_6 = 0 → (GI mX8_best 31 [some (.ref b0), some (.int l1), some (.int l2), some (.int (l3 + 1)), some (.int (l4 + 1))] [] K y_5 Q))))))))) : GI mX8_best 31 [some (.ref b0), some (.int l1), some (.int l2), some (.int l3), some (.int l4)] [] K x Q := by
  show mGM mX8_best 31 [some (.ref b0), some (.int l1), some (.int l2), some (.int l3), some (.int l4)] [] (hp K x) (PI K Q)
  refine r_iload (pc := 31) dX8_best_31 rfl ?_
  refine r_aload_n (pc := 33) dX8_best_33 rfl ?_
  refine s_getR (pc := 34) dX8_best_34 fl_X8_9 rfl k_b0 g_b0_1 ?_
  refine r_iconst (pc := 37) (v := 1) dX8_best_37 (by decide) ?_
  obtain ⟨i_1, K0⟩ := K0
  refine s_iald (pc := 38) dX8_best_38 k_b0_1 i_1 ?_
  refine r_icmp_ge (pc := 39) (tgt := 72) dX8_best_39 (by decide) (fun q => ?_) (fun q => ?_)
  · have K0 := K0.1 q
    refine r_iload_n (pc := 72) dX8_best_72 rfl ?_
    refine r_iload_n (pc := 73) dX8_best_73 rfl ?_
    refine r_icmp_ne (pc := 74) (tgt := 79) dX8_best_74 (by decide) (fun q => ?_) (fun q => ?_)
    · have K0 := K0.1 q
      refine r_iinc (pc := 79) (v := l2 + 1) dX8_best_79 rfl rfl (by decide) ?_
      refine r_goto (pc := 82) (L := [some (.ref b0), some (.int l1), some (.int (l2 + 1)), some (.int l3), some (.int l4)]) (tgt := 16) dX8_best_82 (by decide) ?_
      exact r_le (L' := [some (.ref b0), some (.int l1), some (.int (l2 + 1)), none, none]) ⟨rfl, ⟨rfl, ⟨rfl, trivial⟩⟩⟩ K0
    · have K0 := K0.2 q
      refine r_iload_n (pc := 77) dX8_best_77 rfl ?_
      exact s_iret rfl dX8_best_78 K0
  · have K0 := K0.2 q
    refine r_iload_n (pc := 42) dX8_best_42 rfl ?_
    refine r_iload (pc := 43) dX8_best_43 rfl ?_
    refine r_iload_n (pc := 45) dX8_best_45 rfl ?_
    refine r_icmp_eq (pc := 46) (tgt := 63) dX8_best_46 (by decide) (fun q => ?_) (fun q => ?_)
    · have K0 := K0.1 q
      refine r_iconst (pc := 63) (v := 0) dX8_best_63 (by decide) ?_
      refine r_iadd (pc := 64) dX8_best_64 ?_
      refine r_istore_n (pc := 65) dX8_best_65 (by decide) ?_
      refine r_iinc (pc := 66) (L := [some (.ref b0), some (.int l1), some (.int l2), some (.int (l3 + 0)), some (.int l4)]) (v := l4 + 1) dX8_best_66 rfl rfl (by decide) ?_
      refine r_goto (pc := 69) (L := [some (.ref b0), some (.int l1), some (.int l2), some (.int (l3 + 0)), some (.int (l4 + 1))]) (tgt := 31) dX8_best_69 (by decide) ?_
      exact r_le (L' := [some (.ref b0), some (.int l1), some (.int l2), some (.int (l3 + 0)), some (.int (l4 + 1))]) ⟨rfl, ⟨rfl, ⟨rfl, ⟨rfl, ⟨rfl, trivial⟩⟩⟩⟩⟩ K0
    · have K0 := K0.2 q
      refine r_aload_n (pc := 49) dX8_best_49 rfl ?_
      refine r_iload (pc := 50) dX8_best_50 rfl ?_
      refine r_iload_n (pc := 52) dX8_best_52 rfl ?_
      refine s_VI (pc := 53) mX8_isBetter (ci := 8) (a := b0) (As := [.int l4, .int l2]) dX8_best_53 lk_X8_320 in_X8_isBetter mo_X8_isBetter ⟨by decide, rfl⟩ ⟨by decide, by decide⟩ (Nat.le_of_ble_eq_true rfl) k_b0 (mSI_mono K0 (fun r_6 y_5 K0 => ?_))
      refine r_if_eq (pc := 56) (tgt := 63) dX8_best_56 (by decide) (fun q => ?_) (fun q => ?_)
      · have K0 := K0.1 q
        refine r_iconst (pc := 63) (v := 0) dX8_best_63 (by decide) ?_
        refine r_iadd (pc := 64) dX8_best_64 ?_
        refine r_istore_n (pc := 65) dX8_best_65 (by decide) ?_
        refine r_iinc (pc := 66) (L := [some (.ref b0), some (.int l1), some (.int l2), some (.int (l3 + 0)), some (.int l4)]) (v := l4 + 1) dX8_best_66 rfl rfl (by decide) ?_
        refine r_goto (pc := 69) (L := [some (.ref b0), some (.int l1), some (.int l2), some (.int (l3 + 0)), some (.int (l4 + 1))]) (tgt := 31) dX8_best_69 (by decide) ?_
        exact r_le (L' := [some (.ref b0), some (.int l1), some (.int l2), some (.int (l3 + 0)), some (.int (l4 + 1))]) ⟨rfl, ⟨rfl, ⟨rfl, ⟨rfl, ⟨rfl, trivial⟩⟩⟩⟩⟩ K0
      · have K0 := K0.2 q
        refine r_iconst (pc := 59) (v := 1) dX8_best_59 (by decide) ?_
        refine r_goto (pc := 60) (tgt := 64) dX8_best_60 (by decide) ?_
        refine r_iadd (pc := 64) dX8_best_64 ?_
        refine r_istore_n (pc := 65) dX8_best_65 (by decide) ?_
        refine r_iinc (pc := 66) (L := [some (.ref b0), some (.int l1), some (.int l2), some (.int (l3 + 1)), some (.int l4)]) (v := l4 + 1) dX8_best_66 rfl rfl (by decide) ?_
        refine r_goto (pc := 69) (L := [some (.ref b0), some (.int l1), some (.int l2), some (.int (l3 + 1)), some (.int (l4 + 1))]) (tgt := 31) dX8_best_69 (by decide) ?_
        exact r_le (L' := [some (.ref b0), some (.int l1), some (.int l2), some (.int (l3 + 1)), some (.int (l4 + 1))]) ⟨rfl, ⟨rfl, ⟨rfl, ⟨rfl, ⟨rfl, trivial⟩⟩⟩⟩⟩ K0
set_option maxHeartbeats 2000000 in
theorem v_X7_most_0 {K : Sh} {x : Cn} {Q : Int32 → Cn → Prop} {b0 : Nat} {l1 : Int32} {l2 : Int32} {b0_2 : Nat} (k_b0 : kk K b0 = some (7, 0)) (g_b0_2 : gr x b0 2 = some b0_2) (k_b0_2 : kk K b0_2 = some (4, 0)) (K0 : (¬ (0 < gi x b0_2 0 ∧ 0 ≤ l1 ∧ l1 < 7) → (Q (-2) x)) ∧ ((0 < gi x b0_2 0 ∧ 0 ≤ l1 ∧ l1 < 7) → ((0 ≤ l2 → (GI mX7_most 17 [some (.ref b0), some (.int l1), some (.int l2), some (.int 0), none, none, none, none] [] K x Q)) ∧ (¬ 0 ≤ l2 → (Q (-2) x))))) : mSI mX7_most [.ref b0, .int l1, .int l2] K x Q := by
  refine s_I (by decide) (by simp [Value.category]) (Nat.le_of_ble_eq_true rfl) ?_
  show mGM mX7_most 0 [some (.ref b0), some (.int l1), some (.int l2), none, none, none, none, none] [] (hp K x) (PI K Q)
  refine r_aload_n (pc := 0) dX7_most_0 rfl ?_
  refine r_iload_n (pc := 1) dX7_most_1 rfl ?_
  refine s_VI (pc := 2) mX7_isDay (ci := 7) (a := b0) (As := [.int l1]) dX7_most_2 lk_X7_245 in_X7_isDay mo_X7_isDay ⟨by decide, rfl⟩ ⟨by decide, by decide⟩ (Nat.le_of_ble_eq_true rfl) k_b0 (sp_X7_isDay k_b0 g_b0_2 k_b0_2 ?_)
  refine r_if_eq (pc := 5) (tgt := 12) dX7_most_5 (by decide) (fun q => ?_) (fun q => ?_)
  · have q := (b2i_z _).mp q
    have K0 := K0.1 q
    refine r_bipush (pc := 12) (v := (-2)) dX7_most_12 (by decide) ?_
    exact s_iret rfl dX7_most_14 K0
  · have q := b2i_nz q
    have K0 := K0.2 q
    refine r_iload_n (pc := 8) dX7_most_8 rfl ?_
    refine r_if_ge (pc := 9) (tgt := 15) dX7_most_9 (by decide) (fun q => ?_) (fun q => ?_)
    · have K0 := K0.1 q
      refine r_iconst (pc := 15) (v := 0) dX7_most_15 (by decide) ?_
      refine r_istore_n (pc := 16) dX7_most_16 (by decide) ?_
      exact r_le (L' := [some (.ref b0), some (.int l1), some (.int l2), some (.int 0), none, none, none, none]) ⟨rfl, ⟨rfl, ⟨rfl, ⟨rfl, trivial⟩⟩⟩⟩ K0
    · have K0 := K0.2 q
      refine r_bipush (pc := 12) (v := (-2)) dX7_most_12 (by decide) ?_
      exact s_iret rfl dX7_most_14 K0
set_option maxHeartbeats 2000000 in
theorem v_X7_most_17 {K : Sh} {x : Cn} {Q : Int32 → Cn → Prop} {b0 : Nat} {l1 : Int32} {l2 : Int32} {l3 : Int32} {b0_3 : Nat} {b0_2 : Nat} (k_b0 : kk K b0 = some (7, 0)) (g_b0_3 : gr x b0 3 = some b0_3) (k_b0_3 : kk K b0_3 = some (1, 0)) (g_b0_2 : gr x b0 2 = some b0_2) (k_b0_2 : kk K b0_2 = some (4, 0)) (K0 : ((gi x b0_3 0) ≤ l3 → (Q (-1) x)) ∧ (¬ (gi x b0_3 0) ≤ l3 → (mSI mX4_basisOf [.ref b0_2, .int l3, .int l1] K x (fun r_3 y_2 => GI mX7_most 45 [some (.ref b0), some (.int l1), some (.int l2), some (.int l3), some (.int r_3), some (.int 0), some (.int 0), none] [] K y_2 Q)))) : GI mX7_most 17 [some (.ref b0), some (.int l1), some (.int l2), some (.int l3), none, none, none, none] [] K x Q := by
  show mGM mX7_most 17 [some (.ref b0), some (.int l1), some (.int l2), some (.int l3), none, none, none, none] [] (hp K x) (PI K Q)
  refine r_iload_n (pc := 17) dX7_most_17 rfl ?_
  refine r_aload_n (pc := 18) dX7_most_18 rfl ?_
  refine s_getR (pc := 19) dX7_most_19 fl_X7_27 rfl k_b0 g_b0_3 ?_
  refine s_getI (pc := 22) dX7_most_22 fl_X7_94 rfl k_b0_3 ?_
  refine r_icmp_ge (pc := 25) (tgt := 112) dX7_most_25 (by decide) (fun q => ?_) (fun q => ?_)
  · have K0 := K0.1 q
    refine r_iconst (pc := 112) (v := (-1)) dX7_most_112 (by decide) ?_
    exact s_iret rfl dX7_most_113 K0
  · have K0 := K0.2 q
    refine r_aload_n (pc := 28) dX7_most_28 rfl ?_
    refine s_getR (pc := 29) dX7_most_29 fl_X7_20 rfl k_b0 g_b0_2 ?_
    refine r_iload_n (pc := 32) dX7_most_32 rfl ?_
    refine r_iload_n (pc := 33) dX7_most_33 rfl ?_
    refine s_VI (pc := 34) mX4_basisOf (ci := 4) (a := b0_2) (As := [.int l3, .int l1]) dX7_most_34 lk_X7_263 in_X4_basisOf mo_X4_basisOf ⟨by decide, rfl⟩ ⟨by decide, by decide⟩ (Nat.le_of_ble_eq_true rfl) k_b0_2 (mSI_mono K0 (fun r_3 y_2 K0 => ?_))
    refine r_istore (pc := 37) dX7_most_37 (by decide) ?_
    refine r_iconst (pc := 39) (L := [some (.ref b0), some (.int l1), some (.int l2), some (.int l3), some (.int r_3), none, none, none]) (v := 0) dX7_most_39 (by decide) ?_
    refine r_istore (pc := 40) dX7_most_40 (by decide) ?_
    refine r_iconst (pc := 42) (L := [some (.ref b0), some (.int l1), some (.int l2), some (.int l3), some (.int r_3), some (.int 0), none, none]) (v := 0) dX7_most_42 (by decide) ?_
    refine r_istore (pc := 43) dX7_most_43 (by decide) ?_
    exact r_le (L' := [some (.ref b0), some (.int l1), some (.int l2), some (.int l3), some (.int r_3), some (.int 0), some (.int 0), none]) ⟨rfl, ⟨rfl, ⟨rfl, ⟨rfl, ⟨rfl, ⟨rfl, ⟨rfl, trivial⟩⟩⟩⟩⟩⟩⟩ K0
set_option maxHeartbeats 2000000 in
theorem v_X7_most_45 {K : Sh} {x : Cn} {Q : Int32 → Cn → Prop} {b0 : Nat} {l1 : Int32} {l2 : Int32} {l3 : Int32} {l4 : Int32} {l5 : Int32} {l6 : Int32} {b0_3 : Nat} {b0_2 : Nat} (k_b0 : kk K b0 = some (7, 0)) (g_b0_3 : gr x b0 3 = some b0_3) (k_b0_3 : kk K b0_3 = some (1, 0)) (g_b0_2 : gr x b0 2 = some b0_2) (k_b0_2 : kk K b0_2 = some (4, 0)) (K0 : ((gi x b0_3 0) ≤ l6 → ((¬ l5 = l2 → (GI mX7_most 17 [some (.ref b0), some (.int l1), some (.int l2), some (.int (l3 + 1)), none, none, none, none] [] K x Q)) ∧ (l5 = l2 → (Q l3 x)))) ∧ (¬ (gi x b0_3 0) ≤ l6 → (mSI mX4_basisOf [.ref b0_2, .int l6, .int l1] K x (fun r_4 y_3 => (l4 < r_4 → (GI mX7_most 45 [some (.ref b0), some (.int l1), some (.int l2), some (.int l3), some (.int l4), some (.int (l5 + 1)), some (.int (l6 + 1)), none] [] K y_3 Q)) ∧ (¬ l4 < r_4 → ((¬ r_4 = l4 → (GI mX7_most 45 [some (.ref b0), some (.int l1), some (.int l2), some (.int l3), some (.int l4), some (.int l5), some (.int (l6 + 1)), none] [] K y_3 Q)) ∧ (r_4 = l4 → ((l3 ≤ l6 → (GI mX7_most 45 [some (.ref b0), some (.int l1), some (.int l2), some (.int l3), some (.int l4), some (.int l5), some (.int (l6 + 1)), none] [] K y_3 Q)) ∧ (¬ l3 ≤ l6 → (GI mX7_most 45 [some (.ref b0), some (.int l1), some (.int l2), some (.int l3), some (.int l4), some (.int (l5 + 1)), some (.int (l6 + 1)), none] [] K y_3 Q)))))))))) : GI mX7_most 45 [some (.ref b0), some (.int l1), some (.int l2), some (.int l3), some (.int l4), some (.int l5), some (.int l6), none] [] K x Q := by
  show mGM mX7_most 45 [some (.ref b0), some (.int l1), some (.int l2), some (.int l3), some (.int l4), some (.int l5), some (.int l6), none] [] (hp K x) (PI K Q)
  refine r_iload (pc := 45) dX7_most_45 rfl ?_
  refine r_aload_n (pc := 47) dX7_most_47 rfl ?_
  refine s_getR (pc := 48) dX7_most_48 fl_X7_27 rfl k_b0 g_b0_3 ?_
  refine s_getI (pc := 51) dX7_most_51 fl_X7_94 rfl k_b0_3 ?_
  refine r_icmp_ge (pc := 54) (tgt := 98) dX7_most_54 (by decide) (fun q => ?_) (fun q => ?_)
  · have K0 := K0.1 q
    refine r_iload (pc := 98) dX7_most_98 rfl ?_
    refine r_iload_n (pc := 100) dX7_most_100 rfl ?_
    refine r_icmp_ne (pc := 101) (tgt := 106) dX7_most_101 (by decide) (fun q => ?_) (fun q => ?_)
    · have K0 := K0.1 q
      refine r_iinc (pc := 106) (v := l3 + 1) dX7_most_106 rfl rfl (by decide) ?_
      refine r_goto (pc := 109) (L := [some (.ref b0), some (.int l1), some (.int l2), some (.int (l3 + 1)), some (.int l4), some (.int l5), some (.int l6), none]) (tgt := 17) dX7_most_109 (by decide) ?_
      exact r_le (L' := [some (.ref b0), some (.int l1), some (.int l2), some (.int (l3 + 1)), none, none, none, none]) ⟨rfl, ⟨rfl, ⟨rfl, ⟨rfl, trivial⟩⟩⟩⟩ K0
    · have K0 := K0.2 q
      refine r_iload_n (pc := 104) dX7_most_104 rfl ?_
      exact s_iret rfl dX7_most_105 K0
  · have K0 := K0.2 q
    refine r_aload_n (pc := 57) dX7_most_57 rfl ?_
    refine s_getR (pc := 58) dX7_most_58 fl_X7_20 rfl k_b0 g_b0_2 ?_
    refine r_iload (pc := 61) dX7_most_61 rfl ?_
    refine r_iload_n (pc := 63) dX7_most_63 rfl ?_
    refine s_VI (pc := 64) mX4_basisOf (ci := 4) (a := b0_2) (As := [.int l6, .int l1]) dX7_most_64 lk_X7_263 in_X4_basisOf mo_X4_basisOf ⟨by decide, rfl⟩ ⟨by decide, by decide⟩ (Nat.le_of_ble_eq_true rfl) k_b0_2 (mSI_mono K0 (fun r_4 y_3 K0 => ?_))
    refine r_istore (pc := 67) dX7_most_67 (by decide) ?_
    refine r_iload (pc := 69) (L := [some (.ref b0), some (.int l1), some (.int l2), some (.int l3), some (.int l4), some (.int l5), some (.int l6), some (.int r_4)]) dX7_most_69 rfl ?_
    refine r_iload (pc := 71) dX7_most_71 rfl ?_
    refine r_icmp_gt (pc := 73) (tgt := 89) dX7_most_73 (by decide) (fun q => ?_) (fun q => ?_)
    · have K0 := K0.1 q
      refine r_iinc (pc := 89) (v := l5 + 1) dX7_most_89 rfl rfl (by decide) ?_
      refine r_iinc (pc := 92) (L := [some (.ref b0), some (.int l1), some (.int l2), some (.int l3), some (.int l4), some (.int (l5 + 1)), some (.int l6), some (.int r_4)]) (v := l6 + 1) dX7_most_92 rfl rfl (by decide) ?_
      refine r_goto (pc := 95) (L := [some (.ref b0), some (.int l1), some (.int l2), some (.int l3), some (.int l4), some (.int (l5 + 1)), some (.int (l6 + 1)), some (.int r_4)]) (tgt := 45) dX7_most_95 (by decide) ?_
      exact r_le (L' := [some (.ref b0), some (.int l1), some (.int l2), some (.int l3), some (.int l4), some (.int (l5 + 1)), some (.int (l6 + 1)), none]) ⟨rfl, ⟨rfl, ⟨rfl, ⟨rfl, ⟨rfl, ⟨rfl, ⟨rfl, trivial⟩⟩⟩⟩⟩⟩⟩ K0
    · have K0 := K0.2 q
      refine r_iload (pc := 76) dX7_most_76 rfl ?_
      refine r_iload (pc := 78) dX7_most_78 rfl ?_
      refine r_icmp_ne (pc := 80) (tgt := 92) dX7_most_80 (by decide) (fun q => ?_) (fun q => ?_)
      · have K0 := K0.1 q
        refine r_iinc (pc := 92) (v := l6 + 1) dX7_most_92 rfl rfl (by decide) ?_
        refine r_goto (pc := 95) (L := [some (.ref b0), some (.int l1), some (.int l2), some (.int l3), some (.int l4), some (.int l5), some (.int (l6 + 1)), some (.int r_4)]) (tgt := 45) dX7_most_95 (by decide) ?_
        exact r_le (L' := [some (.ref b0), some (.int l1), some (.int l2), some (.int l3), some (.int l4), some (.int l5), some (.int (l6 + 1)), none]) ⟨rfl, ⟨rfl, ⟨rfl, ⟨rfl, ⟨rfl, ⟨rfl, ⟨rfl, trivial⟩⟩⟩⟩⟩⟩⟩ K0
      · have K0 := K0.2 q
        refine r_iload (pc := 83) dX7_most_83 rfl ?_
        refine r_iload_n (pc := 85) dX7_most_85 rfl ?_
        refine r_icmp_ge (pc := 86) (tgt := 92) dX7_most_86 (by decide) (fun q => ?_) (fun q => ?_)
        · have K0 := K0.1 q
          refine r_iinc (pc := 92) (v := l6 + 1) dX7_most_92 rfl rfl (by decide) ?_
          refine r_goto (pc := 95) (L := [some (.ref b0), some (.int l1), some (.int l2), some (.int l3), some (.int l4), some (.int l5), some (.int (l6 + 1)), some (.int r_4)]) (tgt := 45) dX7_most_95 (by decide) ?_
          exact r_le (L' := [some (.ref b0), some (.int l1), some (.int l2), some (.int l3), some (.int l4), some (.int l5), some (.int (l6 + 1)), none]) ⟨rfl, ⟨rfl, ⟨rfl, ⟨rfl, ⟨rfl, ⟨rfl, ⟨rfl, trivial⟩⟩⟩⟩⟩⟩⟩ K0
        · have K0 := K0.2 q
          refine r_iinc (pc := 89) (v := l5 + 1) dX7_most_89 rfl rfl (by decide) ?_
          refine r_iinc (pc := 92) (L := [some (.ref b0), some (.int l1), some (.int l2), some (.int l3), some (.int l4), some (.int (l5 + 1)), some (.int l6), some (.int r_4)]) (v := l6 + 1) dX7_most_92 rfl rfl (by decide) ?_
          refine r_goto (pc := 95) (L := [some (.ref b0), some (.int l1), some (.int l2), some (.int l3), some (.int l4), some (.int (l5 + 1)), some (.int (l6 + 1)), some (.int r_4)]) (tgt := 45) dX7_most_95 (by decide) ?_
          exact r_le (L' := [some (.ref b0), some (.int l1), some (.int l2), some (.int l3), some (.int l4), some (.int (l5 + 1)), some (.int (l6 + 1)), none]) ⟨rfl, ⟨rfl, ⟨rfl, ⟨rfl, ⟨rfl, ⟨rfl, ⟨rfl, trivial⟩⟩⟩⟩⟩⟩⟩ K0
set_option maxHeartbeats 2000000 in
theorem v_X8_most_0 {K : Sh} {x : Cn} {Q : Int32 → Cn → Prop} {b0 : Nat} {l1 : Int32} {l2 : Int32} {b0_1 : Nat} {n_b0_1 : Nat} (k_b0 : kk K b0 = some (8, 0)) (g_b0_1 : gr x b0 1 = some b0_1) (k_b0_1 : kk K b0_1 = some (20, n_b0_1)) (K0 : vp_in 0 n_b0_1 ∧ ((¬ (0 < gi x b0_1 0 ∧ 0 ≤ l1 ∧ l1 ≤ 6) → (Q (-2) x)) ∧ ((0 < gi x b0_1 0 ∧ 0 ≤ l1 ∧ l1 ≤ 6) → ((0 ≤ l2 → (GI mX8_most 17 [some (.ref b0), some (.int l1), some (.int l2), some (.int 0), none, none] [] K x Q)) ∧ (¬ 0 ≤ l2 → (Q (-2) x)))))) : mSI mX8_most [.ref b0, .int l1, .int l2] K x Q := by
  refine s_I (by decide) (by simp [Value.category]) (Nat.le_of_ble_eq_true rfl) ?_
  show mGM mX8_most 0 [some (.ref b0), some (.int l1), some (.int l2), none, none, none] [] (hp K x) (PI K Q)
  refine r_aload_n (pc := 0) dX8_most_0 rfl ?_
  refine r_iload_n (pc := 1) dX8_most_1 rfl ?_
  obtain ⟨i_1, K0⟩ := K0
  refine s_VI (pc := 2) mX8_isDay (ci := 8) (a := b0) (As := [.int l1]) dX8_most_2 lk_X8_61 in_X8_isDay mo_X8_isDay ⟨by decide, rfl⟩ ⟨by decide, by decide⟩ (Nat.le_of_ble_eq_true rfl) k_b0 (sp_X8_isDay k_b0 g_b0_1 k_b0_1 i_1 ?_)
  refine r_if_eq (pc := 5) (tgt := 12) dX8_most_5 (by decide) (fun q => ?_) (fun q => ?_)
  · have q := (b2i_z _).mp q
    have K0 := K0.1 q
    refine r_bipush (pc := 12) (v := (-2)) dX8_most_12 (by decide) ?_
    exact s_iret rfl dX8_most_14 K0
  · have q := b2i_nz q
    have K0 := K0.2 q
    refine r_iload_n (pc := 8) dX8_most_8 rfl ?_
    refine r_if_ge (pc := 9) (tgt := 15) dX8_most_9 (by decide) (fun q => ?_) (fun q => ?_)
    · have K0 := K0.1 q
      refine r_iconst (pc := 15) (v := 0) dX8_most_15 (by decide) ?_
      refine r_istore_n (pc := 16) dX8_most_16 (by decide) ?_
      exact r_le (L' := [some (.ref b0), some (.int l1), some (.int l2), some (.int 0), none, none]) ⟨rfl, ⟨rfl, ⟨rfl, ⟨rfl, trivial⟩⟩⟩⟩ K0
    · have K0 := K0.2 q
      refine r_bipush (pc := 12) (v := (-2)) dX8_most_12 (by decide) ?_
      exact s_iret rfl dX8_most_14 K0
set_option maxHeartbeats 2000000 in
theorem v_X8_most_17 {K : Sh} {x : Cn} {Q : Int32 → Cn → Prop} {b0 : Nat} {l1 : Int32} {l2 : Int32} {l3 : Int32} {b0_1 : Nat} {n_b0_1 : Nat} (k_b0 : kk K b0 = some (8, 0)) (g_b0_1 : gr x b0 1 = some b0_1) (k_b0_1 : kk K b0_1 = some (20, n_b0_1)) (K0 : vp_in 1 n_b0_1 ∧ (((gi x b0_1 1) ≤ l3 → (Q (-1) x)) ∧ (¬ (gi x b0_1 1) ≤ l3 → (GI mX8_most 33 [some (.ref b0), some (.int l1), some (.int l2), some (.int l3), some (.int 0), some (.int 0)] [] K x Q)))) : GI mX8_most 17 [some (.ref b0), some (.int l1), some (.int l2), some (.int l3), none, none] [] K x Q := by
  show mGM mX8_most 17 [some (.ref b0), some (.int l1), some (.int l2), some (.int l3), none, none] [] (hp K x) (PI K Q)
  refine r_iload_n (pc := 17) dX8_most_17 rfl ?_
  refine r_aload_n (pc := 18) dX8_most_18 rfl ?_
  refine s_getR (pc := 19) dX8_most_19 fl_X8_9 rfl k_b0 g_b0_1 ?_
  refine r_iconst (pc := 22) (v := 1) dX8_most_22 (by decide) ?_
  obtain ⟨i_1, K0⟩ := K0
  refine s_iald (pc := 23) dX8_most_23 k_b0_1 i_1 ?_
  refine r_icmp_ge (pc := 24) (tgt := 112) dX8_most_24 (by decide) (fun q => ?_) (fun q => ?_)
  · have K0 := K0.1 q
    refine r_iconst (pc := 112) (v := (-1)) dX8_most_112 (by decide) ?_
    exact s_iret rfl dX8_most_113 K0
  · have K0 := K0.2 q
    refine r_iconst (pc := 27) (v := 0) dX8_most_27 (by decide) ?_
    refine r_istore (pc := 28) dX8_most_28 (by decide) ?_
    refine r_iconst (pc := 30) (L := [some (.ref b0), some (.int l1), some (.int l2), some (.int l3), some (.int 0), none]) (v := 0) dX8_most_30 (by decide) ?_
    refine r_istore (pc := 31) dX8_most_31 (by decide) ?_
    exact r_le (L' := [some (.ref b0), some (.int l1), some (.int l2), some (.int l3), some (.int 0), some (.int 0)]) ⟨rfl, ⟨rfl, ⟨rfl, ⟨rfl, ⟨rfl, ⟨rfl, trivial⟩⟩⟩⟩⟩⟩ K0
set_option maxHeartbeats 2000000 in
theorem v_X8_most_33 {K : Sh} {x : Cn} {Q : Int32 → Cn → Prop} {b0 : Nat} {l1 : Int32} {l2 : Int32} {l3 : Int32} {l4 : Int32} {l5 : Int32} {b0_1 : Nat} {n_b0_1 : Nat} (k_b0 : kk K b0 = some (8, 0)) (g_b0_1 : gr x b0 1 = some b0_1) (k_b0_1 : kk K b0_1 = some (20, n_b0_1)) (K0 : vp_in 1 n_b0_1 ∧ (((gi x b0_1 1) ≤ l5 → ((¬ l4 = l2 → (GI mX8_most 17 [some (.ref b0), some (.int l1), some (.int l2), some (.int (l3 + 1)), none, none] [] K x Q)) ∧ (l4 = l2 → (Q l3 x)))) ∧ (¬ (gi x b0_1 1) ≤ l5 → (mSI mX8_basisOn [.ref b0, .int l5, .int l1] K x (fun r_5 y_4 => mSI mX8_basisOn [.ref b0, .int l3, .int l1] K y_4 (fun r_7 y_6 => (r_7 < r_5 → (GI mX8_most 33 [some (.ref b0), some (.int l1), some (.int l2), some (.int l3), some (.int (l4 + 1)), some (.int (l5 + 1))] [] K y_6 Q)) ∧ (¬ r_7 < r_5 → (mSI mX8_basisOn [.ref b0, .int l5, .int l1] K y_6 (fun r_10 y_9 => mSI mX8_basisOn [.ref b0, .int l3, .int l1] K y_9 (fun r_12 y_11 => (¬ r_10 = r_12 → (GI mX8_most 33 [some (.ref b0), some (.int l1), some (.int l2), some (.int l3), some (.int (l4 + 0)), some (.int (l5 + 1))] [] K y_11 Q)) ∧ (r_10 = r_12 → ((l3 ≤ l5 → (GI mX8_most 33 [some (.ref b0), some (.int l1), some (.int l2), some (.int l3), some (.int (l4 + 0)), some (.int (l5 + 1))] [] K y_11 Q)) ∧ (¬ l3 ≤ l5 → (GI mX8_most 33 [some (.ref b0), some (.int l1), some (.int l2), some (.int l3), some (.int (l4 + 1)), some (.int (l5 + 1))] [] K y_11 Q)))))))))))))) : GI mX8_most 33 [some (.ref b0), some (.int l1), some (.int l2), some (.int l3), some (.int l4), some (.int l5)] [] K x Q := by
  show mGM mX8_most 33 [some (.ref b0), some (.int l1), some (.int l2), some (.int l3), some (.int l4), some (.int l5)] [] (hp K x) (PI K Q)
  refine r_iload (pc := 33) dX8_most_33 rfl ?_
  refine r_aload_n (pc := 35) dX8_most_35 rfl ?_
  refine s_getR (pc := 36) dX8_most_36 fl_X8_9 rfl k_b0 g_b0_1 ?_
  refine r_iconst (pc := 39) (v := 1) dX8_most_39 (by decide) ?_
  obtain ⟨i_1, K0⟩ := K0
  refine s_iald (pc := 40) dX8_most_40 k_b0_1 i_1 ?_
  refine r_icmp_ge (pc := 41) (tgt := 98) dX8_most_41 (by decide) (fun q => ?_) (fun q => ?_)
  · have K0 := K0.1 q
    refine r_iload (pc := 98) dX8_most_98 rfl ?_
    refine r_iload_n (pc := 100) dX8_most_100 rfl ?_
    refine r_icmp_ne (pc := 101) (tgt := 106) dX8_most_101 (by decide) (fun q => ?_) (fun q => ?_)
    · have K0 := K0.1 q
      refine r_iinc (pc := 106) (v := l3 + 1) dX8_most_106 rfl rfl (by decide) ?_
      refine r_goto (pc := 109) (L := [some (.ref b0), some (.int l1), some (.int l2), some (.int (l3 + 1)), some (.int l4), some (.int l5)]) (tgt := 17) dX8_most_109 (by decide) ?_
      exact r_le (L' := [some (.ref b0), some (.int l1), some (.int l2), some (.int (l3 + 1)), none, none]) ⟨rfl, ⟨rfl, ⟨rfl, ⟨rfl, trivial⟩⟩⟩⟩ K0
    · have K0 := K0.2 q
      refine r_iload_n (pc := 104) dX8_most_104 rfl ?_
      exact s_iret rfl dX8_most_105 K0
  · have K0 := K0.2 q
    refine r_iload (pc := 44) dX8_most_44 rfl ?_
    refine r_aload_n (pc := 46) dX8_most_46 rfl ?_
    refine r_iload (pc := 47) dX8_most_47 rfl ?_
    refine r_iload_n (pc := 49) dX8_most_49 rfl ?_
    refine s_VI (pc := 50) mX8_basisOn (ci := 8) (a := b0) (As := [.int l5, .int l1]) dX8_most_50 lk_X8_323 in_X8_basisOn mo_X8_basisOn ⟨by decide, rfl⟩ ⟨by decide, by decide⟩ (Nat.le_of_ble_eq_true rfl) k_b0 (mSI_mono K0 (fun r_5 y_4 K0 => ?_))
    refine r_aload_n (pc := 53) dX8_most_53 rfl ?_
    refine r_iload_n (pc := 54) dX8_most_54 rfl ?_
    refine r_iload_n (pc := 55) dX8_most_55 rfl ?_
    refine s_VI (pc := 56) mX8_basisOn (ci := 8) (a := b0) (As := [.int l3, .int l1]) dX8_most_56 lk_X8_323 in_X8_basisOn mo_X8_basisOn ⟨by decide, rfl⟩ ⟨by decide, by decide⟩ (Nat.le_of_ble_eq_true rfl) k_b0 (mSI_mono K0 (fun r_7 y_6 K0 => ?_))
    refine r_icmp_gt (pc := 59) (tgt := 84) dX8_most_59 (by decide) (fun q => ?_) (fun q => ?_)
    · have K0 := K0.1 q
      refine r_iconst (pc := 84) (v := 1) dX8_most_84 (by decide) ?_
      refine r_goto (pc := 85) (tgt := 89) dX8_most_85 (by decide) ?_
      refine r_iadd (pc := 89) dX8_most_89 ?_
      refine r_istore (pc := 90) dX8_most_90 (by decide) ?_
      refine r_iinc (pc := 92) (L := [some (.ref b0), some (.int l1), some (.int l2), some (.int l3), some (.int (l4 + 1)), some (.int l5)]) (v := l5 + 1) dX8_most_92 rfl rfl (by decide) ?_
      refine r_goto (pc := 95) (L := [some (.ref b0), some (.int l1), some (.int l2), some (.int l3), some (.int (l4 + 1)), some (.int (l5 + 1))]) (tgt := 33) dX8_most_95 (by decide) ?_
      exact r_le (L' := [some (.ref b0), some (.int l1), some (.int l2), some (.int l3), some (.int (l4 + 1)), some (.int (l5 + 1))]) ⟨rfl, ⟨rfl, ⟨rfl, ⟨rfl, ⟨rfl, ⟨rfl, trivial⟩⟩⟩⟩⟩⟩ K0
    · have K0 := K0.2 q
      refine r_aload_n (pc := 62) dX8_most_62 rfl ?_
      refine r_iload (pc := 63) dX8_most_63 rfl ?_
      refine r_iload_n (pc := 65) dX8_most_65 rfl ?_
      refine s_VI (pc := 66) mX8_basisOn (ci := 8) (a := b0) (As := [.int l5, .int l1]) dX8_most_66 lk_X8_323 in_X8_basisOn mo_X8_basisOn ⟨by decide, rfl⟩ ⟨by decide, by decide⟩ (Nat.le_of_ble_eq_true rfl) k_b0 (mSI_mono K0 (fun r_10 y_9 K0 => ?_))
      refine r_aload_n (pc := 69) dX8_most_69 rfl ?_
      refine r_iload_n (pc := 70) dX8_most_70 rfl ?_
      refine r_iload_n (pc := 71) dX8_most_71 rfl ?_
      refine s_VI (pc := 72) mX8_basisOn (ci := 8) (a := b0) (As := [.int l3, .int l1]) dX8_most_72 lk_X8_323 in_X8_basisOn mo_X8_basisOn ⟨by decide, rfl⟩ ⟨by decide, by decide⟩ (Nat.le_of_ble_eq_true rfl) k_b0 (mSI_mono K0 (fun r_12 y_11 K0 => ?_))
      refine r_icmp_ne (pc := 75) (tgt := 88) dX8_most_75 (by decide) (fun q => ?_) (fun q => ?_)
      · have K0 := K0.1 q
        refine r_iconst (pc := 88) (v := 0) dX8_most_88 (by decide) ?_
        refine r_iadd (pc := 89) dX8_most_89 ?_
        refine r_istore (pc := 90) dX8_most_90 (by decide) ?_
        refine r_iinc (pc := 92) (L := [some (.ref b0), some (.int l1), some (.int l2), some (.int l3), some (.int (l4 + 0)), some (.int l5)]) (v := l5 + 1) dX8_most_92 rfl rfl (by decide) ?_
        refine r_goto (pc := 95) (L := [some (.ref b0), some (.int l1), some (.int l2), some (.int l3), some (.int (l4 + 0)), some (.int (l5 + 1))]) (tgt := 33) dX8_most_95 (by decide) ?_
        exact r_le (L' := [some (.ref b0), some (.int l1), some (.int l2), some (.int l3), some (.int (l4 + 0)), some (.int (l5 + 1))]) ⟨rfl, ⟨rfl, ⟨rfl, ⟨rfl, ⟨rfl, ⟨rfl, trivial⟩⟩⟩⟩⟩⟩ K0
      · have K0 := K0.2 q
        refine r_iload (pc := 78) dX8_most_78 rfl ?_
        refine r_iload_n (pc := 80) dX8_most_80 rfl ?_
        refine r_icmp_ge (pc := 81) (tgt := 88) dX8_most_81 (by decide) (fun q => ?_) (fun q => ?_)
        · have K0 := K0.1 q
          refine r_iconst (pc := 88) (v := 0) dX8_most_88 (by decide) ?_
          refine r_iadd (pc := 89) dX8_most_89 ?_
          refine r_istore (pc := 90) dX8_most_90 (by decide) ?_
          refine r_iinc (pc := 92) (L := [some (.ref b0), some (.int l1), some (.int l2), some (.int l3), some (.int (l4 + 0)), some (.int l5)]) (v := l5 + 1) dX8_most_92 rfl rfl (by decide) ?_
          refine r_goto (pc := 95) (L := [some (.ref b0), some (.int l1), some (.int l2), some (.int l3), some (.int (l4 + 0)), some (.int (l5 + 1))]) (tgt := 33) dX8_most_95 (by decide) ?_
          exact r_le (L' := [some (.ref b0), some (.int l1), some (.int l2), some (.int l3), some (.int (l4 + 0)), some (.int (l5 + 1))]) ⟨rfl, ⟨rfl, ⟨rfl, ⟨rfl, ⟨rfl, ⟨rfl, trivial⟩⟩⟩⟩⟩⟩ K0
        · have K0 := K0.2 q
          refine r_iconst (pc := 84) (v := 1) dX8_most_84 (by decide) ?_
          refine r_goto (pc := 85) (tgt := 89) dX8_most_85 (by decide) ?_
          refine r_iadd (pc := 89) dX8_most_89 ?_
          refine r_istore (pc := 90) dX8_most_90 (by decide) ?_
          refine r_iinc (pc := 92) (L := [some (.ref b0), some (.int l1), some (.int l2), some (.int l3), some (.int (l4 + 1)), some (.int l5)]) (v := l5 + 1) dX8_most_92 rfl rfl (by decide) ?_
          refine r_goto (pc := 95) (L := [some (.ref b0), some (.int l1), some (.int l2), some (.int l3), some (.int (l4 + 1)), some (.int (l5 + 1))]) (tgt := 33) dX8_most_95 (by decide) ?_
          exact r_le (L' := [some (.ref b0), some (.int l1), some (.int l2), some (.int l3), some (.int (l4 + 1)), some (.int (l5 + 1))]) ⟨rfl, ⟨rfl, ⟨rfl, ⟨rfl, ⟨rfl, ⟨rfl, trivial⟩⟩⟩⟩⟩⟩ K0
theorem eq_of (a b : Int32) : Both mX7_of mX8_of [.int a, .int b] := by
  intro x R
  obtain ⟨W, C, S, A, N, E, ⟨hc, -⟩, -⟩ := R.sea
  have hn := E.nums
  have ht := Rel.t2 E
  have hS : S ≤ 24 := hn.2.2.2.2.2.2.1
  have hC : C ≤ 8 := hn.2.2.2.2.2.1
  have iC := inN' (v := a) (n := C) (by omega)
  have hb : ((-1) ≤ b ∧ b ≤ 6) ↔ (b = -1 ∨ (0 ≤ b ∧ b < 7)) := by
    constructor
    · intro z
      by_cases g : b = -1
      · exact Or.inl g
      · refine Or.inr (d7.mp ⟨?_, z.2⟩)
        rw [Int32.le_iff_toInt_le] at z ⊢
        have g2 : ¬ b.toInt = (-1 : Int32).toInt := fun e => g (Int32.toInt_inj.mp e)
        have e1 : (-1 : Int32).toInt = -1 := by decide
        have e0 : (0 : Int32).toInt = 0 := by decide
        rw [e1] at z g2
        rw [e0]
        omega
    · rintro (g | g)
      · rw [g]; decide
      · exact ⟨Int32.le_trans (by decide) g.1, (d7.mpr g).2⟩
  have rf : mSI mX8_of [.ref 717, .int a, .int b] KW x (fun r' z => (if (0 ≤ a ∧ a < nI C) ∧ (b = -1 ∨ (0 ≤ b ∧ b < 7)) then accT (orS (c_of (gi x 718) a b)) S 0 else -2) = r' ∧ Rel z) := by
    refine v_X8_of_0 km R.2.1.1 km1 ⟨v0 (k := 1) (by decide) rfl rfl, ?_⟩
    rw [ht.2.1, iC, hb]
    refine ⟨fun z => ⟨if_neg (fun w => z w.1), R⟩, fun z => ⟨fun z2 => ?_, fun z2 => ⟨if_neg (fun w => z2 w.2), R⟩⟩⟩
    rw [if_pos ⟨z, z2⟩]
    refine lp_acc (orS (c_of (gi x 718) a b)) (fun s c => GI mX8_of 30 [some (.ref 717), some (.int a), some (.int b), some (.int c), some (.int (nI s))] [] KW x _) S 0 ?_ (fun s c hs n1 => ?_)
    · exact v_X8_of_30 km R.2.1.1 km1 R.2.1.2.2.1 km1 ⟨v0 (k := 2) (by decide) rfl rfl, fun _ => ⟨rfl, R⟩, fun z => absurd (by rw [ht.2.2.1]; exact Int32.le_refl _) z⟩
    · refine v_X8_of_30 km R.2.1.1 km1 R.2.1.2.2.1 km1 ⟨v0 (k := 2) (by decide) rfl rfl, fun z => absurd (by rw [ht.2.2.1] at z; exact z) (nI_ge hs (by omega)), fun _ => ⟨l24_nI (by omega) rfl, ?_⟩⟩
      rw [nI_clamp (show s < 2 ^ 31 by omega), nI_1, Int32.or_zero]
      exact ⟨fun z => n1 _ (if_neg (fun g => z g.1)), fun z1 => ⟨fun z => n1 _ (if_pos ⟨z1, Or.inl z⟩), fun z3 => ⟨fun z => n1 _ (if_neg (fun g => g.2.elim z3 z)), fun z => n1 _ (if_pos ⟨z1, Or.inr z⟩)⟩⟩⟩
  have go : (0 ≤ a ∧ a < nI C) → (b = -1 ∨ (0 ≤ b ∧ b < 7)) → GI mX7_of 29 [some (.ref 0), some (.int a), some (.int b), some (.int 0), some (.int 0)] [] KW x (fun r y => mSI mX8_of [.ref 717, .int a, .int b] KW y (fun r' z => r = r' ∧ Rel z)) := by
    intro z z2
    rw [if_pos ⟨z, z2⟩] at rf
    refine lp_acc (orS (c_of (gi x 718) a b)) (fun s c => GI mX7_of 29 [some (.ref 0), some (.int a), some (.int b), some (.int c), some (.int (nI s))] [] KW x _) S 0 ?_ (fun s c hs n1 => ?_)
    · exact v_X7_of_29 k0 R.1.2.1 (ks0 E.1) E.2.1.2.2.1 (ks3 E.1) ⟨fun _ => rf, fun z => absurd (by rw [hn.2.2.1]; exact Int32.le_refl _) z⟩
    · obtain ⟨p, e1, e2, e3, e4, -, e6⟩ := E.ser hs
      refine v_X7_of_29 k0 R.1.2.1 (ks0 E.1) E.2.1.2.2.1 (ks3 E.1) ⟨fun z => absurd (by rw [hn.2.2.1] at z; exact z) (nI_ge hs (by omega)), fun _ => ⟨vp_in_nI (by omega) (by decide), p, by rw [nI_clamp (by omega)]; exact e1, e2, ?_⟩⟩
      rw [e3.1 0 (by decide) (by decide), e3.1 1 (by decide) (by decide), nI_1]
      exact ⟨fun z => n1 _ (if_neg z), fun z => n1 _ (if_pos z)⟩
  refine v_X7_of_0 k0 R.1.2.2.1 (by decide) R.1.2.1 (ks0 E.1) ?_
  rw [hc, hn.1]
  refine ⟨fun z => by rwa [if_neg (fun w => z w.1)] at rf, fun z => ⟨fun z2 => go z (Or.inl z2), fun z2 => ⟨fun z3 => go z (Or.inr z3.2), fun z3 => ?_⟩⟩⟩
  rw [if_neg] at rf
  · exact rf
  · rintro ⟨w1, w2 | w2⟩
    · exact z2 w2
    · obtain ⟨j, hj, -⟩ := inN (by omega) z
      exact z3 ⟨nI_lt (a := 0) (E.cw (by omega)) (by omega), w2⟩
theorem eq_sum (a b : Int32) : Both mX7_sum mX8_sum [.int a, .int b] := by
  intro x R
  obtain ⟨W, C, S, A, N, E, ⟨hc, -⟩, -⟩ := R.sea
  have hn := E.nums
  have ht := Rel.t2 E
  have hS : S ≤ 24 := hn.2.2.2.2.2.2.1
  have hC : C ≤ 8 := hn.2.2.2.2.2.1
  have iC := inN' (v := a) (n := C) (by omega)
  let g : Nat → Int32 → Int32 := addS (fun s => so (gi x 718) s 0 = a) (fun s => nI (cpt (so (gi x 718) s (7 + b.toNatClampNeg))))
  have rf : mSI mX8_sum [.ref 717, .int a, .int b] KW x (fun r' z => (if (0 ≤ a ∧ a < nI C) ∧ (0 ≤ b ∧ b ≤ 4) then accT g S 0 else -2) = r' ∧ Rel z) := by
    refine v_X8_sum_0 km R.2.1.1 km1 ⟨v0 (k := 1) (by decide) rfl rfl, ?_⟩
    rw [ht.2.1, iC]
    refine ⟨fun z => ⟨if_neg (fun w => z w.1), R⟩, fun z => ⟨fun z2 => ?_, fun z2 => ⟨if_neg (fun w => z2 w.2), R⟩⟩⟩
    rw [if_pos ⟨z, z2⟩]
    refine lp_acc g (fun s c => GI mX8_sum 28 [some (.ref 717), some (.int a), some (.int b), some (.int c), some (.int (nI s))] [] KW x _) S 0 ?_ (fun s c hs n1 => ?_)
    · exact v_X8_sum_28 km R.2.1.1 km1 R.2.1.2.2.1 km1 ⟨v0 (k := 2) (by decide) rfl rfl, fun _ => ⟨rfl, R⟩, fun z => absurd (by rw [ht.2.2.1]; exact Int32.le_refl _) z⟩
    · obtain ⟨k, hk, ek⟩ := nI_of2 (M := 4) (n := 4) (by decide) (Int32.not_lt.mpr z2.1) z2.2
      have e7 : (7 : Int32) + b = nI (7 + k) := by rw [ek, show (7 : Int32) = nI 7 by decide, nI_add]
      have eb : b.toNatClampNeg = k := by rw [ek]; exact nI_clamp (by omega)
      refine v_X8_sum_28 km R.2.1.1 km1 R.2.1.2.2.1 km1 ⟨v0 (k := 2) (by decide) rfl rfl, fun z => absurd (by rw [ht.2.2.1] at z; exact z) (nI_ge hs (by omega)), fun _ => ⟨l24_nI (by omega) rfl, ?_⟩⟩
      rw [nI_clamp (show s < 2 ^ 31 by omega), nI_1, Int32.add_zero, e7, nI_clamp (by omega)]
      refine ⟨fun z => n1 _ (if_neg z), fun z => ⟨⟨nI_pos' (by omega), nI_lt (b := 12) (by omega) (by decide)⟩, fun r er => n1 _ ?_⟩⟩
      rw [er, ← eb]
      exact if_pos z
  refine v_X7_sum_0 k0 R.1.2.2.1 (by decide) ?_
  rw [hc]
  refine ⟨fun z => by rwa [if_neg (fun w => z w.1)] at rf, fun z => ⟨fun z2 => ?_, fun z2 => by rwa [if_neg (fun w => z2 w.2)] at rf⟩⟩
  rw [if_pos ⟨z, z2⟩] at rf
  obtain ⟨k, hk, ek⟩ := nI_of2 (M := 4) (n := 4) (by decide) (Int32.not_lt.mpr z2.1) z2.2
  have eb : b.toNatClampNeg = k := by rw [ek]; exact nI_clamp (by omega)
  refine lp_acc g (fun s c => GI mX7_sum 23 [some (.ref 0), some (.int a), some (.int b), some (.int c), some (.int (nI s))] [] KW x _) S 0 ?_ (fun s c hs n1 => ?_)
  · exact v_X7_sum_23 k0 R.1.2.1 (ks0 E.1) E.2.1.2.2.1 (ks3 E.1) ⟨fun _ => rf, fun z => absurd (by rw [hn.2.2.1]; exact Int32.le_refl _) z⟩
  · obtain ⟨p, e1, e2, e3, e4, -, e6⟩ := E.ser hs
    refine v_X7_sum_23 k0 R.1.2.1 (ks0 E.1) E.2.1.2.2.1 (ks3 E.1) ⟨fun z => absurd (by rw [hn.2.2.1] at z; exact z) (nI_ge hs (by omega)), fun _ => ⟨vp_in_nI (by omega) (by decide), p, by rw [nI_clamp (by omega)]; exact e1, e2, ?_⟩⟩
    rw [e3.1 0 (by decide) (by decide), nI_1, ek]
    refine ⟨fun z => ?_, fun z => sp_X5_bitsThatAre e2 e3 e6 (by omega) ?_⟩
    · rw [← ek]
      exact n1 _ (if_neg z)
    · rw [← ek]
      refine n1 _ ?_
      rw [← eb]
      exact if_pos z
theorem eq_longest (a : Int32) : Both mX7_longest mX8_longest [.int a] := by
  intro x R
  obtain ⟨W, C, S, A, N, E, -, -⟩ := R.sea
  have hn := E.nums
  have ht := Rel.t2 E
  have hS : S ≤ 24 := hn.2.2.2.2.2.2.1
  have hW : W ≤ 30 := hn.2.2.2.2.1
  have iS := inN' (v := a) (n := S) (by omega)
  have rf : mSI mX8_longest [.ref 717, .int a] KW x (fun r' z => (if 0 ≤ a ∧ a < nI S then (accT (stL (gi x 718) a.toNatClampNeg) W (0, 0)).1 else -2) = r' ∧ Rel z) := by
    refine v_X8_longest_0 km R.2.1.1 km1 ⟨v0 (k := 2) (by decide) rfl rfl, ?_⟩
    rw [ht.2.2.1, iS]
    refine ⟨fun z => ?_, fun z => ⟨if_neg z, R⟩⟩
    rw [if_pos z]
    obtain ⟨s, hs, rfl⟩ := inN (by omega) z
    rw [nI_clamp (by omega)]
    refine lp_acc (stL (gi x 718) s) (fun w c => GI mX8_longest 18 [some (.ref 717), some (.int (nI s)), some (.int c.1), some (.int c.2), some (.int (nI w))] [] KW x _) W (0, 0) ?_ (fun w c hw n1 => ?_)
    · exact v_X8_longest_18 km R.2.1.1 km1 R.2.1.2.2.1 km1 ⟨v0 (k := 0) (by decide) rfl rfl, fun _ => ⟨rfl, R⟩, fun z => absurd (by rw [ht.1]; exact Int32.le_refl _) z⟩
    · refine v_X8_longest_18 km R.2.1.1 km1 R.2.1.2.2.1 km1 ⟨v0 (k := 0) (by decide) rfl rfl, fun z => absurd (by rw [ht.1] at z; exact z) (nI_ge hw (by omega)), fun _ => ⟨l24_nI (by omega) rfl, ?_⟩⟩
      rw [nI_clamp (show s < 2 ^ 31 by omega), nI_1, f_has_tb _ (by omega)]
      exact ⟨fun z => n1 (_, 0) (if_neg z), fun z => n1 (_, _) (if_pos z)⟩
  refine v_X7_longest_0 k0 R.1.2.1 (ks0 E.1) E.2.1.2.2.1 (ks3 E.1) ?_
  rw [hn.2.2.1]
  refine ⟨fun z => ?_, fun z => by rwa [if_neg z] at rf⟩
  rw [if_pos z] at rf
  obtain ⟨s, hs, rfl⟩ := inN (by omega) z
  obtain ⟨p, e1, e2, e3, e4, -, e6⟩ := E.ser hs
  rw [nI_clamp (show s < 2 ^ 31 by omega)] at rf ⊢
  refine ⟨vp_in_nI (by omega) (by decide), p, e1, e2, ?_⟩
  rw [e3.1 9 (by decide) (by decide)]
  refine lp_acc (stL (gi x 718) s) (fun w c => GI mX7_longest 32 [some (.ref 0), some (.int (nI s)), some (.int (so (gi x 718) s 9)), some (.int c.1), some (.int c.2), some (.int (nI w))] [] KW x _) W (0, 0) ?_ (fun w c hw n1 => ?_)
  · exact v_X7_longest_32 k0 R.1.2.1 (ks0 E.1) ⟨fun _ => rf, fun z => absurd (by rw [hn.1]; exact Int32.le_refl _) z⟩
  · refine v_X7_longest_32 k0 R.1.2.1 (ks0 E.1) ⟨fun z => absurd (by rw [hn.1] at z; exact z) (nI_ge hw (by omega)), fun _ => ?_⟩
    rw [nI_1, f_bit_tb _ (by omega)]
    exact ⟨fun z => n1 (_, 0) (if_neg z), fun z => n1 (_, _) (if_pos z)⟩
theorem eq_best (a : Int32) : Both mX7_best mX8_best [.int a] := by
  intro x R
  obtain ⟨W, C, S, A, N, E, ⟨hc, -⟩, -⟩ := R.sea
  have hn := E.nums
  have ht := Rel.t2 E
  have hS : S ≤ 24 := hn.2.2.2.2.2.2.1
  have hC : C ≤ 8 := hn.2.2.2.2.2.1
  have rf : mSI mX8_best [.ref 717, .int a] KW x (fun r' z => (if 0 < nI W ∧ 0 ≤ a then lpR (stB (gi x 718) S C a) (fun _ => -1) C 0 () else -2) = r' ∧ Rel z) := by
    refine v_X8_best_0 km R.2.1.1 km1 ⟨v0 (k := 0) (by decide) rfl rfl, ?_⟩
    rw [ht.1]
    refine ⟨fun z => ⟨if_neg (fun w => z w.1), R⟩, fun z => ⟨fun z2 => ?_, fun z2 => ⟨if_neg (fun w => z2 w.2), R⟩⟩⟩
    rw [if_pos ⟨z, z2⟩]
    refine lp_gen (stB (gi x 718) S C a) (fun _ => -1) (fun c _ => GI mX8_best 16 [some (.ref 717), some (.int a), some (.int (nI c)), none, none] [] KW x _) (fun r => lpR (stB (gi x 718) S C a) (fun _ => -1) C 0 () = r ∧ Rel x) C (fun _ k => ?_) (fun c _ hc2 n1 n2 => ?_) C 0 () (by omega) ⟨rfl, R⟩
    · exact v_X8_best_16 km R.2.1.1 km1 ⟨v0 (k := 1) (by decide) rfl rfl, fun _ => k, fun z => absurd (by rw [ht.2.1]; exact Int32.le_refl _) z⟩
    · refine v_X8_best_16 km R.2.1.1 km1 ⟨v0 (k := 1) (by decide) rfl rfl, fun z => absurd (by rw [ht.2.1] at z; exact z) (nI_ge hc2 (by omega)), fun _ => ?_⟩
      refine lp_acc (ahd (gi x 718) S c) (fun d b => GI mX8_best 31 [some (.ref 717), some (.int a), some (.int (nI c)), some (.int b), some (.int (nI d))] [] KW x _) C 0 ?_ (fun d b hd m1 => ?_)
      · refine v_X8_best_31 km R.2.1.1 km1 ⟨v0 (k := 1) (by decide) rfl rfl, fun _ => ?_, fun z => absurd (by rw [ht.2.1]; exact Int32.le_refl _) z⟩
        rw [nI_1]
        exact ⟨fun z => n1 () (if_neg z), fun z => n2 _ (if_pos z)⟩
      · refine v_X8_best_31 km R.2.1.1 km1 ⟨v0 (k := 1) (by decide) rfl rfl, fun z => absurd (by rw [ht.2.1] at z; exact z) (nI_ge hd (by omega)), fun _ => ?_⟩
        rw [nI_1, Int32.add_zero, nI_eq (by omega) (by omega)]
        refine ⟨fun z => m1 _ (if_pos z), fun z => sp_X8_isBetter R.2.1 ht.2.2.1 hS ⟨fun z3 => m1 _ ?_, fun z3 => m1 _ ?_⟩⟩
        · show (if d = c then b else b + bP _) = b
          rw [if_neg z, z3, Int32.add_zero]
        · show (if d = c then b else b + bP _) = b + 1
          rw [if_neg z]
          rcases bP_01 (btr (gi x 718) S (nI d) (nI c)) with u | u
          · exact absurd u z3
          · rw [u]
  refine v_X7_best_0 k0 R.1.2.1 (ks0 E.1) ?_
  rw [hn.1]
  refine ⟨fun z => by rwa [if_neg (fun w => z w.1)] at rf, fun z => ⟨fun z2 => ?_, fun z2 => by rwa [if_neg (fun w => z2 w.2)] at rf⟩⟩
  rw [if_pos ⟨z, z2⟩] at rf
  refine lp_gen (stB (gi x 718) S C a) (fun _ => -1) (fun c _ => GI mX7_best 16 [some (.ref 0), some (.int a), some (.int (nI c)), none, none] [] KW x _) (fun r => mSI mX8_best [.ref 717, .int a] KW x (fun r' z => r = r' ∧ Rel z)) C (fun _ k => ?_) (fun c _ hc2 n1 n2 => ?_) C 0 () (by omega) rf
  · exact v_X7_best_16 k0 R.1.2.2.1 (by decide) ⟨fun _ => k, fun z => absurd (by rw [hc]; exact Int32.le_refl _) z⟩
  · refine v_X7_best_16 k0 R.1.2.2.1 (by decide) ⟨fun z => absurd (by rw [hc] at z; exact z) (nI_ge hc2 (by omega)), fun _ => ?_⟩
    refine lp_acc (ahd (gi x 718) S c) (fun d b => GI mX7_best 32 [some (.ref 0), some (.int a), some (.int (nI c)), some (.int b), some (.int (nI d))] [] KW x _) C 0 ?_ (fun d b hd m1 => ?_)
    · refine v_X7_best_32 k0 R.1.2.2.1 (by decide) ⟨fun _ => ?_, fun z => absurd (by rw [hc]; exact Int32.le_refl _) z⟩
      rw [nI_1]
      exact ⟨fun z => n1 () (if_neg z), fun z => n2 _ (if_pos z)⟩
    · refine v_X7_best_32 k0 R.1.2.2.1 (by decide) ⟨fun z => absurd (by rw [hc] at z; exact z) (nI_ge hd (by omega)), fun _ => ?_⟩
      rw [nI_1, nI_eq (by omega) (by omega)]
      refine ⟨fun z => m1 _ (if_pos z), fun z => sp_X7_usesMore R.1 E ⟨fun z3 => m1 _ ?_, fun z3 => m1 _ ?_⟩⟩
      · show (if d = c then b else b + bP _) = b
        rw [if_neg z, z3, Int32.add_zero]
      · show (if d = c then b else b + bP _) = b + 1
        rw [if_neg z]
        rcases bP_01 (btr (gi x 718) S (nI d) (nI c)) with u | u
        · exact absurd u z3
        · rw [u]
theorem eq_most (a k9 : Int32) : Both mX7_most mX8_most [.int a, .int k9] := by
  intro x R
  obtain ⟨W, C, S, A, N, E, ⟨hc, -⟩, -⟩ := R.sea
  have hn := E.nums
  have ht := Rel.t2 E
  have hS : S ≤ 24 := hn.2.2.2.2.2.2.1
  have hC : C ≤ 8 := hn.2.2.2.2.2.1
  have hb : ∀ {b : Int32}, (0 ≤ b ∧ b < 7) → ¬ b = -1 := fun z e => absurd (e ▸ z.1) (by decide)
  have rf : mSI mX8_most [.ref 717, .int a, .int k9] KW x (fun r' z => (if (0 < nI W ∧ 0 ≤ a ∧ a < 7) ∧ 0 ≤ k9 then lpR (stM (gi x 718) S C a k9) (fun _ => -1) C 0 () else -2) = r' ∧ Rel z) := by
    refine v_X8_most_0 km R.2.1.1 km1 ⟨v0 (k := 0) (by decide) rfl rfl, ?_⟩
    rw [ht.1, d7]
    refine ⟨fun z => ⟨if_neg (fun w => z w.1), R⟩, fun z => ⟨fun z2 => ?_, fun z2 => ⟨if_neg (fun w => z2 w.2), R⟩⟩⟩
    rw [if_pos ⟨z, z2⟩]
    have hd1 := hb z.2
    refine lp_gen (stM (gi x 718) S C a k9) (fun _ => -1) (fun c _ => GI mX8_most 17 [some (.ref 717), some (.int a), some (.int k9), some (.int (nI c)), none, none] [] KW x _) (fun r => lpR (stM (gi x 718) S C a k9) (fun _ => -1) C 0 () = r ∧ Rel x) C (fun _ k => ?_) (fun c _ hc2 n1 n2 => ?_) C 0 () (by omega) ⟨rfl, R⟩
    · exact v_X8_most_17 km R.2.1.1 km1 ⟨v0 (k := 1) (by decide) rfl rfl, fun _ => k, fun z => absurd (by rw [ht.2.1]; exact Int32.le_refl _) z⟩
    · refine v_X8_most_17 km R.2.1.1 km1 ⟨v0 (k := 1) (by decide) rfl rfl, fun z => absurd (by rw [ht.2.1] at z; exact z) (nI_ge hc2 (by omega)), fun _ => ?_⟩
      refine lp_acc (inc (cMo (gi x 718) S a c)) (fun d b => GI mX8_most 33 [some (.ref 717), some (.int a), some (.int k9), some (.int (nI c)), some (.int b), some (.int (nI d))] [] KW x _) C 0 ?_ (fun d b hd m1 => ?_)
      · refine v_X8_most_33 km R.2.1.1 km1 ⟨v0 (k := 1) (by decide) rfl rfl, fun _ => ?_, fun z => absurd (by rw [ht.2.1]; exact Int32.le_refl _) z⟩
        rw [nI_1]
        exact ⟨fun z => n1 () (if_neg z), fun z => n2 _ (if_pos z)⟩
      · refine v_X8_most_33 km R.2.1.1 km1 ⟨v0 (k := 1) (by decide) rfl rfl, fun z => absurd (by rw [ht.2.1] at z; exact z) (nI_ge hd (by omega)), fun _ => ?_⟩
        refine sp_X8_basisOn R.2.1 ht.2.2.1 hS hd1 (sp_X8_basisOn R.2.1 ht.2.2.1 hS hd1 ?_)
        rw [nI_1, Int32.add_zero]
        refine ⟨fun z => m1 _ (if_pos (Or.inl z)), fun z => sp_X8_basisOn R.2.1 ht.2.2.1 hS hd1 (sp_X8_basisOn R.2.1 ht.2.2.1 hS hd1 ⟨fun z3 => m1 _ (if_neg (fun u => u.elim z (fun v => z3 v.1))), fun z3 => ⟨fun z4 => m1 _ (if_neg (fun u => u.elim z (fun v => ?_))), fun z4 => m1 _ (if_pos (Or.inr ⟨z3, ?_⟩))⟩⟩)⟩
        · exact absurd z4 (nI_ge v.2 (by omega))
        · exact (nI_ltI (by omega) (by omega)).mp (Int32.not_le.mp z4)
  refine v_X7_most_0 k0 R.1.2.1 (ks0 E.1) ?_
  rw [hn.1]
  refine ⟨fun z => by rwa [if_neg (fun w => z w.1)] at rf, fun z => ⟨fun z2 => ?_, fun z2 => by rwa [if_neg (fun w => z2 w.2)] at rf⟩⟩
  rw [if_pos ⟨z, z2⟩] at rf
  refine lp_gen (stM (gi x 718) S C a k9) (fun _ => -1) (fun c _ => GI mX7_most 17 [some (.ref 0), some (.int a), some (.int k9), some (.int (nI c)), none, none, none, none] [] KW x _) (fun r => mSI mX8_most [.ref 717, .int a, .int k9] KW x (fun r' z => r = r' ∧ Rel z)) C (fun _ k => ?_) (fun c _ hc2 n1 n2 => ?_) C 0 () (by omega) rf
  · exact v_X7_most_17 k0 R.1.2.2.1 (by decide) R.1.2.1 (ks0 E.1) ⟨fun _ => k, fun z => absurd (by rw [hc]; exact Int32.le_refl _) z⟩
  · refine v_X7_most_17 k0 R.1.2.2.1 (by decide) R.1.2.1 (ks0 E.1) ⟨fun z => absurd (by rw [hc] at z; exact z) (nI_ge hc2 (by omega)), fun _ => sp_X4_basisOf E ?_⟩
    refine lp_acc (inc (cMo (gi x 718) S a c)) (fun d b => GI mX7_most 45 [some (.ref 0), some (.int a), some (.int k9), some (.int (nI c)), some (.int (bOf (gi x 718) S (nI c) a)), some (.int b), some (.int (nI d)), none] [] KW x _) C 0 ?_ (fun d b hd m1 => ?_)
    · refine v_X7_most_45 k0 R.1.2.2.1 (by decide) R.1.2.1 (ks0 E.1) ⟨fun _ => ?_, fun z => absurd (by rw [hc]; exact Int32.le_refl _) z⟩
      rw [nI_1]
      exact ⟨fun z => n1 () (if_neg z), fun z => n2 _ (if_pos z)⟩
    · refine v_X7_most_45 k0 R.1.2.2.1 (by decide) R.1.2.1 (ks0 E.1) ⟨fun z => absurd (by rw [hc] at z; exact z) (nI_ge hd (by omega)), fun _ => sp_X4_basisOf E ?_⟩
      rw [nI_1]
      refine ⟨fun z => m1 _ (if_pos (Or.inl z)), fun z => ⟨fun z3 => m1 _ (if_neg (fun u => u.elim z (fun v => z3 v.1))), fun z3 => ⟨fun z4 => m1 _ (if_neg (fun u => u.elim z (fun v => ?_))), fun z4 => m1 _ (if_pos (Or.inr ⟨z3, ?_⟩))⟩⟩⟩
      · exact absurd z4 (nI_ge v.2 (by omega))
      · exact (nI_ltI (by omega) (by omega)).mp (Int32.not_le.mp z4)


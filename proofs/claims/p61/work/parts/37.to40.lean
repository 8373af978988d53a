/-! 37.reads5.lean.txt -/
section
abbrev c_of (T : TT) (a b : Int32) (s : Nat) : Prop := so T s 0 = a ∧ (b = -1 ∨ so T s 1 = b)
def stL (T : TT) (s : Nat) : Nat → Int32 × Int32 → Int32 × Int32 := fun w a => if tb (so T s 9) w = true then ((if a.1 < (a.2 + 1) then (a.2 + 1) else a.1), a.2 + 1) else ((if a.1 < 0 then 0 else a.1), 0)
noncomputable def ahd (T : TT) (S : Nat) (c : Nat) : Nat → Int32 → Int32 := fun d a => if d = c then a else a + bP (btr T S (nI d) (nI c))
noncomputable def stB (T : TT) (S C : Nat) (k : Int32) : Nat → Unit → Unit ⊕ Int32 := fun c _ => if accT (ahd T S c) C 0 = k then .inr (nI c) else .inl ()
abbrev cMo (T : TT) (S : Nat) (day : Int32) (c d : Nat) : Prop := bOf T S (nI c) day < bOf T S (nI d) day ∨ (bOf T S (nI d) day = bOf T S (nI c) day ∧ d < c)
def stM (T : TT) (S C : Nat) (day k : Int32) : Nat → Unit → Unit ⊕ Int32 := fun c _ => if accT (inc (cMo T S day c)) C 0 = k then .inr (nI c) else .inl ()
set_option maxHeartbeats 2000000 in
theorem v_X7_of_0 {K : Sh} {x : Cn} {Q : Int32 → Cn → Prop} {b0 : Nat} {l1 : Int32} {l2 : Int32} {b0_3 : Nat} {b0_2 : Nat} (k_b0 : kk K b0 = some (7, 0)) (g_b0_3 : gr x b0 3 = some b0_3) (k_b0_3 : kk K b0_3 = some (1, 0)) (g_b0_2 : gr x b0 2 = some b0_2) (k_b0_2 : kk K b0_2 = some (4, 0)) (K0 : (¬ (0 ≤ l1 ∧ l1 < gi x b0_3 0) → (Q (-2) x)) ∧ ((0 ≤ l1 ∧ l1 < gi x b0_3 0) → ((l2 = (-1) → (GI mX7_of 29 [some (.ref b0), some (.int l1), some (.int l2), some (.int 0), some (.int 0)] [] K x Q)) ∧ (¬ l2 = (-1) → (((0 < gi x b0_2 0 ∧ 0 ≤ l2 ∧ l2 < 7) → (GI mX7_of 29 [some (.ref b0), some (.int l1), some (.int l2), some (.int 0), some (.int 0)] [] K x Q)) ∧ (¬ (0 < gi x b0_2 0 ∧ 0 ≤ l2 ∧ l2 < 7) → (Q (-2) x))))))) : mSI mX7_of [.ref b0, .int l1, .int l2] K x Q := by
  refine s_I (by decide) (by simp [Value.category]) (Nat.le_of_ble_eq_true rfl) ?_
  show mGM mX7_of 0 [some (.ref b0), some (.int l1), some (.int l2), none, none] [] (hp K x) (PI K Q)
  refine r_aload_n (pc := 0) dX7_of_0 rfl ?_
  refine r_iload_n (pc := 1) dX7_of_1 rfl ?_
  refine s_VI (pc := 2) mX7_isCarrier (ci := 7) (a := b0) (As := [.int l1]) dX7_of_2 lk_X7_109 in_X7_isCarrier mo_X7_isCarrier ⟨by decide, rfl⟩ ⟨by decide, by decide⟩ (Nat.le_of_ble_eq_true rfl) k_b0 (sp_X7_isCarrier k_b0 g_b0_3 k_b0_3 ?_)
  refine r_if_eq (pc := 5) (tgt := 21) dX7_of_5 (by decide) (fun q => ?_) (fun q => ?_)
  · have q := (b2i_z _).mp q
    have K0 := K0.1 q
    refine r_bipush (pc := 21) (v := (-2)) dX7_of_21 (by decide) ?_
    exact s_iret rfl dX7_of_23 K0
  · have q := b2i_nz q
    have K0 := K0.2 q
    refine r_iload_n (pc := 8) dX7_of_8 rfl ?_
    refine r_iconst (pc := 9) (v := (-1)) dX7_of_9 (by decide) ?_
    refine r_icmp_eq (pc := 10) (tgt := 24) dX7_of_10 (by decide) (fun q => ?_) (fun q => ?_)
    · have K0 := K0.1 q
      refine r_iconst (pc := 24) (v := 0) dX7_of_24 (by decide) ?_
      refine r_istore_n (pc := 25) dX7_of_25 (by decide) ?_
      refine r_iconst (pc := 26) (L := [some (.ref b0), some (.int l1), some (.int l2), some (.int 0), none]) (v := 0) dX7_of_26 (by decide) ?_
      refine r_istore (pc := 27) dX7_of_27 (by decide) ?_
      exact r_le (L' := [some (.ref b0), some (.int l1), some (.int l2), some (.int 0), some (.int 0)]) ⟨rfl, ⟨rfl, ⟨rfl, ⟨rfl, ⟨rfl, trivial⟩⟩⟩⟩⟩ K0
    · have K0 := K0.2 q
      refine r_aload_n (pc := 13) dX7_of_13 rfl ?_
      refine r_iload_n (pc := 14) dX7_of_14 rfl ?_
      refine s_VI (pc := 15) mX7_isDay (ci := 7) (a := b0) (As := [.int l2]) dX7_of_15 lk_X7_245 in_X7_isDay mo_X7_isDay ⟨by decide, rfl⟩ ⟨by decide, by decide⟩ (Nat.le_of_ble_eq_true rfl) k_b0 (sp_X7_isDay k_b0 g_b0_2 k_b0_2 ?_)
      refine r_if_ne (pc := 18) (tgt := 24) dX7_of_18 (by decide) (fun q => ?_) (fun q => ?_)
      · have q := b2i_nz q
        have K0 := K0.1 q
        refine r_iconst (pc := 24) (v := 0) dX7_of_24 (by decide) ?_
        refine r_istore_n (pc := 25) dX7_of_25 (by decide) ?_
        refine r_iconst (pc := 26) (L := [some (.ref b0), some (.int l1), some (.int l2), some (.int 0), none]) (v := 0) dX7_of_26 (by decide) ?_
        refine r_istore (pc := 27) dX7_of_27 (by decide) ?_
        exact r_le (L' := [some (.ref b0), some (.int l1), some (.int l2), some (.int 0), some (.int 0)]) ⟨rfl, ⟨rfl, ⟨rfl, ⟨rfl, ⟨rfl, trivial⟩⟩⟩⟩⟩ K0
      · have q := (b2i_z _).mp q
        have K0 := K0.2 q
        refine r_bipush (pc := 21) (v := (-2)) dX7_of_21 (by decide) ?_
        exact s_iret rfl dX7_of_23 K0
set_option maxHeartbeats 2000000 in
theorem v_X7_of_29 {K : Sh} {x : Cn} {Q : Int32 → Cn → Prop} {b0 : Nat} {l1 : Int32} {l2 : Int32} {l3 : Int32} {l4 : Int32} {b0_2 : Nat} {b0_2_7 : Nat} {n_b0_2_7 : Nat} (k_b0 : kk K b0 = some (7, 0)) (g_b0_2 : gr x b0 2 = some b0_2) (k_b0_2 : kk K b0_2 = some (4, 0)) (g_b0_2_7 : gr x b0_2 7 = some b0_2_7) (k_b0_2_7 : kk K b0_2_7 = some (23, n_b0_2_7)) (K0 : ((gi x b0_2 3) ≤ l4 → (Q l3 x)) ∧ (¬ (gi x b0_2 3) ≤ l4 → (vp_in l4 n_b0_2_7 ∧ (∃ c_3 : Nat, gr x b0_2_7 ((l4 : Int32).toNatClampNeg) = some c_3 ∧ (kk K c_3 = some (5, 0) ∧ ((¬ (gi x c_3 0 = l1 ∧ (l2 = -1 ∨ gi x c_3 1 = l2)) → (GI mX7_of 29 [some (.ref b0), some (.int l1), some (.int l2), some (.int l3), some (.int (l4 + 1))] [] K x Q)) ∧ ((gi x c_3 0 = l1 ∧ (l2 = -1 ∨ gi x c_3 1 = l2)) → (GI mX7_of 29 [some (.ref b0), some (.int l1), some (.int l2), some (.int (l3 ||| (1 <<< (l4 &&& 31)))), some (.int (l4 + 1))] [] K x Q)))))))) : GI mX7_of 29 [some (.ref b0), some (.int l1), some (.int l2), some (.int l3), some (.int l4)] [] K x Q := by
  show mGM mX7_of 29 [some (.ref b0), some (.int l1), some (.int l2), some (.int l3), some (.int l4)] [] (hp K x) (PI K Q)
  refine r_iload (pc := 29) dX7_of_29 rfl ?_
  refine r_aload_n (pc := 31) dX7_of_31 rfl ?_
  refine s_getR (pc := 32) dX7_of_32 fl_X7_20 rfl k_b0 g_b0_2 ?_
  refine s_getI (pc := 35) dX7_of_35 fl_X7_97 rfl k_b0_2 ?_
  refine r_icmp_ge (pc := 38) (tgt := 72) dX7_of_38 (by decide) (fun q => ?_) (fun q => ?_)
  · have K0 := K0.1 q
    refine r_iload_n (pc := 72) dX7_of_72 rfl ?_
    exact s_iret rfl dX7_of_73 K0
  · have K0 := K0.2 q
    refine r_aload_n (pc := 41) dX7_of_41 rfl ?_
    refine s_getR (pc := 42) dX7_of_42 fl_X7_20 rfl k_b0 g_b0_2 ?_
    refine s_getR (pc := 45) dX7_of_45 fl_X7_135 rfl k_b0_2 g_b0_2_7 ?_
    refine r_iload (pc := 48) dX7_of_48 rfl ?_
    obtain ⟨i_2, K0⟩ := K0
    obtain ⟨c_3, g_4, K0⟩ := K0
    refine s_aald (pc := 50) dX7_of_50 (by decide) rfl k_b0_2_7 i_2 g_4 ?_
    refine r_iload_n (pc := 51) dX7_of_51 rfl ?_
    refine r_iload_n (pc := 52) dX7_of_52 rfl ?_
    obtain ⟨e_5, K0⟩ := K0
    refine s_VI (pc := 53) mX5_isOf (ci := 5) (a := c_3) (As := [.int l1, .int l2]) dX7_of_53 lk_X7_248 in_X5_isOf mo_X5_isOf ⟨by decide, rfl⟩ ⟨by decide, by decide⟩ (Nat.le_of_ble_eq_true rfl) e_5 (sp_X5_isOf e_5 ?_)
    refine r_if_eq (pc := 56) (tgt := 66) dX7_of_56 (by decide) (fun q => ?_) (fun q => ?_)
    · have q := (b2i_z _).mp q
      have K0 := K0.1 q
      refine r_iinc (pc := 66) (v := l4 + 1) dX7_of_66 rfl rfl (by decide) ?_
      refine r_goto (pc := 69) (L := [some (.ref b0), some (.int l1), some (.int l2), some (.int l3), some (.int (l4 + 1))]) (tgt := 29) dX7_of_69 (by decide) ?_
      exact r_le (L' := [some (.ref b0), some (.int l1), some (.int l2), some (.int l3), some (.int (l4 + 1))]) ⟨rfl, ⟨rfl, ⟨rfl, ⟨rfl, ⟨rfl, trivial⟩⟩⟩⟩⟩ K0
    · have q := b2i_nz q
      have K0 := K0.2 q
      refine r_iload_n (pc := 59) dX7_of_59 rfl ?_
      refine r_iconst (pc := 60) (v := 1) dX7_of_60 (by decide) ?_
      refine r_iload (pc := 61) dX7_of_61 rfl ?_
      refine r_ishl (pc := 63) dX7_of_63 ?_
      refine r_ior (pc := 64) dX7_of_64 ?_
      refine r_istore_n (pc := 65) dX7_of_65 (by decide) ?_
      refine r_iinc (pc := 66) (L := [some (.ref b0), some (.int l1), some (.int l2), some (.int (l3 ||| (1 <<< (l4 &&& 31)))), some (.int l4)]) (v := l4 + 1) dX7_of_66 rfl rfl (by decide) ?_
      refine r_goto (pc := 69) (L := [some (.ref b0), some (.int l1), some (.int l2), some (.int (l3 ||| (1 <<< (l4 &&& 31)))), some (.int (l4 + 1))]) (tgt := 29) dX7_of_69 (by decide) ?_
      exact r_le (L' := [some (.ref b0), some (.int l1), some (.int l2), some (.int (l3 ||| (1 <<< (l4 &&& 31)))), some (.int (l4 + 1))]) ⟨rfl, ⟨rfl, ⟨rfl, ⟨rfl, ⟨rfl, trivial⟩⟩⟩⟩⟩ K0
set_option maxHeartbeats 2000000 in
theorem v_X8_of_0 {K : Sh} {x : Cn} {Q : Int32 → Cn → Prop} {b0 : Nat} {l1 : Int32} {l2 : Int32} {b0_1 : Nat} {n_b0_1 : Nat} (k_b0 : kk K b0 = some (8, 0)) (g_b0_1 : gr x b0 1 = some b0_1) (k_b0_1 : kk K b0_1 = some (20, n_b0_1)) (K0 : vp_in 1 n_b0_1 ∧ ((¬ (0 ≤ l1 ∧ l1 ≤ gi x b0_1 1 - 1) → (Q (-2) x)) ∧ ((0 ≤ l1 ∧ l1 ≤ gi x b0_1 1 - 1) → ((((-1) ≤ l2 ∧ l2 ≤ 6) → (GI mX8_of 30 [some (.ref b0), some (.int l1), some (.int l2), some (.int 0), some (.int 0)] [] K x Q)) ∧ (¬ ((-1) ≤ l2 ∧ l2 ≤ 6) → (Q (-2) x)))))) : mSI mX8_of [.ref b0, .int l1, .int l2] K x Q := by
  refine s_I (by decide) (by simp [Value.category]) (Nat.le_of_ble_eq_true rfl) ?_
  show mGM mX8_of 0 [some (.ref b0), some (.int l1), some (.int l2), none, none] [] (hp K x) (PI K Q)
  refine r_aload_n (pc := 0) dX8_of_0 rfl ?_
  refine r_iload_n (pc := 1) dX8_of_1 rfl ?_
  obtain ⟨i_1, K0⟩ := K0
  refine s_VI (pc := 2) mX8_isCarrier (ci := 8) (a := b0) (As := [.int l1]) dX8_of_2 lk_X8_265 in_X8_isCarrier mo_X8_isCarrier ⟨by decide, rfl⟩ ⟨by decide, by decide⟩ (Nat.le_of_ble_eq_true rfl) k_b0 (sp_X8_isCarrier k_b0 g_b0_1 k_b0_1 i_1 ?_)
  refine r_if_eq (pc := 5) (tgt := 22) dX8_of_5 (by decide) (fun q => ?_) (fun q => ?_)
  · have q := (b2i_z _).mp q
    have K0 := K0.1 q
    refine r_bipush (pc := 22) (v := (-2)) dX8_of_22 (by decide) ?_
    exact s_iret rfl dX8_of_24 K0
  · have q := b2i_nz q
    have K0 := K0.2 q
    refine r_iload_n (pc := 8) dX8_of_8 rfl ?_
    refine r_i2l (pc := 9) dX8_of_9 ?_
    refine r_ldc2 (pc := 10) (v := (-1)) dX8_of_10 cn_X8_311 ?_
    refine r_ldc2 (pc := 13) (v := 6) dX8_of_13 cn_X8_53 ?_
    refine s_SI (pc := 16) mX8_in (As := [.long ((l2 : Int32).toInt64), .long (-1), .long 6]) dX8_of_16 lk_X8_45 st_X8_in mo_X8_in ⟨by decide, by decide⟩ (Nat.le_of_ble_eq_true rfl) (sq_X8_in (v := l2) (lo := (-1)) (hi := 6) rfl (by decide) (by decide) ?_)
    refine r_if_ne (pc := 19) (tgt := 25) dX8_of_19 (by decide) (fun q => ?_) (fun q => ?_)
    · have q := b2i_nz q
      have K0 := K0.1 q
      refine r_iconst (pc := 25) (v := 0) dX8_of_25 (by decide) ?_
      refine r_istore_n (pc := 26) dX8_of_26 (by decide) ?_
      refine r_iconst (pc := 27) (L := [some (.ref b0), some (.int l1), some (.int l2), some (.int 0), none]) (v := 0) dX8_of_27 (by decide) ?_
      refine r_istore (pc := 28) dX8_of_28 (by decide) ?_
      exact r_le (L' := [some (.ref b0), some (.int l1), some (.int l2), some (.int 0), some (.int 0)]) ⟨rfl, ⟨rfl, ⟨rfl, ⟨rfl, ⟨rfl, trivial⟩⟩⟩⟩⟩ K0
    · have q := (b2i_z _).mp q
      have K0 := K0.2 q
      refine r_bipush (pc := 22) (v := (-2)) dX8_of_22 (by decide) ?_
      exact s_iret rfl dX8_of_24 K0
set_option maxHeartbeats 2000000 in
theorem v_X8_of_30 {K : Sh} {x : Cn} {Q : Int32 → Cn → Prop} {b0 : Nat} {l1 : Int32} {l2 : Int32} {l3 : Int32} {l4 : Int32} {b0_1 : Nat} {n_b0_1 : Nat} {b0_3 : Nat} {n_b0_3 : Nat} (k_b0 : kk K b0 = some (8, 0)) (g_b0_1 : gr x b0 1 = some b0_1) (k_b0_1 : kk K b0_1 = some (20, n_b0_1)) (g_b0_3 : gr x b0 3 = some b0_3) (k_b0_3 : kk K b0_3 = some (20, n_b0_3)) (K0 : vp_in 2 n_b0_1 ∧ (((gi x b0_1 2) ≤ l4 → (Q l3 x)) ∧ (¬ (gi x b0_1 2) ≤ l4 → ((l24 l4 n_b0_3) ∧ ((¬ (so (gi x b0_3) (l4 : Int32).toNatClampNeg 0) = l1 → (GI mX8_of 30 [some (.ref b0), some (.int l1), some (.int l2), some (.int (l3 ||| 0)), some (.int (l4 + 1))] [] K x Q)) ∧ ((so (gi x b0_3) (l4 : Int32).toNatClampNeg 0) = l1 → ((l2 = (-1) → (GI mX8_of 30 [some (.ref b0), some (.int l1), some (.int l2), some (.int (l3 ||| (1 <<< (l4 &&& 31)))), some (.int (l4 + 1))] [] K x Q)) ∧ (¬ l2 = (-1) → ((¬ (so (gi x b0_3) (l4 : Int32).toNatClampNeg 1) = l2 → (GI mX8_of 30 [some (.ref b0), some (.int l1), some (.int l2), some (.int (l3 ||| 0)), some (.int (l4 + 1))] [] K x Q)) ∧ ((so (gi x b0_3) (l4 : Int32).toNatClampNeg 1) = l2 → (GI mX8_of 30 [some (.ref b0), some (.int l1), some (.int l2), some (.int (l3 ||| (1 <<< (l4 &&& 31)))), some (.int (l4 + 1))] [] K x Q))))))))))) : GI mX8_of 30 [some (.ref b0), some (.int l1), some (.int l2), some (.int l3), some (.int l4)] [] K x Q := by
  show mGM mX8_of 30 [some (.ref b0), some (.int l1), some (.int l2), some (.int l3), some (.int l4)] [] (hp K x) (PI K Q)
  refine r_iload (pc := 30) dX8_of_30 rfl ?_
  refine r_aload_n (pc := 32) dX8_of_32 rfl ?_
  refine s_getR (pc := 33) dX8_of_33 fl_X8_9 rfl k_b0 g_b0_1 ?_
  refine r_iconst (pc := 36) (v := 2) dX8_of_36 (by decide) ?_
  obtain ⟨i_1, K0⟩ := K0
  refine s_iald (pc := 37) dX8_of_37 k_b0_1 i_1 ?_
  refine r_icmp_ge (pc := 38) (tgt := 85) dX8_of_38 (by decide) (fun q => ?_) (fun q => ?_)
  · have K0 := K0.1 q
    refine r_iload_n (pc := 85) dX8_of_85 rfl ?_
    exact s_iret rfl dX8_of_86 K0
  · have K0 := K0.2 q
    refine r_iload_n (pc := 41) dX8_of_41 rfl ?_
    refine r_aload_n (pc := 42) dX8_of_42 rfl ?_
    refine r_iload (pc := 43) dX8_of_43 rfl ?_
    refine r_iconst (pc := 45) (v := 0) dX8_of_45 (by decide) ?_
    obtain ⟨p_3, K0⟩ := K0
    refine s_VI (pc := 46) mX8_one (ci := 8) (a := b0) (As := [.int l4, .int 0]) dX8_of_46 lk_X8_67 in_X8_one mo_X8_one ⟨by decide, rfl⟩ ⟨by decide, by decide⟩ (Nat.le_of_ble_eq_true rfl) k_b0 (sr_X8_one k_b0 g_b0_3 k_b0_3 p_3 ⟨by decide, by decide⟩ ?_)
    refine r_iload_n (pc := 49) dX8_of_49 rfl ?_
    refine r_icmp_ne (pc := 50) (tgt := 76) dX8_of_50 (by decide) (fun q => ?_) (fun q => ?_)
    · have K0 := K0.1 q
      refine r_iconst (pc := 76) (v := 0) dX8_of_76 (by decide) ?_
      refine r_ior (pc := 77) dX8_of_77 ?_
      refine r_istore_n (pc := 78) dX8_of_78 (by decide) ?_
      refine r_iinc (pc := 79) (L := [some (.ref b0), some (.int l1), some (.int l2), some (.int (l3 ||| 0)), some (.int l4)]) (v := l4 + 1) dX8_of_79 rfl rfl (by decide) ?_
      refine r_goto (pc := 82) (L := [some (.ref b0), some (.int l1), some (.int l2), some (.int (l3 ||| 0)), some (.int (l4 + 1))]) (tgt := 30) dX8_of_82 (by decide) ?_
      exact r_le (L' := [some (.ref b0), some (.int l1), some (.int l2), some (.int (l3 ||| 0)), some (.int (l4 + 1))]) ⟨rfl, ⟨rfl, ⟨rfl, ⟨rfl, ⟨rfl, trivial⟩⟩⟩⟩⟩ K0
    · have K0 := K0.2 q
      refine r_iload_n (pc := 53) dX8_of_53 rfl ?_
      refine r_iconst (pc := 54) (v := (-1)) dX8_of_54 (by decide) ?_
      refine r_icmp_eq (pc := 55) (tgt := 69) dX8_of_55 (by decide) (fun q => ?_) (fun q => ?_)
      · have K0 := K0.1 q
        refine r_iconst (pc := 69) (v := 1) dX8_of_69 (by decide) ?_
        refine r_iload (pc := 70) dX8_of_70 rfl ?_
        refine r_ishl (pc := 72) dX8_of_72 ?_
        refine r_goto (pc := 73) (tgt := 77) dX8_of_73 (by decide) ?_
        refine r_ior (pc := 77) dX8_of_77 ?_
        refine r_istore_n (pc := 78) dX8_of_78 (by decide) ?_
        refine r_iinc (pc := 79) (L := [some (.ref b0), some (.int l1), some (.int l2), some (.int (l3 ||| (1 <<< (l4 &&& 31)))), some (.int l4)]) (v := l4 + 1) dX8_of_79 rfl rfl (by decide) ?_
        refine r_goto (pc := 82) (L := [some (.ref b0), some (.int l1), some (.int l2), some (.int (l3 ||| (1 <<< (l4 &&& 31)))), some (.int (l4 + 1))]) (tgt := 30) dX8_of_82 (by decide) ?_
        exact r_le (L' := [some (.ref b0), some (.int l1), some (.int l2), some (.int (l3 ||| (1 <<< (l4 &&& 31)))), some (.int (l4 + 1))]) ⟨rfl, ⟨rfl, ⟨rfl, ⟨rfl, ⟨rfl, trivial⟩⟩⟩⟩⟩ K0
      · have K0 := K0.2 q
        refine r_aload_n (pc := 58) dX8_of_58 rfl ?_
        refine r_iload (pc := 59) dX8_of_59 rfl ?_
        refine r_iconst (pc := 61) (v := 1) dX8_of_61 (by decide) ?_
        refine s_VI (pc := 62) mX8_one (ci := 8) (a := b0) (As := [.int l4, .int 1]) dX8_of_62 lk_X8_67 in_X8_one mo_X8_one ⟨by decide, rfl⟩ ⟨by decide, by decide⟩ (Nat.le_of_ble_eq_true rfl) k_b0 (sr_X8_one k_b0 g_b0_3 k_b0_3 p_3 ⟨by decide, by decide⟩ ?_)
        refine r_iload_n (pc := 65) dX8_of_65 rfl ?_
        refine r_icmp_ne (pc := 66) (tgt := 76) dX8_of_66 (by decide) (fun q => ?_) (fun q => ?_)
        · have K0 := K0.1 q
          refine r_iconst (pc := 76) (v := 0) dX8_of_76 (by decide) ?_
          refine r_ior (pc := 77) dX8_of_77 ?_
          refine r_istore_n (pc := 78) dX8_of_78 (by decide) ?_
          refine r_iinc (pc := 79) (L := [some (.ref b0), some (.int l1), some (.int l2), some (.int (l3 ||| 0)), some (.int l4)]) (v := l4 + 1) dX8_of_79 rfl rfl (by decide) ?_
          refine r_goto (pc := 82) (L := [some (.ref b0), some (.int l1), some (.int l2), some (.int (l3 ||| 0)), some (.int (l4 + 1))]) (tgt := 30) dX8_of_82 (by decide) ?_
          exact r_le (L' := [some (.ref b0), some (.int l1), some (.int l2), some (.int (l3 ||| 0)), some (.int (l4 + 1))]) ⟨rfl, ⟨rfl, ⟨rfl, ⟨rfl, ⟨rfl, trivial⟩⟩⟩⟩⟩ K0
        · have K0 := K0.2 q
          refine r_iconst (pc := 69) (v := 1) dX8_of_69 (by decide) ?_
          refine r_iload (pc := 70) dX8_of_70 rfl ?_
          refine r_ishl (pc := 72) dX8_of_72 ?_
          refine r_goto (pc := 73) (tgt := 77) dX8_of_73 (by decide) ?_
          refine r_ior (pc := 77) dX8_of_77 ?_
          refine r_istore_n (pc := 78) dX8_of_78 (by decide) ?_
          refine r_iinc (pc := 79) (L := [some (.ref b0), some (.int l1), some (.int l2), some (.int (l3 ||| (1 <<< (l4 &&& 31)))), some (.int l4)]) (v := l4 + 1) dX8_of_79 rfl rfl (by decide) ?_
          refine r_goto (pc := 82) (L := [some (.ref b0), some (.int l1), some (.int l2), some (.int (l3 ||| (1 <<< (l4 &&& 31)))), some (.int (l4 + 1))]) (tgt := 30) dX8_of_82 (by decide) ?_
          exact r_le (L' := [some (.ref b0), some (.int l1), some (.int l2), some (.int (l3 ||| (1 <<< (l4 &&& 31)))), some (.int (l4 + 1))]) ⟨rfl, ⟨rfl, ⟨rfl, ⟨rfl, ⟨rfl, trivial⟩⟩⟩⟩⟩ K0
set_option maxHeartbeats 2000000 in
theorem v_X7_sum_0 {K : Sh} {x : Cn} {Q : Int32 → Cn → Prop} {b0 : Nat} {l1 : Int32} {l2 : Int32} {b0_3 : Nat} (k_b0 : kk K b0 = some (7, 0)) (g_b0_3 : gr x b0 3 = some b0_3) (k_b0_3 : kk K b0_3 = some (1, 0)) (K0 : (¬ (0 ≤ l1 ∧ l1 < gi x b0_3 0) → (Q (-2) x)) ∧ ((0 ≤ l1 ∧ l1 < gi x b0_3 0) → (((0 ≤ l2 ∧ l2 ≤ 4) → (GI mX7_sum 23 [some (.ref b0), some (.int l1), some (.int l2), some (.int 0), some (.int 0)] [] K x Q)) ∧ (¬ (0 ≤ l2 ∧ l2 ≤ 4) → (Q (-2) x))))) : mSI mX7_sum [.ref b0, .int l1, .int l2] K x Q := by
  refine s_I (by decide) (by simp [Value.category]) (Nat.le_of_ble_eq_true rfl) ?_
  show mGM mX7_sum 0 [some (.ref b0), some (.int l1), some (.int l2), none, none] [] (hp K x) (PI K Q)
  refine r_aload_n (pc := 0) dX7_sum_0 rfl ?_
  refine r_iload_n (pc := 1) dX7_sum_1 rfl ?_
  refine s_VI (pc := 2) mX7_isCarrier (ci := 7) (a := b0) (As := [.int l1]) dX7_sum_2 lk_X7_109 in_X7_isCarrier mo_X7_isCarrier ⟨by decide, rfl⟩ ⟨by decide, by decide⟩ (Nat.le_of_ble_eq_true rfl) k_b0 (sp_X7_isCarrier k_b0 g_b0_3 k_b0_3 ?_)
  refine r_if_eq (pc := 5) (tgt := 15) dX7_sum_5 (by decide) (fun q => ?_) (fun q => ?_)
  · have q := (b2i_z _).mp q
    have K0 := K0.1 q
    refine r_bipush (pc := 15) (v := (-2)) dX7_sum_15 (by decide) ?_
    exact s_iret rfl dX7_sum_17 K0
  · have q := b2i_nz q
    have K0 := K0.2 q
    refine r_iload_n (pc := 8) dX7_sum_8 rfl ?_
    refine s_SI (pc := 9) mX7_isState (As := [.int l2]) dX7_sum_9 lk_X7_160 st_X7_isState mo_X7_isState ⟨by decide, by decide⟩ (Nat.le_of_ble_eq_true rfl) (sp_X7_isState  ?_)
    refine r_if_ne (pc := 12) (tgt := 18) dX7_sum_12 (by decide) (fun q => ?_) (fun q => ?_)
    · have q := b2i_nz q
      have K0 := K0.1 q
      refine r_iconst (pc := 18) (v := 0) dX7_sum_18 (by decide) ?_
      refine r_istore_n (pc := 19) dX7_sum_19 (by decide) ?_
      refine r_iconst (pc := 20) (L := [some (.ref b0), some (.int l1), some (.int l2), some (.int 0), none]) (v := 0) dX7_sum_20 (by decide) ?_
      refine r_istore (pc := 21) dX7_sum_21 (by decide) ?_
      exact r_le (L' := [some (.ref b0), some (.int l1), some (.int l2), some (.int 0), some (.int 0)]) ⟨rfl, ⟨rfl, ⟨rfl, ⟨rfl, ⟨rfl, trivial⟩⟩⟩⟩⟩ K0
    · have q := (b2i_z _).mp q
      have K0 := K0.2 q
      refine r_bipush (pc := 15) (v := (-2)) dX7_sum_15 (by decide) ?_
      exact s_iret rfl dX7_sum_17 K0
set_option maxHeartbeats 2000000 in
theorem v_X7_sum_23 {K : Sh} {x : Cn} {Q : Int32 → Cn → Prop} {b0 : Nat} {l1 : Int32} {l2 : Int32} {l3 : Int32} {l4 : Int32} {b0_2 : Nat} {b0_2_7 : Nat} {n_b0_2_7 : Nat} (k_b0 : kk K b0 = some (7, 0)) (g_b0_2 : gr x b0 2 = some b0_2) (k_b0_2 : kk K b0_2 = some (4, 0)) (g_b0_2_7 : gr x b0_2 7 = some b0_2_7) (k_b0_2_7 : kk K b0_2_7 = some (23, n_b0_2_7)) (K0 : ((gi x b0_2 3) ≤ l4 → (Q l3 x)) ∧ (¬ (gi x b0_2 3) ≤ l4 → (vp_in l4 n_b0_2_7 ∧ (∃ c_3 : Nat, gr x b0_2_7 ((l4 : Int32).toNatClampNeg) = some c_3 ∧ (kk K c_3 = some (5, 0) ∧ ((¬ (gi x c_3 0) = l1 → (GI mX7_sum 23 [some (.ref b0), some (.int l1), some (.int l2), some (.int l3), some (.int (l4 + 1))] [] K x Q)) ∧ ((gi x c_3 0) = l1 → (mSI mX5_bitsThatAre [.ref c_3, .int l2] K x (fun r_8 y_7 => GI mX7_sum 23 [some (.ref b0), some (.int l1), some (.int l2), some (.int (l3 + (nI (cpt r_8)))), some (.int (l4 + 1))] [] K y_7 Q))))))))) : GI mX7_sum 23 [some (.ref b0), some (.int l1), some (.int l2), some (.int l3), some (.int l4)] [] K x Q := by
  show mGM mX7_sum 23 [some (.ref b0), some (.int l1), some (.int l2), some (.int l3), some (.int l4)] [] (hp K x) (PI K Q)
  refine r_iload (pc := 23) dX7_sum_23 rfl ?_
  refine r_aload_n (pc := 25) dX7_sum_25 rfl ?_
  refine s_getR (pc := 26) dX7_sum_26 fl_X7_20 rfl k_b0 g_b0_2 ?_
  refine s_getI (pc := 29) dX7_sum_29 fl_X7_97 rfl k_b0_2 ?_
  refine r_icmp_ge (pc := 32) (tgt := 78) dX7_sum_32 (by decide) (fun q => ?_) (fun q => ?_)
  · have K0 := K0.1 q
    refine r_iload_n (pc := 78) dX7_sum_78 rfl ?_
    exact s_iret rfl dX7_sum_79 K0
  · have K0 := K0.2 q
    refine r_aload_n (pc := 35) dX7_sum_35 rfl ?_
    refine s_getR (pc := 36) dX7_sum_36 fl_X7_20 rfl k_b0 g_b0_2 ?_
    refine s_getR (pc := 39) dX7_sum_39 fl_X7_135 rfl k_b0_2 g_b0_2_7 ?_
    refine r_iload (pc := 42) dX7_sum_42 rfl ?_
    obtain ⟨i_2, K0⟩ := K0
    obtain ⟨c_3, g_4, K0⟩ := K0
    refine s_aald (pc := 44) dX7_sum_44 (by decide) rfl k_b0_2_7 i_2 g_4 ?_
    obtain ⟨e_5, K0⟩ := K0
    refine s_getI (pc := 45) dX7_sum_45 fl_X7_139 rfl e_5 ?_
    refine r_iload_n (pc := 48) dX7_sum_48 rfl ?_
    refine r_icmp_ne (pc := 49) (tgt := 72) dX7_sum_49 (by decide) (fun q => ?_) (fun q => ?_)
    · have K0 := K0.1 q
      refine r_iinc (pc := 72) (v := l4 + 1) dX7_sum_72 rfl rfl (by decide) ?_
      refine r_goto (pc := 75) (L := [some (.ref b0), some (.int l1), some (.int l2), some (.int l3), some (.int (l4 + 1))]) (tgt := 23) dX7_sum_75 (by decide) ?_
      exact r_le (L' := [some (.ref b0), some (.int l1), some (.int l2), some (.int l3), some (.int (l4 + 1))]) ⟨rfl, ⟨rfl, ⟨rfl, ⟨rfl, ⟨rfl, trivial⟩⟩⟩⟩⟩ K0
    · have K0 := K0.2 q
      refine r_iload_n (pc := 52) dX7_sum_52 rfl ?_
      refine r_aload_n (pc := 53) dX7_sum_53 rfl ?_
      refine s_getR (pc := 54) dX7_sum_54 fl_X7_20 rfl k_b0 g_b0_2 ?_
      refine s_getR (pc := 57) dX7_sum_57 fl_X7_135 rfl k_b0_2 g_b0_2_7 ?_
      refine r_iload (pc := 60) dX7_sum_60 rfl ?_
      refine s_aald (pc := 62) dX7_sum_62 (by decide) rfl k_b0_2_7 i_2 g_4 ?_
      refine r_iload_n (pc := 63) dX7_sum_63 rfl ?_
      refine s_VI (pc := 64) mX5_bitsThatAre (ci := 5) (a := c_3) (As := [.int l2]) dX7_sum_64 lk_X7_163 in_X5_bitsThatAre mo_X5_bitsThatAre ⟨by decide, rfl⟩ ⟨by decide, by decide⟩ (Nat.le_of_ble_eq_true rfl) e_5 (mSI_mono K0 (fun r_8 y_7 K0 => ?_))
      refine s_SI (pc := 67) mJ6_bitCount_0f7a4 (As := [.int r_8]) dX7_sum_67 lk_X7_255 st_J6_bitCount_0f7a4 mo_J6_bitCount_0f7a4 ⟨by decide, by decide⟩ (Nat.le_of_ble_eq_true rfl) (sp_bc  ?_)
      refine r_iadd (pc := 70) dX7_sum_70 ?_
      refine r_istore_n (pc := 71) dX7_sum_71 (by decide) ?_
      refine r_iinc (pc := 72) (L := [some (.ref b0), some (.int l1), some (.int l2), some (.int (l3 + (nI (cpt r_8)))), some (.int l4)]) (v := l4 + 1) dX7_sum_72 rfl rfl (by decide) ?_
      refine r_goto (pc := 75) (L := [some (.ref b0), some (.int l1), some (.int l2), some (.int (l3 + (nI (cpt r_8)))), some (.int (l4 + 1))]) (tgt := 23) dX7_sum_75 (by decide) ?_
      exact r_le (L' := [some (.ref b0), some (.int l1), some (.int l2), some (.int (l3 + (nI (cpt r_8)))), some (.int (l4 + 1))]) ⟨rfl, ⟨rfl, ⟨rfl, ⟨rfl, ⟨rfl, trivial⟩⟩⟩⟩⟩ K0
set_option maxHeartbeats 2000000 in
theorem v_X8_sum_0 {K : Sh} {x : Cn} {Q : Int32 → Cn → Prop} {b0 : Nat} {l1 : Int32} {l2 : Int32} {b0_1 : Nat} {n_b0_1 : Nat} (k_b0 : kk K b0 = some (8, 0)) (g_b0_1 : gr x b0 1 = some b0_1) (k_b0_1 : kk K b0_1 = some (20, n_b0_1)) (K0 : vp_in 1 n_b0_1 ∧ ((¬ (0 ≤ l1 ∧ l1 ≤ gi x b0_1 1 - 1) → (Q (-2) x)) ∧ ((0 ≤ l1 ∧ l1 ≤ gi x b0_1 1 - 1) → (((0 ≤ l2 ∧ l2 ≤ 4) → (GI mX8_sum 28 [some (.ref b0), some (.int l1), some (.int l2), some (.int 0), some (.int 0)] [] K x Q)) ∧ (¬ (0 ≤ l2 ∧ l2 ≤ 4) → (Q (-2) x)))))) : mSI mX8_sum [.ref b0, .int l1, .int l2] K x Q := by
  refine s_I (by decide) (by simp [Value.category]) (Nat.le_of_ble_eq_true rfl) ?_
  show mGM mX8_sum 0 [some (.ref b0), some (.int l1), some (.int l2), none, none] [] (hp K x) (PI K Q)
  refine r_aload_n (pc := 0) dX8_sum_0 rfl ?_
  refine r_iload_n (pc := 1) dX8_sum_1 rfl ?_
  obtain ⟨i_1, K0⟩ := K0
  refine s_VI (pc := 2) mX8_isCarrier (ci := 8) (a := b0) (As := [.int l1]) dX8_sum_2 lk_X8_265 in_X8_isCarrier mo_X8_isCarrier ⟨by decide, rfl⟩ ⟨by decide, by decide⟩ (Nat.le_of_ble_eq_true rfl) k_b0 (sp_X8_isCarrier k_b0 g_b0_1 k_b0_1 i_1 ?_)
  refine r_if_eq (pc := 5) (tgt := 20) dX8_sum_5 (by decide) (fun q => ?_) (fun q => ?_)
  · have q := (b2i_z _).mp q
    have K0 := K0.1 q
    refine r_bipush (pc := 20) (v := (-2)) dX8_sum_20 (by decide) ?_
    exact s_iret rfl dX8_sum_22 K0
  · have q := b2i_nz q
    have K0 := K0.2 q
    refine r_iload_n (pc := 8) dX8_sum_8 rfl ?_
    refine r_i2l (pc := 9) dX8_sum_9 ?_
    refine r_lconst (pc := 10) (v := 0) dX8_sum_10 (by decide) ?_
    refine r_ldc2 (pc := 11) (v := 4) dX8_sum_11 cn_X8_276 ?_
    refine s_SI (pc := 14) mX8_in (As := [.long ((l2 : Int32).toInt64), .long 0, .long 4]) dX8_sum_14 lk_X8_45 st_X8_in mo_X8_in ⟨by decide, by decide⟩ (Nat.le_of_ble_eq_true rfl) (sq_X8_in (v := l2) (lo := 0) (hi := 4) rfl (by decide) (by decide) ?_)
    refine r_if_ne (pc := 17) (tgt := 23) dX8_sum_17 (by decide) (fun q => ?_) (fun q => ?_)
    · have q := b2i_nz q
      have K0 := K0.1 q
      refine r_iconst (pc := 23) (v := 0) dX8_sum_23 (by decide) ?_
      refine r_istore_n (pc := 24) dX8_sum_24 (by decide) ?_
      refine r_iconst (pc := 25) (L := [some (.ref b0), some (.int l1), some (.int l2), some (.int 0), none]) (v := 0) dX8_sum_25 (by decide) ?_
      refine r_istore (pc := 26) dX8_sum_26 (by decide) ?_
      exact r_le (L' := [some (.ref b0), some (.int l1), some (.int l2), some (.int 0), some (.int 0)]) ⟨rfl, ⟨rfl, ⟨rfl, ⟨rfl, ⟨rfl, trivial⟩⟩⟩⟩⟩ K0
    · have q := (b2i_z _).mp q
      have K0 := K0.2 q
      refine r_bipush (pc := 20) (v := (-2)) dX8_sum_20 (by decide) ?_
      exact s_iret rfl dX8_sum_22 K0
set_option maxHeartbeats 2000000 in
theorem v_X8_sum_28 {K : Sh} {x : Cn} {Q : Int32 → Cn → Prop} {b0 : Nat} {l1 : Int32} {l2 : Int32} {l3 : Int32} {l4 : Int32} {b0_1 : Nat} {n_b0_1 : Nat} {b0_3 : Nat} {n_b0_3 : Nat} (k_b0 : kk K b0 = some (8, 0)) (g_b0_1 : gr x b0 1 = some b0_1) (k_b0_1 : kk K b0_1 = some (20, n_b0_1)) (g_b0_3 : gr x b0 3 = some b0_3) (k_b0_3 : kk K b0_3 = some (20, n_b0_3)) (K0 : vp_in 2 n_b0_1 ∧ (((gi x b0_1 2) ≤ l4 → (Q l3 x)) ∧ (¬ (gi x b0_1 2) ≤ l4 → ((l24 l4 n_b0_3) ∧ ((¬ (so (gi x b0_3) (l4 : Int32).toNatClampNeg 0) = l1 → (GI mX8_sum 28 [some (.ref b0), some (.int l1), some (.int l2), some (.int (l3 + 0)), some (.int (l4 + 1))] [] K x Q)) ∧ ((so (gi x b0_3) (l4 : Int32).toNatClampNeg 0) = l1 → ((l12 (7 + l2)) ∧ (∀ r_6 : Int32, r_6 = (l3 + (nI (cpt (so (gi x b0_3) (l4 : Int32).toNatClampNeg ((7 + l2) : Int32).toNatClampNeg)))) → (GI mX8_sum 28 [some (.ref b0), some (.int l1), some (.int l2), some (.int r_6), some (.int (l4 + 1))] [] K x Q))))))))) : GI mX8_sum 28 [some (.ref b0), some (.int l1), some (.int l2), some (.int l3), some (.int l4)] [] K x Q := by
  show mGM mX8_sum 28 [some (.ref b0), some (.int l1), some (.int l2), some (.int l3), some (.int l4)] [] (hp K x) (PI K Q)
  refine r_iload (pc := 28) dX8_sum_28 rfl ?_
  refine r_aload_n (pc := 30) dX8_sum_30 rfl ?_
  refine s_getR (pc := 31) dX8_sum_31 fl_X8_9 rfl k_b0 g_b0_1 ?_
  refine r_iconst (pc := 34) (v := 2) dX8_sum_34 (by decide) ?_
  obtain ⟨i_1, K0⟩ := K0
  refine s_iald (pc := 35) dX8_sum_35 k_b0_1 i_1 ?_
  refine r_icmp_ge (pc := 36) (tgt := 76) dX8_sum_36 (by decide) (fun q => ?_) (fun q => ?_)
  · have K0 := K0.1 q
    refine r_iload_n (pc := 76) dX8_sum_76 rfl ?_
    exact s_iret rfl dX8_sum_77 K0
  · have K0 := K0.2 q
    refine r_iload_n (pc := 39) dX8_sum_39 rfl ?_
    refine r_aload_n (pc := 40) dX8_sum_40 rfl ?_
    refine r_iload (pc := 41) dX8_sum_41 rfl ?_
    refine r_iconst (pc := 43) (v := 0) dX8_sum_43 (by decide) ?_
    obtain ⟨p_3, K0⟩ := K0
    refine s_VI (pc := 44) mX8_one (ci := 8) (a := b0) (As := [.int l4, .int 0]) dX8_sum_44 lk_X8_67 in_X8_one mo_X8_one ⟨by decide, rfl⟩ ⟨by decide, by decide⟩ (Nat.le_of_ble_eq_true rfl) k_b0 (sr_X8_one k_b0 g_b0_3 k_b0_3 p_3 ⟨by decide, by decide⟩ ?_)
    refine r_iload_n (pc := 47) dX8_sum_47 rfl ?_
    refine r_icmp_ne (pc := 48) (tgt := 67) dX8_sum_48 (by decide) (fun q => ?_) (fun q => ?_)
    · have K0 := K0.1 q
      refine r_iconst (pc := 67) (v := 0) dX8_sum_67 (by decide) ?_
      refine r_iadd (pc := 68) dX8_sum_68 ?_
      refine r_istore_n (pc := 69) dX8_sum_69 (by decide) ?_
      refine r_iinc (pc := 70) (L := [some (.ref b0), some (.int l1), some (.int l2), some (.int (l3 + 0)), some (.int l4)]) (v := l4 + 1) dX8_sum_70 rfl rfl (by decide) ?_
      refine r_goto (pc := 73) (L := [some (.ref b0), some (.int l1), some (.int l2), some (.int (l3 + 0)), some (.int (l4 + 1))]) (tgt := 28) dX8_sum_73 (by decide) ?_
      exact r_le (L' := [some (.ref b0), some (.int l1), some (.int l2), some (.int (l3 + 0)), some (.int (l4 + 1))]) ⟨rfl, ⟨rfl, ⟨rfl, ⟨rfl, ⟨rfl, trivial⟩⟩⟩⟩⟩ K0
    · have K0 := K0.2 q
      refine r_aload_n (pc := 51) dX8_sum_51 rfl ?_
      refine r_iload (pc := 52) dX8_sum_52 rfl ?_
      refine r_bipush (pc := 54) (v := 7) dX8_sum_54 (by decide) ?_
      refine r_iload_n (pc := 56) dX8_sum_56 rfl ?_
      refine r_iadd (pc := 57) dX8_sum_57 ?_
      obtain ⟨p_5, K0⟩ := K0
      refine s_VI (pc := 58) mX8_one (ci := 8) (a := b0) (As := [.int l4, .int (7 + l2)]) dX8_sum_58 lk_X8_67 in_X8_one mo_X8_one ⟨by decide, rfl⟩ ⟨by decide, by decide⟩ (Nat.le_of_ble_eq_true rfl) k_b0 (sr_X8_one k_b0 g_b0_3 k_b0_3 p_3 p_5 ?_)
      refine s_SI (pc := 61) mX8_bits (As := [.int (so (gi x b0_3) (l4 : Int32).toNatClampNeg ((7 + l2) : Int32).toNatClampNeg)]) dX8_sum_61 lk_X8_296 st_X8_bits mo_X8_bits ⟨by decide, by decide⟩ (Nat.le_of_ble_eq_true rfl) (sp_X8_bits  ?_)
      refine r_goto (pc := 64) (tgt := 68) dX8_sum_64 (by decide) ?_
      refine r_iadd (pc := 68) dX8_sum_68 ?_
      obtain ⟨r_6, w_7⟩ : ∃ z : Int32, z = (l3 + (nI (cpt (so (gi x b0_3) (l4 : Int32).toNatClampNeg ((7 + l2) : Int32).toNatClampNeg)))) := ⟨_, rfl⟩
      rw [← w_7]
      have K0 := K0 r_6 w_7
      refine r_istore_n (pc := 69) dX8_sum_69 (by decide) ?_
      refine r_iinc (pc := 70) (L := [some (.ref b0), some (.int l1), some (.int l2), some (.int r_6), some (.int l4)]) (v := l4 + 1) dX8_sum_70 rfl rfl (by decide) ?_
      refine r_goto (pc := 73) (L := [some (.ref b0), some (.int l1), some (.int l2), some (.int r_6), some (.int (l4 + 1))]) (tgt := 28) dX8_sum_73 (by decide) ?_
      exact r_le (L' := [some (.ref b0), some (.int l1), some (.int l2), some (.int r_6), some (.int (l4 + 1))]) ⟨rfl, ⟨rfl, ⟨rfl, ⟨rfl, ⟨rfl, trivial⟩⟩⟩⟩⟩ K0
set_option maxHeartbeats 2000000 in
theorem v_X7_longest_0 {K : Sh} {x : Cn} {Q : Int32 → Cn → Prop} {b0 : Nat} {l1 : Int32} {b0_2 : Nat} {b0_2_7 : Nat} {n_b0_2_7 : Nat} (k_b0 : kk K b0 = some (7, 0)) (g_b0_2 : gr x b0 2 = some b0_2) (k_b0_2 : kk K b0_2 = some (4, 0)) (g_b0_2_7 : gr x b0_2 7 = some b0_2_7) (k_b0_2_7 : kk K b0_2_7 = some (23, n_b0_2_7)) (K0 : ((0 ≤ l1 ∧ l1 < gi x b0_2 3) → (vp_in l1 n_b0_2_7 ∧ (∃ c_3 : Nat, gr x b0_2_7 ((l1 : Int32).toNatClampNeg) = some c_3 ∧ (kk K c_3 = some (5, 0) ∧ (GI mX7_longest 32 [some (.ref b0), some (.int l1), some (.int (gi x c_3 9)), some (.int 0), some (.int 0), some (.int 0)] [] K x Q))))) ∧ (¬ (0 ≤ l1 ∧ l1 < gi x b0_2 3) → (Q (-2) x))) : mSI mX7_longest [.ref b0, .int l1] K x Q := by
  refine s_I (by decide) (by simp [Value.category]) (Nat.le_of_ble_eq_true rfl) ?_
  show mGM mX7_longest 0 [some (.ref b0), some (.int l1), none, none, none, none] [] (hp K x) (PI K Q)
  refine r_aload_n (pc := 0) dX7_longest_0 rfl ?_
  refine r_iload_n (pc := 1) dX7_longest_1 rfl ?_
  refine s_VI (pc := 2) mX7_isSeries (ci := 7) (a := b0) (As := [.int l1]) dX7_longest_2 lk_X7_132 in_X7_isSeries mo_X7_isSeries ⟨by decide, rfl⟩ ⟨by decide, by decide⟩ (Nat.le_of_ble_eq_true rfl) k_b0 (sp_X7_isSeries k_b0 g_b0_2 k_b0_2 ?_)
  refine r_if_ne (pc := 5) (tgt := 11) dX7_longest_5 (by decide) (fun q => ?_) (fun q => ?_)
  · have q := b2i_nz q
    have K0 := K0.1 q
    refine r_aload_n (pc := 11) dX7_longest_11 rfl ?_
    refine s_getR (pc := 12) dX7_longest_12 fl_X7_20 rfl k_b0 g_b0_2 ?_
    refine s_getR (pc := 15) dX7_longest_15 fl_X7_135 rfl k_b0_2 g_b0_2_7 ?_
    refine r_iload_n (pc := 18) dX7_longest_18 rfl ?_
    obtain ⟨i_2, K0⟩ := K0
    obtain ⟨c_3, g_4, K0⟩ := K0
    refine s_aald (pc := 19) dX7_longest_19 (by decide) rfl k_b0_2_7 i_2 g_4 ?_
    obtain ⟨e_5, K0⟩ := K0
    refine s_getI (pc := 20) dX7_longest_20 fl_X7_266 rfl e_5 ?_
    refine r_istore_n (pc := 23) dX7_longest_23 (by decide) ?_
    refine r_iconst (pc := 24) (L := [some (.ref b0), some (.int l1), some (.int (gi x c_3 9)), none, none, none]) (v := 0) dX7_longest_24 (by decide) ?_
    refine r_istore_n (pc := 25) dX7_longest_25 (by decide) ?_
    refine r_iconst (pc := 26) (L := [some (.ref b0), some (.int l1), some (.int (gi x c_3 9)), some (.int 0), none, none]) (v := 0) dX7_longest_26 (by decide) ?_
    refine r_istore (pc := 27) dX7_longest_27 (by decide) ?_
    refine r_iconst (pc := 29) (L := [some (.ref b0), some (.int l1), some (.int (gi x c_3 9)), some (.int 0), some (.int 0), none]) (v := 0) dX7_longest_29 (by decide) ?_
    refine r_istore (pc := 30) dX7_longest_30 (by decide) ?_
    exact r_le (L' := [some (.ref b0), some (.int l1), some (.int (gi x c_3 9)), some (.int 0), some (.int 0), some (.int 0)]) ⟨rfl, ⟨rfl, ⟨rfl, ⟨rfl, ⟨rfl, ⟨rfl, trivial⟩⟩⟩⟩⟩⟩ K0
  · have q := (b2i_z _).mp q
    have K0 := K0.2 q
    refine r_bipush (pc := 8) (v := (-2)) dX7_longest_8 (by decide) ?_
    exact s_iret rfl dX7_longest_10 K0
set_option maxHeartbeats 2000000 in
theorem v_X7_longest_32 {K : Sh} {x : Cn} {Q : Int32 → Cn → Prop} {b0 : Nat} {l1 : Int32} {l2 : Int32} {l3 : Int32} {l4 : Int32} {l5 : Int32} {b0_2 : Nat} (k_b0 : kk K b0 = some (7, 0)) (g_b0_2 : gr x b0 2 = some b0_2) (k_b0_2 : kk K b0_2 = some (4, 0)) (K0 : ((gi x b0_2 0) ≤ l5 → (Q l3 x)) ∧ (¬ (gi x b0_2 0) ≤ l5 → ((¬ (f_bit l2 l5) → (GI mX7_longest 32 [some (.ref b0), some (.int l1), some (.int l2), some (.int (if l3 < 0 then 0 else l3)), some (.int 0), some (.int (l5 + 1))] [] K x Q)) ∧ ((f_bit l2 l5) → (GI mX7_longest 32 [some (.ref b0), some (.int l1), some (.int l2), some (.int (if l3 < (l4 + 1) then (l4 + 1) else l3)), some (.int (l4 + 1)), some (.int (l5 + 1))] [] K x Q))))) : GI mX7_longest 32 [some (.ref b0), some (.int l1), some (.int l2), some (.int l3), some (.int l4), some (.int l5)] [] K x Q := by
  show mGM mX7_longest 32 [some (.ref b0), some (.int l1), some (.int l2), some (.int l3), some (.int l4), some (.int l5)] [] (hp K x) (PI K Q)
  refine r_iload (pc := 32) dX7_longest_32 rfl ?_
  refine r_aload_n (pc := 34) dX7_longest_34 rfl ?_
  refine s_getR (pc := 35) dX7_longest_35 fl_X7_20 rfl k_b0 g_b0_2 ?_
  refine s_getI (pc := 38) dX7_longest_38 fl_X7_91 rfl k_b0_2 ?_
  refine r_icmp_ge (pc := 41) (tgt := 76) dX7_longest_41 (by decide) (fun q => ?_) (fun q => ?_)
  · have K0 := K0.1 q
    refine r_iload_n (pc := 76) dX7_longest_76 rfl ?_
    exact s_iret rfl dX7_longest_77 K0
  · have K0 := K0.2 q
    refine r_iload_n (pc := 44) dX7_longest_44 rfl ?_
    refine r_iload (pc := 45) dX7_longest_45 rfl ?_
    refine s_SI (pc := 47) mX7_hasBit (As := [.int l2, .int l5]) dX7_longest_47 lk_X7_269 st_X7_hasBit mo_X7_hasBit ⟨by decide, by decide⟩ (Nat.le_of_ble_eq_true rfl) (sp_X7_hasBit  ?_)
    refine r_if_eq (pc := 50) (tgt := 60) dX7_longest_50 (by decide) (fun q => ?_) (fun q => ?_)
    · have q := (b2i_z _).mp q
      have K0 := K0.1 q
      refine r_iconst (pc := 60) (v := 0) dX7_longest_60 (by decide) ?_
      refine r_istore (pc := 61) dX7_longest_61 (by decide) ?_
      refine r_iload_n (pc := 63) (L := [some (.ref b0), some (.int l1), some (.int l2), some (.int l3), some (.int 0), some (.int l5)]) dX7_longest_63 rfl ?_
      refine r_iload (pc := 64) dX7_longest_64 rfl ?_
      refine r_mmax (pc := 66) dX7_longest_66 lk_X7_226 mw_max ⟨by decide, by decide⟩ (Nat.le_of_ble_eq_true rfl) ?_
      refine r_istore_n (pc := 69) dX7_longest_69 (by decide) ?_
      refine r_iinc (pc := 70) (L := [some (.ref b0), some (.int l1), some (.int l2), some (.int (if l3 < 0 then 0 else l3)), some (.int 0), some (.int l5)]) (v := l5 + 1) dX7_longest_70 rfl rfl (by decide) ?_
      refine r_goto (pc := 73) (L := [some (.ref b0), some (.int l1), some (.int l2), some (.int (if l3 < 0 then 0 else l3)), some (.int 0), some (.int (l5 + 1))]) (tgt := 32) dX7_longest_73 (by decide) ?_
      exact r_le (L' := [some (.ref b0), some (.int l1), some (.int l2), some (.int (if l3 < 0 then 0 else l3)), some (.int 0), some (.int (l5 + 1))]) ⟨rfl, ⟨rfl, ⟨rfl, ⟨rfl, ⟨rfl, ⟨rfl, trivial⟩⟩⟩⟩⟩⟩ K0
    · have q := b2i_nz q
      have K0 := K0.2 q
      refine r_iload (pc := 53) dX7_longest_53 rfl ?_
      refine r_iconst (pc := 55) (v := 1) dX7_longest_55 (by decide) ?_
      refine r_iadd (pc := 56) dX7_longest_56 ?_
      refine r_goto (pc := 57) (tgt := 61) dX7_longest_57 (by decide) ?_
      refine r_istore (pc := 61) dX7_longest_61 (by decide) ?_
      refine r_iload_n (pc := 63) (L := [some (.ref b0), some (.int l1), some (.int l2), some (.int l3), some (.int (l4 + 1)), some (.int l5)]) dX7_longest_63 rfl ?_
      refine r_iload (pc := 64) dX7_longest_64 rfl ?_
      refine r_mmax (pc := 66) dX7_longest_66 lk_X7_226 mw_max ⟨by decide, by decide⟩ (Nat.le_of_ble_eq_true rfl) ?_
      refine r_istore_n (pc := 69) dX7_longest_69 (by decide) ?_
      refine r_iinc (pc := 70) (L := [some (.ref b0), some (.int l1), some (.int l2), some (.int (if l3 < (l4 + 1) then (l4 + 1) else l3)), some (.int (l4 + 1)), some (.int l5)]) (v := l5 + 1) dX7_longest_70 rfl rfl (by decide) ?_
      refine r_goto (pc := 73) (L := [some (.ref b0), some (.int l1), some (.int l2), some (.int (if l3 < (l4 + 1) then (l4 + 1) else l3)), some (.int (l4 + 1)), some (.int (l5 + 1))]) (tgt := 32) dX7_longest_73 (by decide) ?_
      exact r_le (L' := [some (.ref b0), some (.int l1), some (.int l2), some (.int (if l3 < (l4 + 1) then (l4 + 1) else l3)), some (.int (l4 + 1)), some (.int (l5 + 1))]) ⟨rfl, ⟨rfl, ⟨rfl, ⟨rfl, ⟨rfl, ⟨rfl, trivial⟩⟩⟩⟩⟩⟩ K0
set_option maxHeartbeats 2000000 in
theorem v_X8_longest_0 {K : Sh} {x : Cn} {Q : Int32 → Cn → Prop} {b0 : Nat} {l1 : Int32} {b0_1 : Nat} {n_b0_1 : Nat} (k_b0 : kk K b0 = some (8, 0)) (g_b0_1 : gr x b0 1 = some b0_1) (k_b0_1 : kk K b0_1 = some (20, n_b0_1)) (K0 : vp_in 2 n_b0_1 ∧ (((0 ≤ l1 ∧ l1 ≤ gi x b0_1 2 - 1) → (GI mX8_longest 18 [some (.ref b0), some (.int l1), some (.int 0), some (.int 0), some (.int 0)] [] K x Q)) ∧ (¬ (0 ≤ l1 ∧ l1 ≤ gi x b0_1 2 - 1) → (Q (-2) x)))) : mSI mX8_longest [.ref b0, .int l1] K x Q := by
  refine s_I (by decide) (by simp [Value.category]) (Nat.le_of_ble_eq_true rfl) ?_
  show mGM mX8_longest 0 [some (.ref b0), some (.int l1), none, none, none] [] (hp K x) (PI K Q)
  refine r_aload_n (pc := 0) dX8_longest_0 rfl ?_
  refine r_iload_n (pc := 1) dX8_longest_1 rfl ?_
  obtain ⟨i_1, K0⟩ := K0
  refine s_VI (pc := 2) mX8_isSeries (ci := 8) (a := b0) (As := [.int l1]) dX8_longest_2 lk_X8_273 in_X8_isSeries mo_X8_isSeries ⟨by decide, rfl⟩ ⟨by decide, by decide⟩ (Nat.le_of_ble_eq_true rfl) k_b0 (sp_X8_isSeries k_b0 g_b0_1 k_b0_1 i_1 ?_)
  refine r_if_ne (pc := 5) (tgt := 11) dX8_longest_5 (by decide) (fun q => ?_) (fun q => ?_)
  · have q := b2i_nz q
    have K0 := K0.1 q
    refine r_iconst (pc := 11) (v := 0) dX8_longest_11 (by decide) ?_
    refine r_istore_n (pc := 12) dX8_longest_12 (by decide) ?_
    refine r_iconst (pc := 13) (L := [some (.ref b0), some (.int l1), some (.int 0), none, none]) (v := 0) dX8_longest_13 (by decide) ?_
    refine r_istore_n (pc := 14) dX8_longest_14 (by decide) ?_
    refine r_iconst (pc := 15) (L := [some (.ref b0), some (.int l1), some (.int 0), some (.int 0), none]) (v := 0) dX8_longest_15 (by decide) ?_
    refine r_istore (pc := 16) dX8_longest_16 (by decide) ?_
    exact r_le (L' := [some (.ref b0), some (.int l1), some (.int 0), some (.int 0), some (.int 0)]) ⟨rfl, ⟨rfl, ⟨rfl, ⟨rfl, ⟨rfl, trivial⟩⟩⟩⟩⟩ K0
  · have q := (b2i_z _).mp q
    have K0 := K0.2 q
    refine r_bipush (pc := 8) (v := (-2)) dX8_longest_8 (by decide) ?_
    exact s_iret rfl dX8_longest_10 K0
set_option maxHeartbeats 2000000 in
theorem v_X8_longest_18 {K : Sh} {x : Cn} {Q : Int32 → Cn → Prop} {b0 : Nat} {l1 : Int32} {l2 : Int32} {l3 : Int32} {l4 : Int32} {b0_1 : Nat} {n_b0_1 : Nat} {b0_3 : Nat} {n_b0_3 : Nat} (k_b0 : kk K b0 = some (8, 0)) (g_b0_1 : gr x b0 1 = some b0_1) (k_b0_1 : kk K b0_1 = some (20, n_b0_1)) (g_b0_3 : gr x b0 3 = some b0_3) (k_b0_3 : kk K b0_3 = some (20, n_b0_3)) (K0 : vp_in 0 n_b0_1 ∧ (((gi x b0_1 0) ≤ l4 → (Q l2 x)) ∧ (¬ (gi x b0_1 0) ≤ l4 → ((l24 l1 n_b0_3) ∧ ((¬ (f_has (so (gi x b0_3) (l1 : Int32).toNatClampNeg 9) l4) → (GI mX8_longest 18 [some (.ref b0), some (.int l1), some (.int (if l2 < 0 then 0 else l2)), some (.int 0), some (.int (l4 + 1))] [] K x Q)) ∧ ((f_has (so (gi x b0_3) (l1 : Int32).toNatClampNeg 9) l4) → (GI mX8_longest 18 [some (.ref b0), some (.int l1), some (.int (if l2 < (l3 + 1) then (l3 + 1) else l2)), some (.int (l3 + 1)), some (.int (l4 + 1))] [] K x Q))))))) : GI mX8_longest 18 [some (.ref b0), some (.int l1), some (.int l2), some (.int l3), some (.int l4)] [] K x Q := by
  show mGM mX8_longest 18 [some (.ref b0), some (.int l1), some (.int l2), some (.int l3), some (.int l4)] [] (hp K x) (PI K Q)
  refine r_iload (pc := 18) dX8_longest_18 rfl ?_
  refine r_aload_n (pc := 20) dX8_longest_20 rfl ?_
  refine s_getR (pc := 21) dX8_longest_21 fl_X8_9 rfl k_b0 g_b0_1 ?_
  refine r_iconst (pc := 24) (v := 0) dX8_longest_24 (by decide) ?_
  obtain ⟨i_1, K0⟩ := K0
  refine s_iald (pc := 25) dX8_longest_25 k_b0_1 i_1 ?_
  refine r_icmp_ge (pc := 26) (tgt := 64) dX8_longest_26 (by decide) (fun q => ?_) (fun q => ?_)
  · have K0 := K0.1 q
    refine r_iload_n (pc := 64) dX8_longest_64 rfl ?_
    exact s_iret rfl dX8_longest_65 K0
  · have K0 := K0.2 q
    refine r_aload_n (pc := 29) dX8_longest_29 rfl ?_
    refine r_iload_n (pc := 30) dX8_longest_30 rfl ?_
    refine r_bipush (pc := 31) (v := 9) dX8_longest_31 (by decide) ?_
    obtain ⟨p_3, K0⟩ := K0
    refine s_VI (pc := 33) mX8_one (ci := 8) (a := b0) (As := [.int l1, .int 9]) dX8_longest_33 lk_X8_67 in_X8_one mo_X8_one ⟨by decide, rfl⟩ ⟨by decide, by decide⟩ (Nat.le_of_ble_eq_true rfl) k_b0 (sr_X8_one k_b0 g_b0_3 k_b0_3 p_3 ⟨by decide, by decide⟩ ?_)
    refine r_iload (pc := 36) dX8_longest_36 rfl ?_
    refine s_SI (pc := 38) mX8_has (As := [.int (so (gi x b0_3) (l1 : Int32).toNatClampNeg 9), .int l4]) dX8_longest_38 lk_X8_75 st_X8_has mo_X8_has ⟨by decide, by decide⟩ (Nat.le_of_ble_eq_true rfl) (sp_X8_has  ?_)
    refine r_if_eq (pc := 41) (tgt := 50) dX8_longest_41 (by decide) (fun q => ?_) (fun q => ?_)
    · have q := (b2i_z _).mp q
      have K0 := K0.1 q
      refine r_iconst (pc := 50) (v := 0) dX8_longest_50 (by decide) ?_
      refine r_istore_n (pc := 51) dX8_longest_51 (by decide) ?_
      refine r_iload_n (pc := 52) (L := [some (.ref b0), some (.int l1), some (.int l2), some (.int 0), some (.int l4)]) dX8_longest_52 rfl ?_
      refine r_iload_n (pc := 53) dX8_longest_53 rfl ?_
      refine r_mmax (pc := 54) dX8_longest_54 lk_X8_293 mw_max ⟨by decide, by decide⟩ (Nat.le_of_ble_eq_true rfl) ?_
      refine r_istore_n (pc := 57) dX8_longest_57 (by decide) ?_
      refine r_iinc (pc := 58) (L := [some (.ref b0), some (.int l1), some (.int (if l2 < 0 then 0 else l2)), some (.int 0), some (.int l4)]) (v := l4 + 1) dX8_longest_58 rfl rfl (by decide) ?_
      refine r_goto (pc := 61) (L := [some (.ref b0), some (.int l1), some (.int (if l2 < 0 then 0 else l2)), some (.int 0), some (.int (l4 + 1))]) (tgt := 18) dX8_longest_61 (by decide) ?_
      exact r_le (L' := [some (.ref b0), some (.int l1), some (.int (if l2 < 0 then 0 else l2)), some (.int 0), some (.int (l4 + 1))]) ⟨rfl, ⟨rfl, ⟨rfl, ⟨rfl, ⟨rfl, trivial⟩⟩⟩⟩⟩ K0
    · have q := b2i_nz q
      have K0 := K0.2 q
      refine r_iload_n (pc := 44) dX8_longest_44 rfl ?_
      refine r_iconst (pc := 45) (v := 1) dX8_longest_45 (by decide) ?_
      refine r_iadd (pc := 46) dX8_longest_46 ?_
      refine r_goto (pc := 47) (tgt := 51) dX8_longest_47 (by decide) ?_
      refine r_istore_n (pc := 51) dX8_longest_51 (by decide) ?_
      refine r_iload_n (pc := 52) (L := [some (.ref b0), some (.int l1), some (.int l2), some (.int (l3 + 1)), some (.int l4)]) dX8_longest_52 rfl ?_
      refine r_iload_n (pc := 53) dX8_longest_53 rfl ?_
      refine r_mmax (pc := 54) dX8_longest_54 lk_X8_293 mw_max ⟨by decide, by decide⟩ (Nat.le_of_ble_eq_true rfl) ?_
      refine r_istore_n (pc := 57) dX8_longest_57 (by decide) ?_
      refine r_iinc (pc := 58) (L := [some (.ref b0), some (.int l1), some (.int (if l2 < (l3 + 1) then (l3 + 1) else l2)), some (.int (l3 + 1)), some (.int l4)]) (v := l4 + 1) dX8_longest_58 rfl rfl (by decide) ?_
      refine r_goto (pc := 61) (L := [some (.ref b0), some (.int l1), some (.int (if l2 < (l3 + 1) then (l3 + 1) else l2)), some (.int (l3 + 1)), some (.int (l4 + 1))]) (tgt := 18) dX8_longest_61 (by decide) ?_
      exact r_le (L' := [some (.ref b0), some (.int l1), some (.int (if l2 < (l3 + 1) then (l3 + 1) else l2)), some (.int (l3 + 1)), some (.int (l4 + 1))]) ⟨rfl, ⟨rfl, ⟨rfl, ⟨rfl, ⟨rfl, trivial⟩⟩⟩⟩⟩ K0
set_option maxHeartbeats 2000000 in
theorem v_X7_best_0 {K : Sh} {x : Cn} {Q : Int32 → Cn → Prop} {b0 : Nat} {l1 : Int32} {b0_2 : Nat} (k_b0 : kk K b0 = some (7, 0)) (g_b0_2 : gr x b0 2 = some b0_2) (k_b0_2 : kk K b0_2 = some (4, 0)) (K0 : (¬ (0 < gi x b0_2 0) → (Q (-2) x)) ∧ ((0 < gi x b0_2 0) → ((0 ≤ l1 → (GI mX7_best 16 [some (.ref b0), some (.int l1), some (.int 0), none, none] [] K x Q)) ∧ (¬ 0 ≤ l1 → (Q (-2) x))))) : mSI mX7_best [.ref b0, .int l1] K x Q := by
  refine s_I (by decide) (by simp [Value.category]) (Nat.le_of_ble_eq_true rfl) ?_
  show mGM mX7_best 0 [some (.ref b0), some (.int l1), none, none, none] [] (hp K x) (PI K Q)
  refine r_aload_n (pc := 0) dX7_best_0 rfl ?_
  refine s_VI (pc := 1) mX7_hasText (ci := 7) (a := b0) (As := []) dX7_best_1 lk_X7_121 in_X7_hasText mo_X7_hasText ⟨by decide, rfl⟩ ⟨by decide, by decide⟩ (Nat.le_of_ble_eq_true rfl) k_b0 (sp_X7_hasText k_b0 g_b0_2 k_b0_2 ?_)
  refine r_if_eq (pc := 4) (tgt := 11) dX7_best_4 (by decide) (fun q => ?_) (fun q => ?_)
  · have q := (b2i_z _).mp q
    have K0 := K0.1 q
    refine r_bipush (pc := 11) (v := (-2)) dX7_best_11 (by decide) ?_
    exact s_iret rfl dX7_best_13 K0
  · have q := b2i_nz q
    have K0 := K0.2 q
    refine r_iload_n (pc := 7) dX7_best_7 rfl ?_
    refine r_if_ge (pc := 8) (tgt := 14) dX7_best_8 (by decide) (fun q => ?_) (fun q => ?_)
    · have K0 := K0.1 q
      refine r_iconst (pc := 14) (v := 0) dX7_best_14 (by decide) ?_
      refine r_istore_n (pc := 15) dX7_best_15 (by decide) ?_
      exact r_le (L' := [some (.ref b0), some (.int l1), some (.int 0), none, none]) ⟨rfl, ⟨rfl, ⟨rfl, trivial⟩⟩⟩ K0
    · have K0 := K0.2 q
      refine r_bipush (pc := 11) (v := (-2)) dX7_best_11 (by decide) ?_
      exact s_iret rfl dX7_best_13 K0
set_option maxHeartbeats 2000000 in
theorem v_X7_best_16 {K : Sh} {x : Cn} {Q : Int32 → Cn → Prop} {b0 : Nat} {l1 : Int32} {l2 : Int32} {b0_3 : Nat} (k_b0 : kk K b0 = some (7, 0)) (g_b0_3 : gr x b0 3 = some b0_3) (k_b0_3 : kk K b0_3 = some (1, 0)) (K0 : ((gi x b0_3 0) ≤ l2 → (Q (-1) x)) ∧ (¬ (gi x b0_3 0) ≤ l2 → (GI mX7_best 32 [some (.ref b0), some (.int l1), some (.int l2), some (.int 0), some (.int 0)] [] K x Q))) : GI mX7_best 16 [some (.ref b0), some (.int l1), some (.int l2), none, none] [] K x Q := by
  show mGM mX7_best 16 [some (.ref b0), some (.int l1), some (.int l2), none, none] [] (hp K x) (PI K Q)
  refine r_iload_n (pc := 16) dX7_best_16 rfl ?_
  refine r_aload_n (pc := 17) dX7_best_17 rfl ?_
  refine s_getR (pc := 18) dX7_best_18 fl_X7_27 rfl k_b0 g_b0_3 ?_
  refine s_getI (pc := 21) dX7_best_21 fl_X7_94 rfl k_b0_3 ?_
  refine r_icmp_ge (pc := 24) (tgt := 82) dX7_best_24 (by decide) (fun q => ?_) (fun q => ?_)
  · have K0 := K0.1 q
    refine r_iconst (pc := 82) (v := (-1)) dX7_best_82 (by decide) ?_
    exact s_iret rfl dX7_best_83 K0
  · have K0 := K0.2 q
    refine r_iconst (pc := 27) (v := 0) dX7_best_27 (by decide) ?_
    refine r_istore_n (pc := 28) dX7_best_28 (by decide) ?_
    refine r_iconst (pc := 29) (L := [some (.ref b0), some (.int l1), some (.int l2), some (.int 0), none]) (v := 0) dX7_best_29 (by decide) ?_
    refine r_istore (pc := 30) dX7_best_30 (by decide) ?_
    exact r_le (L' := [some (.ref b0), some (.int l1), some (.int l2), some (.int 0), some (.int 0)]) ⟨rfl, ⟨rfl, ⟨rfl, ⟨rfl, ⟨rfl, trivial⟩⟩⟩⟩⟩ K0
set_option maxHeartbeats 2000000 in
theorem v_X7_best_32 {K : Sh} {x : Cn} {Q : Int32 → Cn → Prop} {b0 : Nat} {l1 : Int32} {l2 : Int32} {l3 : Int32} {l4 : Int32} {b0_3 : Nat} (k_b0 : kk K b0 = some (7, 0)) (g_b0_3 : gr x b0 3 = some b0_3) (k_b0_3 : kk K b0_3 = some (1, 0)) (K0 : ((gi x b0_3 0) ≤ l4 → ((¬ l3 = l1 → (GI mX7_best 16 [some (.ref b0), some (.int l1), some (.int (l2 + 1)), none, none] [] K x Q)) ∧ (l3 = l1 → (Q l2 x)))) ∧ (¬ (gi x b0_3 0) ≤ l4 → ((l4 = l2 → (GI mX7_best 32 [some (.ref b0), some (.int l1), some (.int l2), some (.int l3), some (.int (l4 + 1))] [] K x Q)) ∧ (¬ l4 = l2 → (mSI mX7_usesMore [.ref b0, .int l4, .int l2] K x (fun r_5 y_4 => (r_5 = 0 → (GI mX7_best 32 [some (.ref b0), some (.int l1), some (.int l2), some (.int l3), some (.int (l4 + 1))] [] K y_4 Q)) ∧ (¬ r_5 = 0 → (GI mX7_best 32 [some (.ref b0), some (.int l1), some (.int l2), some (.int (l3 + 1)), some (.int (l4 + 1))] [] K y_4 Q)))))))) : GI mX7_best 32 [some (.ref b0), some (.int l1), some (.int l2), some (.int l3), some (.int l4)] [] K x Q := by
  show mGM mX7_best 32 [some (.ref b0), some (.int l1), some (.int l2), some (.int l3), some (.int l4)] [] (hp K x) (PI K Q)
  refine r_iload (pc := 32) dX7_best_32 rfl ?_
  refine r_aload_n (pc := 34) dX7_best_34 rfl ?_
  refine s_getR (pc := 35) dX7_best_35 fl_X7_27 rfl k_b0 g_b0_3 ?_
  refine s_getI (pc := 38) dX7_best_38 fl_X7_94 rfl k_b0_3 ?_
  refine r_icmp_ge (pc := 41) (tgt := 69) dX7_best_41 (by decide) (fun q => ?_) (fun q => ?_)
  · have K0 := K0.1 q
    refine r_iload_n (pc := 69) dX7_best_69 rfl ?_
    refine r_iload_n (pc := 70) dX7_best_70 rfl ?_
    refine r_icmp_ne (pc := 71) (tgt := 76) dX7_best_71 (by decide) (fun q => ?_) (fun q => ?_)
    · have K0 := K0.1 q
      refine r_iinc (pc := 76) (v := l2 + 1) dX7_best_76 rfl rfl (by decide) ?_
      refine r_goto (pc := 79) (L := [some (.ref b0), some (.int l1), some (.int (l2 + 1)), some (.int l3), some (.int l4)]) (tgt := 16) dX7_best_79 (by decide) ?_
      exact r_le (L' := [some (.ref b0), some (.int l1), some (.int (l2 + 1)), none, none]) ⟨rfl, ⟨rfl, ⟨rfl, trivial⟩⟩⟩ K0
    · have K0 := K0.2 q
      refine r_iload_n (pc := 74) dX7_best_74 rfl ?_
      exact s_iret rfl dX7_best_75 K0
  · have K0 := K0.2 q
    refine r_iload (pc := 44) dX7_best_44 rfl ?_
    refine r_iload_n (pc := 46) dX7_best_46 rfl ?_
    refine r_icmp_eq (pc := 47) (tgt := 63) dX7_best_47 (by decide) (fun q => ?_) (fun q => ?_)
    · have K0 := K0.1 q
      refine r_iinc (pc := 63) (v := l4 + 1) dX7_best_63 rfl rfl (by decide) ?_
      refine r_goto (pc := 66) (L := [some (.ref b0), some (.int l1), some (.int l2), some (.int l3), some (.int (l4 + 1))]) (tgt := 32) dX7_best_66 (by decide) ?_
      exact r_le (L' := [some (.ref b0), some (.int l1), some (.int l2), some (.int l3), some (.int (l4 + 1))]) ⟨rfl, ⟨rfl, ⟨rfl, ⟨rfl, ⟨rfl, trivial⟩⟩⟩⟩⟩ K0
    · have K0 := K0.2 q
      refine r_aload_n (pc := 50) dX7_best_50 rfl ?_
      refine r_iload (pc := 51) dX7_best_51 rfl ?_
      refine r_iload_n (pc := 53) dX7_best_53 rfl ?_
      refine s_VI (pc := 54) mX7_usesMore (ci := 7) (a := b0) (As := [.int l4, .int l2]) dX7_best_54 lk_X7_260 in_X7_usesMore mo_X7_usesMore ⟨by decide, rfl⟩ ⟨by decide, by decide⟩ (Nat.le_of_ble_eq_true rfl) k_b0 (mSI_mono K0 (fun r_5 y_4 K0 => ?_))
      refine r_if_eq (pc := 57) (tgt := 63) dX7_best_57 (by decide) (fun q => ?_) (fun q => ?_)
      · have K0 := K0.1 q
        refine r_iinc (pc := 63) (v := l4 + 1) dX7_best_63 rfl rfl (by decide) ?_
        refine r_goto (pc := 66) (L := [some (.ref b0), some (.int l1), some (.int l2), some (.int l3), some (.int (l4 + 1))]) (tgt := 32) dX7_best_66 (by decide) ?_
        exact r_le (L' := [some (.ref b0), some (.int l1), some (.int l2), some (.int l3), some (.int (l4 + 1))]) ⟨rfl, ⟨rfl, ⟨rfl, ⟨rfl, ⟨rfl, trivial⟩⟩⟩⟩⟩ K0
      · have K0 := K0.2 q
        refine r_iinc (pc := 60) (v := l3 + 1) dX7_best_60 rfl rfl (by decide) ?_
        refine r_iinc (pc := 63) (L := [some (.ref b0), some (.int l1), some (.int l2), some (.int (l3 + 1)), some (.int l4)]) (v := l4 + 1) dX7_best_63 rfl rfl (by decide) ?_
        refine r_goto (pc := 66) (L := [some (.ref b0), some (.int l1), some (.int l2), some (.int (l3 + 1)), some (.int (l4 + 1))]) (tgt := 32) dX7_best_66 (by decide) ?_
        exact r_le (L' := [some (.ref b0), some (.int l1), some (.int l2), some (.int (l3 + 1)), some (.int (l4 + 1))]) ⟨rfl, ⟨rfl, ⟨rfl, ⟨rfl, ⟨rfl, trivial⟩⟩⟩⟩⟩ K0
set_option maxHeartbeats 2000000 in
theorem v_X8_best_0 {K : Sh} {x : Cn} {Q : Int32 → Cn → Prop} {b0 : Nat} {l1 : Int32} {b0_1 : Nat} {n_b0_1 : Nat} (k_b0 : kk K b0 = some (8, 0)) (g_b0_1 : gr x b0 1 = some b0_1) (k_b0_1 : kk K b0_1 = some (20, n_b0_1)) (K0 : vp_in 0 n_b0_1 ∧ ((¬ (0 < gi x b0_1 0) → (Q (-2) x)) ∧ ((0 < gi x b0_1 0) → ((0 ≤ l1 → (GI mX8_best 16 [some (.ref b0), some (.int l1), some (.int 0), none, none] [] K x Q)) ∧ (¬ 0 ≤ l1 → (Q (-2) x)))))) : mSI mX8_best [.ref b0, .int l1] K x Q := by
  refine s_I (by decide) (by simp [Value.category]) (Nat.le_of_ble_eq_true rfl) ?_
  show mGM mX8_best 0 [some (.ref b0), some (.int l1), none, none, none] [] (hp K x) (PI K Q)
  refine r_aload_n (pc := 0) dX8_best_0 rfl ?_
  obtain ⟨i_1, K0⟩ := K0
  refine s_VI (pc := 1) mX8_isThere (ci := 8) (a := b0) (As := []) dX8_best_1 lk_X8_49 in_X8_isThere mo_X8_isThere ⟨by decide, rfl⟩ ⟨by decide, by decide⟩ (Nat.le_of_ble_eq_true rfl) k_b0 (sp_X8_isThere k_b0 g_b0_1 k_b0_1 i_1 ?_)
  refine r_if_eq (pc := 4) (tgt := 11) dX8_best_4 (by decide) (fun q => ?_) (fun q => ?_)
  · have q := (b2i_z _).mp q
    have K0 := K0.1 q
    refine r_bipush (pc := 11) (v := (-2)) dX8_best_11 (by decide) ?_
    exact s_iret rfl dX8_best_13 K0
  · have q := b2i_nz q
    have K0 := K0.2 q
    refine r_iload_n (pc := 7) dX8_best_7 rfl ?_
    refine r_if_ge (pc := 8) (tgt := 14) dX8_best_8 (by decide) (fun q => ?_) (fun q => ?_)
    · have K0 := K0.1 q
      refine r_iconst (pc := 14) (v := 0) dX8_best_14 (by decide) ?_
      refine r_istore_n (pc := 15) dX8_best_15 (by decide) ?_
      exact r_le (L' := [some (.ref b0), some (.int l1), some (.int 0), none, none]) ⟨rfl, ⟨rfl, ⟨rfl, trivial⟩⟩⟩ K0
    · have K0 := K0.2 q
      refine r_bipush (pc := 11) (v := (-2)) dX8_best_11 (by decide) ?_
      exact s_iret rfl dX8_best_13 K0
set_option maxHeartbeats 2000000 in
theorem v_X8_best_16 {K : Sh} {x : Cn} {Q : Int32 → Cn → Prop} {b0 : Nat} {l1 : Int32} {l2 : Int32} {b0_1 : Nat} {n_b0_1 : Nat} (k_b0 : kk K b0 = some (8, 0)) (g_b0_1 : gr x b0 1 = some b0_1) (k_b0_1 : kk K b0_1 = some (20, n_b0_1)) (K0 : vp_in 1 n_b0_1 ∧ (((gi x b0_1 1) ≤ l2 → (Q (-1) x)) ∧ (¬ (gi x b0_1 1) ≤ l2 → (GI mX8_best 31 [some (.ref b0), some (.int l1), some (.int l2), some (.int 0), some (.int 0)] [] K x Q)))) : GI mX8_best 16 [some (.ref b0), some (.int l1), some (.int l2), none, none] [] K x Q := by
  show mGM mX8_best 16 [some (.ref b0), some (.int l1), some (.int l2), none, none] [] (hp K x) (PI K Q)
  refine r_iload_n (pc := 16) dX8_best_16 rfl ?_
  refine r_aload_n (pc := 17) dX8_best_17 rfl ?_
  refine s_getR (pc := 18) dX8_best_18 fl_X8_9 rfl k_b0 g_b0_1 ?_
  refine r_iconst (pc := 21) (v := 1) dX8_best_21 (by decide) ?_
  obtain ⟨i_1, K0⟩ := K0
  refine s_iald (pc := 22) dX8_best_22 k_b0_1 i_1 ?_
  refine r_icmp_ge (pc := 23) (tgt := 85) dX8_best_23 (by decide) (fun q => ?_) (fun q => ?_)
  · have K0 := K0.1 q
    refine r_iconst (pc := 85) (v := (-1)) dX8_best_85 (by decide) ?_
    exact s_iret rfl dX8_best_86 K0
  · have K0 := K0.2 q
    refine r_iconst (pc := 26) (v := 0) dX8_best_26 (by decide) ?_
    refine r_istore_n (pc := 27) dX8_best_27 (by decide) ?_
    refine r_iconst (pc := 28) (L := [some (.ref b0), some (.int l1), some (.int l2), some (.int 0), none]) (v := 0) dX8_best_28 (by decide) ?_
    refine r_istore (pc := 29) dX8_best_29 (by decide) ?_
    exact r_le (L' := [some (.ref b0), some (.int l1), some (.int l2), some (.int 0), some (.int 0)]) ⟨rfl, ⟨rfl, ⟨rfl, ⟨rfl, ⟨rfl, trivial⟩⟩⟩⟩⟩ K0
set_option maxHeartbeats 2000000 in
theorem v_X8_best_31 {K : Sh} {x : Cn} {Q : Int32 → Cn → Prop} {b0 : Nat} {l1 : Int32} {l2 : Int32} {l3 : Int32} {l4 : Int32} {b0_1 : Nat} {n_b0_1 : Nat} (k_b0 : kk K b0 = some (8, 0)) (g_b0_1 : gr x b0 1 = some b0_1) (k_b0_1 : kk K b0_1 = some (20, n_b0_1)) (K0 : vp_in 1 n_b0_1 ∧ (((gi x b0_1 1) ≤ l4 → ((¬ l3 = l1 → (GI mX8_best 16 [some (.ref b0), some (.int l1), some (.int (l2 + 1)), none, none] [] K x Q)) ∧ (l3 = l1 → (Q l2 x)))) ∧ (¬ (gi x b0_1 1) ≤ l4 → ((l4 = l2 → (GI mX8_best 31 [some (.ref b0), some (.int l1), some (.int l2), some (.int (l3 + 0)), some (.int (l4 + 1))] [] K x Q)) ∧ (¬ l4 = l2 → (mSI mX8_isBetter [.ref b0, .int l4, .int l2] K x (fun r_6 y_5 => (r_6 = 0 → (GI mX8_best 31 [some (.ref b0), some (.int l1), some (.int l2), some (.int (l3 + 0)), some (.int (l4 + 1))] [] K y_5 Q)) ∧ (¬ r_6 = 0 → (GI mX8_best 31 [some (.ref b0), some (.int l1), some (.int l2), some (.int (l3 + 1)), some (.int (l4 + 1))] [] K y_5 Q))))))))) : GI mX8_best 31 [some (.ref b0), some (.int l1), some (.int l2), some (.int l3), some (.int l4)] [] K x Q := by
  show mGM mX8_best 31 [some (.ref b0), some (.int l1), some (.int l2), some (.int l3), some (.int l4)] [] (hp K x) (PI K Q)
  refine r_iload (pc := 31) dX8_best_31 rfl ?_
  refine r_aload_n (pc := 33) dX8_best_33 rfl ?_
  refine s_getR (pc := 34) dX8_best_34 fl_X8_9 rfl k_b0 g_b0_1 ?_
  refine r_iconst (pc := 37) (v := 1) dX8_best_37 (by decide) ?_
  obtain ⟨i_1, K0⟩ := K0
  refine s_iald (pc := 38) dX8_best_38 k_b0_1 i_1 ?_
  refine r_icmp_ge (pc := 39) (tgt := 72) dX8_best_39 (by decide) (fun q => ?_) (fun q => ?_)
  · have K0 := K0.1 q
    refine r_iload_n (pc := 72) dX8_best_72 rfl ?_
    refine r_iload_n (pc := 73) dX8_best_73 rfl ?_
    refine r_icmp_ne (pc := 74) (tgt := 79) dX8_best_74 (by decide) (fun q => ?_) (fun q => ?_)
    · have K0 := K0.1 q
      refine r_iinc (pc := 79) (v := l2 + 1) dX8_best_79 rfl rfl (by decide) ?_
      refine r_goto (pc := 82) (L := [some (.ref b0), some (.int l1), some (.int (l2 + 1)), some (.int l3), some (.int l4)]) (tgt := 16) dX8_best_82 (by decide) ?_
      exact r_le (L' := [some (.ref b0), some (.int l1), some (.int (l2 + 1)), none, none]) ⟨rfl, ⟨rfl, ⟨rfl, trivial⟩⟩⟩ K0
    · have K0 := K0.2 q
      refine r_iload_n (pc := 77) dX8_best_77 rfl ?_
      exact s_iret rfl dX8_best_78 K0
  · have K0 := K0.2 q
    refine r_iload_n (pc := 42) dX8_best_42 rfl ?_
    refine r_iload (pc := 43) dX8_best_43 rfl ?_
    refine r_iload_n (pc := 45) dX8_best_45 rfl ?_
    refine r_icmp_eq (pc := 46) (tgt := 63) dX8_best_46 (by decide) (fun q => ?_) (fun q => ?_)
    · have K0 := K0.1 q
      refine r_iconst (pc := 63) (v := 0) dX8_best_63 (by decide) ?_
      refine r_iadd (pc := 64) dX8_best_64 ?_
      refine r_istore_n (pc := 65) dX8_best_65 (by decide) ?_
      refine r_iinc (pc := 66) (L := [some (.ref b0), some (.int l1), some (.int l2), some (.int (l3 + 0)), some (.int l4)]) (v := l4 + 1) dX8_best_66 rfl rfl (by decide) ?_
      refine r_goto (pc := 69) (L := [some (.ref b0), some (.int l1), some (.int l2), some (.int (l3 + 0)), some (.int (l4 + 1))]) (tgt := 31) dX8_best_69 (by decide) ?_
      exact r_le (L' := [some (.ref b0), some (.int l1), some (.int l2), some (.int (l3 + 0)), some (.int (l4 + 1))]) ⟨rfl, ⟨rfl, ⟨rfl, ⟨rfl, ⟨rfl, trivial⟩⟩⟩⟩⟩ K0
    · have K0 := K0.2 q
      refine r_aload_n (pc := 49) dX8_best_49 rfl ?_
      refine r_iload (pc := 50) dX8_best_50 rfl ?_
      refine r_iload_n (pc := 52) dX8_best_52 rfl ?_
      refine s_VI (pc := 53) mX8_isBetter (ci := 8) (a := b0) (As := [.int l4, .int l2]) dX8_best_53 lk_X8_320 in_X8_isBetter mo_X8_isBetter ⟨by decide, rfl⟩ ⟨by decide, by decide⟩ (Nat.le_of_ble_eq_true rfl) k_b0 (mSI_mono K0 (fun r_6 y_5 K0 => ?_))
      refine r_if_eq (pc := 56) (tgt := 63) dX8_best_56 (by decide) (fun q => ?_) (fun q => ?_)
      · have K0 := K0.1 q
        refine r_iconst (pc := 63) (v := 0) dX8_best_63 (by decide) ?_
        refine r_iadd (pc := 64) dX8_best_64 ?_
        refine r_istore_n (pc := 65) dX8_best_65 (by decide) ?_
        refine r_iinc (pc := 66) (L := [some (.ref b0), some (.int l1), some (.int l2), some (.int (l3 + 0)), some (.int l4)]) (v := l4 + 1) dX8_best_66 rfl rfl (by decide) ?_
        refine r_goto (pc := 69) (L := [some (.ref b0), some (.int l1), some (.int l2), some (.int (l3 + 0)), some (.int (l4 + 1))]) (tgt := 31) dX8_best_69 (by decide) ?_
        exact r_le (L' := [some (.ref b0), some (.int l1), some (.int l2), some (.int (l3 + 0)), some (.int (l4 + 1))]) ⟨rfl, ⟨rfl, ⟨rfl, ⟨rfl, ⟨rfl, trivial⟩⟩⟩⟩⟩ K0
      · have K0 := K0.2 q
        refine r_iconst (pc := 59) (v := 1) dX8_best_59 (by decide) ?_
        refine r_goto (pc := 60) (tgt := 64) dX8_best_60 (by decide) ?_
        refine r_iadd (pc := 64) dX8_best_64 ?_
        refine r_istore_n (pc := 65) dX8_best_65 (by decide) ?_
        refine r_iinc (pc := 66) (L := [some (.ref b0), some (.int l1), some (.int l2), some (.int (l3 + 1)), some (.int l4)]) (v := l4 + 1) dX8_best_66 rfl rfl (by decide) ?_
        refine r_goto (pc := 69) (L := [some (.ref b0), some (.int l1), some (.int l2), some (.int (l3 + 1)), some (.int (l4 + 1))]) (tgt := 31) dX8_best_69 (by decide) ?_
        exact r_le (L' := [some (.ref b0), some (.int l1), some (.int l2), some (.int (l3 + 1)), some (.int (l4 + 1))]) ⟨rfl, ⟨rfl, ⟨rfl, ⟨rfl, ⟨rfl, trivial⟩⟩⟩⟩⟩ K0
set_option maxHeartbeats 2000000 in
theorem v_X7_most_0 {K : Sh} {x : Cn} {Q : Int32 → Cn → Prop} {b0 : Nat} {l1 : Int32} {l2 : Int32} {b0_2 : Nat} (k_b0 : kk K b0 = some (7, 0)) (g_b0_2 : gr x b0 2 = some b0_2) (k_b0_2 : kk K b0_2 = some (4, 0)) (K0 : (¬ (0 < gi x b0_2 0 ∧ 0 ≤ l1 ∧ l1 < 7) → (Q (-2) x)) ∧ ((0 < gi x b0_2 0 ∧ 0 ≤ l1 ∧ l1 < 7) → ((0 ≤ l2 → (GI mX7_most 17 [some (.ref b0), some (.int l1), some (.int l2), some (.int 0), none, none, none, none] [] K x Q)) ∧ (¬ 0 ≤ l2 → (Q (-2) x))))) : mSI mX7_most [.ref b0, .int l1, .int l2] K x Q := by
  refine s_I (by decide) (by simp [Value.category]) (Nat.le_of_ble_eq_true rfl) ?_
  show mGM mX7_most 0 [some (.ref b0), some (.int l1), some (.int l2), none, none, none, none, none] [] (hp K x) (PI K Q)
  refine r_aload_n (pc := 0) dX7_most_0 rfl ?_
  refine r_iload_n (pc := 1) dX7_most_1 rfl ?_
  refine s_VI (pc := 2) mX7_isDay (ci := 7) (a := b0) (As := [.int l1]) dX7_most_2 lk_X7_245 in_X7_isDay mo_X7_isDay ⟨by decide, rfl⟩ ⟨by decide, by decide⟩ (Nat.le_of_ble_eq_true rfl) k_b0 (sp_X7_isDay k_b0 g_b0_2 k_b0_2 ?_)
  refine r_if_eq (pc := 5) (tgt := 12) dX7_most_5 (by decide) (fun q => ?_) (fun q => ?_)
  · have q := (b2i_z _).mp q
    have K0 := K0.1 q
    refine r_bipush (pc := 12) (v := (-2)) dX7_most_12 (by decide) ?_
    exact s_iret rfl dX7_most_14 K0
  · have q := b2i_nz q
    have K0 := K0.2 q
    refine r_iload_n (pc := 8) dX7_most_8 rfl ?_
    refine r_if_ge (pc := 9) (tgt := 15) dX7_most_9 (by decide) (fun q => ?_) (fun q => ?_)
    · have K0 := K0.1 q
      refine r_iconst (pc := 15) (v := 0) dX7_most_15 (by decide) ?_
      refine r_istore_n (pc := 16) dX7_most_16 (by decide) ?_
      exact r_le (L' := [some (.ref b0), some (.int l1), some (.int l2), some (.int 0), none, none, none, none]) ⟨rfl, ⟨rfl, ⟨rfl, ⟨rfl, trivial⟩⟩⟩⟩ K0
    · have K0 := K0.2 q
      refine r_bipush (pc := 12) (v := (-2)) dX7_most_12 (by decide) ?_
      exact s_iret rfl dX7_most_14 K0
set_option maxHeartbeats 2000000 in
theorem v_X7_most_17 {K : Sh} {x : Cn} {Q : Int32 → Cn → Prop} {b0 : Nat} {l1 : Int32} {l2 : Int32} {l3 : Int32} {b0_3 : Nat} {b0_2 : Nat} (k_b0 : kk K b0 = some (7, 0)) (g_b0_3 : gr x b0 3 = some b0_3) (k_b0_3 : kk K b0_3 = some (1, 0)) (g_b0_2 : gr x b0 2 = some b0_2) (k_b0_2 : kk K b0_2 = some (4, 0)) (K0 : ((gi x b0_3 0) ≤ l3 → (Q (-1) x)) ∧ (¬ (gi x b0_3 0) ≤ l3 → (mSI mX4_basisOf [.ref b0_2, .int l3, .int l1] K x (fun r_3 y_2 => GI mX7_most 45 [some (.ref b0), some (.int l1), some (.int l2), some (.int l3), some (.int r_3), some (.int 0), some (.int 0), none] [] K y_2 Q)))) : GI mX7_most 17 [some (.ref b0), some (.int l1), some (.int l2), some (.int l3), none, none, none, none] [] K x Q := by
  show mGM mX7_most 17 [some (.ref b0), some (.int l1), some (.int l2), some (.int l3), none, none, none, none] [] (hp K x) (PI K Q)
  refine r_iload_n (pc := 17) dX7_most_17 rfl ?_
  refine r_aload_n (pc := 18) dX7_most_18 rfl ?_
  refine s_getR (pc := 19) dX7_most_19 fl_X7_27 rfl k_b0 g_b0_3 ?_
  refine s_getI (pc := 22) dX7_most_22 fl_X7_94 rfl k_b0_3 ?_
  refine r_icmp_ge (pc := 25) (tgt := 112) dX7_most_25 (by decide) (fun q => ?_) (fun q => ?_)
  · have K0 := K0.1 q
    refine r_iconst (pc := 112) (v := (-1)) dX7_most_112 (by decide) ?_
    exact s_iret rfl dX7_most_113 K0
  · have K0 := K0.2 q
    refine r_aload_n (pc := 28) dX7_most_28 rfl ?_
    refine s_getR (pc := 29) dX7_most_29 fl_X7_20 rfl k_b0 g_b0_2 ?_
    refine r_iload_n (pc := 32) dX7_most_32 rfl ?_
    refine r_iload_n (pc := 33) dX7_most_33 rfl ?_
    refine s_VI (pc := 34) mX4_basisOf (ci := 4) (a := b0_2) (As := [.int l3, .int l1]) dX7_most_34 lk_X7_263 in_X4_basisOf mo_X4_basisOf ⟨by decide, rfl⟩ ⟨by decide, by decide⟩ (Nat.le_of_ble_eq_true rfl) k_b0_2 (mSI_mono K0 (fun r_3 y_2 K0 => ?_))
    refine r_istore (pc := 37) dX7_most_37 (by decide) ?_
    refine r_iconst (pc := 39) (L := [some (.ref b0), some (.int l1), some (.int l2), some (.int l3), some (.int r_3), none, none, none]) (v := 0) dX7_most_39 (by decide) ?_
    refine r_istore (pc := 40) dX7_most_40 (by decide) ?_
    refine r_iconst (pc := 42) (L := [some (.ref b0), some (.int l1), some (.int l2), some (.int l3), some (.int r_3), some (.int 0), none, none]) (v := 0) dX7_most_42 (by decide) ?_
    refine r_istore (pc := 43) dX7_most_43 (by decide) ?_
    exact r_le (L' := [some (.ref b0), some (.int l1), some (.int l2), some (.int l3), some (.int r_3), some (.int 0), some (.int 0), none]) ⟨rfl, ⟨rfl, ⟨rfl, ⟨rfl, ⟨rfl, ⟨rfl, ⟨rfl, trivial⟩⟩⟩⟩⟩⟩⟩ K0
set_option maxHeartbeats 2000000 in
theorem v_X7_most_45 {K : Sh} {x : Cn} {Q : Int32 → Cn → Prop} {b0 : Nat} {l1 : Int32} {l2 : Int32} {l3 : Int32} {l4 : Int32} {l5 : Int32} {l6 : Int32} {b0_3 : Nat} {b0_2 : Nat} (k_b0 : kk K b0 = some (7, 0)) (g_b0_3 : gr x b0 3 = some b0_3) (k_b0_3 : kk K b0_3 = some (1, 0)) (g_b0_2 : gr x b0 2 = some b0_2) (k_b0_2 : kk K b0_2 = some (4, 0)) (K0 : ((gi x b0_3 0) ≤ l6 → ((¬ l5 = l2 → (GI mX7_most 17 [some (.ref b0), some (.int l1), some (.int l2), some (.int (l3 + 1)), none, none, none, none] [] K x Q)) ∧ (l5 = l2 → (Q l3 x)))) ∧ (¬ (gi x b0_3 0) ≤ l6 → (mSI mX4_basisOf [.ref b0_2, .int l6, .int l1] K x (fun r_4 y_3 => (l4 < r_4 → (GI mX7_most 45 [some (.ref b0), some (.int l1), some (.int l2), some (.int l3), some (.int l4), some (.int (l5 + 1)), some (.int (l6 + 1)), none] [] K y_3 Q)) ∧ (¬ l4 < r_4 → ((¬ r_4 = l4 → (GI mX7_most 45 [some (.ref b0), some (.int l1), some (.int l2), some (.int l3), some (.int l4), some (.int l5), some (.int (l6 + 1)), none] [] K y_3 Q)) ∧ (r_4 = l4 → ((l3 ≤ l6 → (GI mX7_most 45 [some (.ref b0), some (.int l1), some (.int l2), some (.int l3), some (.int l4), some (.int l5), some (.int (l6 + 1)), none] [] K y_3 Q)) ∧ (¬ l3 ≤ l6 → (GI mX7_most 45 [some (.ref b0), some (.int l1), some (.int l2), some (.int l3), some (.int l4), some (.int (l5 + 1)), some (.int (l6 + 1)), none] [] K y_3 Q)))))))))) : GI mX7_most 45 [some (.ref b0), some (.int l1), some (.int l2), some (.int l3), some (.int l4), some (.int l5), some (.int l6), none] [] K x Q := by
  show mGM mX7_most 45 [some (.ref b0), some (.int l1), some (.int l2), some (.int l3), some (.int l4), some (.int l5), some (.int l6), none] [] (hp K x) (PI K Q)
  refine r_iload (pc := 45) dX7_most_45 rfl ?_
  refine r_aload_n (pc := 47) dX7_most_47 rfl ?_
  refine s_getR (pc := 48) dX7_most_48 fl_X7_27 rfl k_b0 g_b0_3 ?_
  refine s_getI (pc := 51) dX7_most_51 fl_X7_94 rfl k_b0_3 ?_
  refine r_icmp_ge (pc := 54) (tgt := 98) dX7_most_54 (by decide) (fun q => ?_) (fun q => ?_)
  · have K0 := K0.1 q
    refine r_iload (pc := 98) dX7_most_98 rfl ?_
    refine r_iload_n (pc := 100) dX7_most_100 rfl ?_
    refine r_icmp_ne (pc := 101) (tgt := 106) dX7_most_101 (by decide) (fun q => ?_) (fun q => ?_)
    · have K0 := K0.1 q
      refine r_iinc (pc := 106) (v := l3 + 1) dX7_most_106 rfl rfl (by decide) ?_
      refine r_goto (pc := 109) (L := [some (.ref b0), some (.int l1), some (.int l2), some (.int (l3 + 1)), some (.int l4), some (.int l5), some (.int l6), none]) (tgt := 17) dX7_most_109 (by decide) ?_
      exact r_le (L' := [some (.ref b0), some (.int l1), some (.int l2), some (.int (l3 + 1)), none, none, none, none]) ⟨rfl, ⟨rfl, ⟨rfl, ⟨rfl, trivial⟩⟩⟩⟩ K0
    · have K0 := K0.2 q
      refine r_iload_n (pc := 104) dX7_most_104 rfl ?_
      exact s_iret rfl dX7_most_105 K0
  · have K0 := K0.2 q
    refine r_aload_n (pc := 57) dX7_most_57 rfl ?_
    refine s_getR (pc := 58) dX7_most_58 fl_X7_20 rfl k_b0 g_b0_2 ?_
    refine r_iload (pc := 61) dX7_most_61 rfl ?_
    refine r_iload_n (pc := 63) dX7_most_63 rfl ?_
    refine s_VI (pc := 64) mX4_basisOf (ci := 4) (a := b0_2) (As := [.int l6, .int l1]) dX7_most_64 lk_X7_263 in_X4_basisOf mo_X4_basisOf ⟨by decide, rfl⟩ ⟨by decide, by decide⟩ (Nat.le_of_ble_eq_true rfl) k_b0_2 (mSI_mono K0 (fun r_4 y_3 K0 => ?_))
    refine r_istore (pc := 67) dX7_most_67 (by decide) ?_
    refine r_iload (pc := 69) (L := [some (.ref b0), some (.int l1), some (.int l2), some (.int l3), some (.int l4), some (.int l5), some (.int l6), some (.int r_4)]) dX7_most_69 rfl ?_
    refine r_iload (pc := 71) dX7_most_71 rfl ?_
    refine r_icmp_gt (pc := 73) (tgt := 89) dX7_most_73 (by decide) (fun q => ?_) (fun q => ?_)
    · have K0 := K0.1 q
      refine r_iinc (pc := 89) (v := l5 + 1) dX7_most_89 rfl rfl (by decide) ?_
      refine r_iinc (pc := 92) (L := [some (.ref b0), some (.int l1), some (.int l2), some (.int l3), some (.int l4), some (.int (l5 + 1)), some (.int l6), some (.int r_4)]) (v := l6 + 1) dX7_most_92 rfl rfl (by decide) ?_
      refine r_goto (pc := 95) (L := [some (.ref b0), some (.int l1), some (.int l2), some (.int l3), some (.int l4), some (.int (l5 + 1)), some (.int (l6 + 1)), some (.int r_4)]) (tgt := 45) dX7_most_95 (by decide) ?_
      exact r_le (L' := [some (.ref b0), some (.int l1), some (.int l2), some (.int l3), some (.int l4), some (.int (l5 + 1)), some (.int (l6 + 1)), none]) ⟨rfl, ⟨rfl, ⟨rfl, ⟨rfl, ⟨rfl, ⟨rfl, ⟨rfl, trivial⟩⟩⟩⟩⟩⟩⟩ K0
    · have K0 := K0.2 q
      refine r_iload (pc := 76) dX7_most_76 rfl ?_
      refine r_iload (pc := 78) dX7_most_78 rfl ?_
      refine r_icmp_ne (pc := 80) (tgt := 92) dX7_most_80 (by decide) (fun q => ?_) (fun q => ?_)
      · have K0 := K0.1 q
        refine r_iinc (pc := 92) (v := l6 + 1) dX7_most_92 rfl rfl (by decide) ?_
        refine r_goto (pc := 95) (L := [some (.ref b0), some (.int l1), some (.int l2), some (.int l3), some (.int l4), some (.int l5), some (.int (l6 + 1)), some (.int r_4)]) (tgt := 45) dX7_most_95 (by decide) ?_
        exact r_le (L' := [some (.ref b0), some (.int l1), some (.int l2), some (.int l3), some (.int l4), some (.int l5), some (.int (l6 + 1)), none]) ⟨rfl, ⟨rfl, ⟨rfl, ⟨rfl, ⟨rfl, ⟨rfl, ⟨rfl, trivial⟩⟩⟩⟩⟩⟩⟩ K0
      · have K0 := K0.2 q
        refine r_iload (pc := 83) dX7_most_83 rfl ?_
        refine r_iload_n (pc := 85) dX7_most_85 rfl ?_
        refine r_icmp_ge (pc := 86) (tgt := 92) dX7_most_86 (by decide) (fun q => ?_) (fun q => ?_)
        · have K0 := K0.1 q
          refine r_iinc (pc := 92) (v := l6 + 1) dX7_most_92 rfl rfl (by decide) ?_
          refine r_goto (pc := 95) (L := [some (.ref b0), some (.int l1), some (.int l2), some (.int l3), some (.int l4), some (.int l5), some (.int (l6 + 1)), some (.int r_4)]) (tgt := 45) dX7_most_95 (by decide) ?_
          exact r_le (L' := [some (.ref b0), some (.int l1), some (.int l2), some (.int l3), some (.int l4), some (.int l5), some (.int (l6 + 1)), none]) ⟨rfl, ⟨rfl, ⟨rfl, ⟨rfl, ⟨rfl, ⟨rfl, ⟨rfl, trivial⟩⟩⟩⟩⟩⟩⟩ K0
        · have K0 := K0.2 q
          refine r_iinc (pc := 89) (v := l5 + 1) dX7_most_89 rfl rfl (by decide) ?_
          refine r_iinc (pc := 92) (L := [some (.ref b0), some (.int l1), some (.int l2), some (.int l3), some (.int l4), some (.int (l5 + 1)), some (.int l6), some (.int r_4)]) (v := l6 + 1) dX7_most_92 rfl rfl (by decide) ?_
          refine r_goto (pc := 95) (L := [some (.ref b0), some (.int l1), some (.int l2), some (.int l3), some (.int l4), some (.int (l5 + 1)), some (.int (l6 + 1)), some (.int r_4)]) (tgt := 45) dX7_most_95 (by decide) ?_
          exact r_le (L' := [some (.ref b0), some (.int l1), some (.int l2), some (.int l3), some (.int l4), some (.int (l5 + 1)), some (.int (l6 + 1)), none]) ⟨rfl, ⟨rfl, ⟨rfl, ⟨rfl, ⟨rfl, ⟨rfl, ⟨rfl, trivial⟩⟩⟩⟩⟩⟩⟩ K0
set_option maxHeartbeats 2000000 in
theorem v_X8_most_0 {K : Sh} {x : Cn} {Q : Int32 → Cn → Prop} {b0 : Nat} {l1 : Int32} {l2 : Int32} {b0_1 : Nat} {n_b0_1 : Nat} (k_b0 : kk K b0 = some (8, 0)) (g_b0_1 : gr x b0 1 = some b0_1) (k_b0_1 : kk K b0_1 = some (20, n_b0_1)) (K0 : vp_in 0 n_b0_1 ∧ ((¬ (0 < gi x b0_1 0 ∧ 0 ≤ l1 ∧ l1 ≤ 6) → (Q (-2) x)) ∧ ((0 < gi x b0_1 0 ∧ 0 ≤ l1 ∧ l1 ≤ 6) → ((0 ≤ l2 → (GI mX8_most 17 [some (.ref b0), some (.int l1), some (.int l2), some (.int 0), none, none] [] K x Q)) ∧ (¬ 0 ≤ l2 → (Q (-2) x)))))) : mSI mX8_most [.ref b0, .int l1, .int l2] K x Q := by
  refine s_I (by decide) (by simp [Value.category]) (Nat.le_of_ble_eq_true rfl) ?_
  show mGM mX8_most 0 [some (.ref b0), some (.int l1), some (.int l2), none, none, none] [] (hp K x) (PI K Q)
  refine r_aload_n (pc := 0) dX8_most_0 rfl ?_
  refine r_iload_n (pc := 1) dX8_most_1 rfl ?_
  obtain ⟨i_1, K0⟩ := K0
  refine s_VI (pc := 2) mX8_isDay (ci := 8) (a := b0) (As := [.int l1]) dX8_most_2 lk_X8_61 in_X8_isDay mo_X8_isDay ⟨by decide, rfl⟩ ⟨by decide, by decide⟩ (Nat.le_of_ble_eq_true rfl) k_b0 (sp_X8_isDay k_b0 g_b0_1 k_b0_1 i_1 ?_)
  refine r_if_eq (pc := 5) (tgt := 12) dX8_most_5 (by decide) (fun q => ?_) (fun q => ?_)
  · have q := (b2i_z _).mp q
    have K0 := K0.1 q
    refine r_bipush (pc := 12) (v := (-2)) dX8_most_12 (by decide) ?_
    exact s_iret rfl dX8_most_14 K0
  · have q := b2i_nz q
    have K0 := K0.2 q
    refine r_iload_n (pc := 8) dX8_most_8 rfl ?_
    refine r_if_ge (pc := 9) (tgt := 15) dX8_most_9 (by decide) (fun q => ?_) (fun q => ?_)
    · have K0 := K0.1 q
      refine r_iconst (pc := 15) (v := 0) dX8_most_15 (by decide) ?_
      refine r_istore_n (pc := 16) dX8_most_16 (by decide) ?_
      exact r_le (L' := [some (.ref b0), some (.int l1), some (.int l2), some (.int 0), none, none]) ⟨rfl, ⟨rfl, ⟨rfl, ⟨rfl, trivial⟩⟩⟩⟩ K0
    · have K0 := K0.2 q
      refine r_bipush (pc := 12) (v := (-2)) dX8_most_12 (by decide) ?_
      exact s_iret rfl dX8_most_14 K0
set_option maxHeartbeats 2000000 in
theorem v_X8_most_17 {K : Sh} {x : Cn} {Q : Int32 → Cn → Prop} {b0 : Nat} {l1 : Int32} {l2 : Int32} {l3 : Int32} {b0_1 : Nat} {n_b0_1 : Nat} (k_b0 : kk K b0 = some (8, 0)) (g_b0_1 : gr x b0 1 = some b0_1) (k_b0_1 : kk K b0_1 = some (20, n_b0_1)) (K0 : vp_in 1 n_b0_1 ∧ (((gi x b0_1 1) ≤ l3 → (Q (-1) x)) ∧ (¬ (gi x b0_1 1) ≤ l3 → (GI mX8_most 33 [some (.ref b0), some (.int l1), some (.int l2), some (.int l3), some (.int 0), some (.int 0)] [] K x Q)))) : GI mX8_most 17 [some (.ref b0), some (.int l1), some (.int l2), some (.int l3), none, none] [] K x Q := by
  show mGM mX8_most 17 [some (.ref b0), some (.int l1), some (.int l2), some (.int l3), none, none] [] (hp K x) (PI K Q)
  refine r_iload_n (pc := 17) dX8_most_17 rfl ?_
  refine r_aload_n (pc := 18) dX8_most_18 rfl ?_
  refine s_getR (pc := 19) dX8_most_19 fl_X8_9 rfl k_b0 g_b0_1 ?_
  refine r_iconst (pc := 22) (v := 1) dX8_most_22 (by decide) ?_
  obtain ⟨i_1, K0⟩ := K0
  refine s_iald (pc := 23) dX8_most_23 k_b0_1 i_1 ?_
  refine r_icmp_ge (pc := 24) (tgt := 112) dX8_most_24 (by decide) (fun q => ?_) (fun q => ?_)
  · have K0 := K0.1 q
    refine r_iconst (pc := 112) (v := (-1)) dX8_most_112 (by decide) ?_
    exact s_iret rfl dX8_most_113 K0
  · have K0 := K0.2 q
    refine r_iconst (pc := 27) (v := 0) dX8_most_27 (by decide) ?_
    refine r_istore (pc := 28) dX8_most_28 (by decide) ?_
    refine r_iconst (pc := 30) (L := [some (.ref b0), some (.int l1), some (.int l2), some (.int l3), some (.int 0), none]) (v := 0) dX8_most_30 (by decide) ?_
    refine r_istore (pc := 31) dX8_most_31 (by decide) ?_
    exact r_le (L' := [some (.ref b0), some (.int l1), some (.int l2), some (.int l3), some (.int 0), some (.int 0)]) ⟨rfl, ⟨rfl, ⟨rfl, ⟨rfl, ⟨rfl, ⟨rfl, trivial⟩⟩⟩⟩⟩⟩ K0
set_option maxHeartbeats 2000000 in
theorem v_X8_most_33 {K : Sh} {x : Cn} {Q : Int32 → Cn → Prop} {b0 : Nat} {l1 : Int32} {l2 : Int32} {l3 : Int32} {l4 : Int32} {l5 : Int32} {b0_1 : Nat} {n_b0_1 : Nat} (k_b0 : kk K b0 = some (8, 0)) (g_b0_1 : gr x b0 1 = some b0_1) (k_b0_1 : kk K b0_1 = some (20, n_b0_1)) (K0 : vp_in 1 n_b0_1 ∧ (((gi x b0_1 1) ≤ l5 → ((¬ l4 = l2 → (GI mX8_most 17 [some (.ref b0), some (.int l1), some (.int l2), some (.int (l3 + 1)), none, none] [] K x Q)) ∧ (l4 = l2 → (Q l3 x)))) ∧ (¬ (gi x b0_1 1) ≤ l5 → (mSI mX8_basisOn [.ref b0, .int l5, .int l1] K x (fun r_5 y_4 => mSI mX8_basisOn [.ref b0, .int l3, .int l1] K y_4 (fun r_7 y_6 => (r_7 < r_5 → (GI mX8_most 33 [some (.ref b0), some (.int l1), some (.int l2), some (.int l3), some (.int (l4 + 1)), some (.int (l5 + 1))] [] K y_6 Q)) ∧ (¬ r_7 < r_5 → (mSI mX8_basisOn [.ref b0, .int l5, .int l1] K y_6 (fun r_10 y_9 => mSI mX8_basisOn [.ref b0, .int l3, .int l1] K y_9 (fun r_12 y_11 => (¬ r_10 = r_12 → (GI mX8_most 33 [some (.ref b0), some (.int l1), some (.int l2), some (.int l3), some (.int (l4 + 0)), some (.int (l5 + 1))] [] K y_11 Q)) ∧ (r_10 = r_12 → ((l3 ≤ l5 → (GI mX8_most 33 [some (.ref b0), some (.int l1), some (.int l2), some (.int l3), some (.int (l4 + 0)), some (.int (l5 + 1))] [] K y_11 Q)) ∧ (¬ l3 ≤ l5 → (GI mX8_most 33 [some (.ref b0), some (.int l1), some (.int l2), some (.int l3), some (.int (l4 + 1)), some (.int (l5 + 1))] [] K y_11 Q)))))))))))))) : GI mX8_most 33 [some (.ref b0), some (.int l1), some (.int l2), some (.int l3), some (.int l4), some (.int l5)] [] K x Q := by
  show mGM mX8_most 33 [some (.ref b0), some (.int l1), some (.int l2), some (.int l3), some (.int l4), some (.int l5)] [] (hp K x) (PI K Q)
  refine r_iload (pc := 33) dX8_most_33 rfl ?_
  refine r_aload_n (pc := 35) dX8_most_35 rfl ?_
  refine s_getR (pc := 36) dX8_most_36 fl_X8_9 rfl k_b0 g_b0_1 ?_
  refine r_iconst (pc := 39) (v := 1) dX8_most_39 (by decide) ?_
  obtain ⟨i_1, K0⟩ := K0
  refine s_iald (pc := 40) dX8_most_40 k_b0_1 i_1 ?_
  refine r_icmp_ge (pc := 41) (tgt := 98) dX8_most_41 (by decide) (fun q => ?_) (fun q => ?_)
  · have K0 := K0.1 q
    refine r_iload (pc := 98) dX8_most_98 rfl ?_
    refine r_iload_n (pc := 100) dX8_most_100 rfl ?_
    refine r_icmp_ne (pc := 101) (tgt := 106) dX8_most_101 (by decide) (fun q => ?_) (fun q => ?_)
    · have K0 := K0.1 q
      refine r_iinc (pc := 106) (v := l3 + 1) dX8_most_106 rfl rfl (by decide) ?_
      refine r_goto (pc := 109) (L := [some (.ref b0), some (.int l1), some (.int l2), some (.int (l3 + 1)), some (.int l4), some (.int l5)]) (tgt := 17) dX8_most_109 (by decide) ?_
      exact r_le (L' := [some (.ref b0), some (.int l1), some (.int l2), some (.int (l3 + 1)), none, none]) ⟨rfl, ⟨rfl, ⟨rfl, ⟨rfl, trivial⟩⟩⟩⟩ K0
    · have K0 := K0.2 q
      refine r_iload_n (pc := 104) dX8_most_104 rfl ?_
      exact s_iret rfl dX8_most_105 K0
  · have K0 := K0.2 q
    refine r_iload (pc := 44) dX8_most_44 rfl ?_
    refine r_aload_n (pc := 46) dX8_most_46 rfl ?_
    refine r_iload (pc := 47) dX8_most_47 rfl ?_
    refine r_iload_n (pc := 49) dX8_most_49 rfl ?_
    refine s_VI (pc := 50) mX8_basisOn (ci := 8) (a := b0) (As := [.int l5, .int l1]) dX8_most_50 lk_X8_323 in_X8_basisOn mo_X8_basisOn ⟨by decide, rfl⟩ ⟨by decide, by decide⟩ (Nat.le_of_ble_eq_true rfl) k_b0 (mSI_mono K0 (fun r_5 y_4 K0 => ?_))
    refine r_aload_n (pc := 53) dX8_most_53 rfl ?_
    refine r_iload_n (pc := 54) dX8_most_54 rfl ?_
    refine r_iload_n (pc := 55) dX8_most_55 rfl ?_
    refine s_VI (pc := 56) mX8_basisOn (ci := 8) (a := b0) (As := [.int l3, .int l1]) dX8_most_56 lk_X8_323 in_X8_basisOn mo_X8_basisOn ⟨by decide, rfl⟩ ⟨by decide, by decide⟩ (Nat.le_of_ble_eq_true rfl) k_b0 (mSI_mono K0 (fun r_7 y_6 K0 => ?_))
    refine r_icmp_gt (pc := 59) (tgt := 84) dX8_most_59 (by decide) (fun q => ?_) (fun q => ?_)
    · have K0 := K0.1 q
      refine r_iconst (pc := 84) (v := 1) dX8_most_84 (by decide) ?_
      refine r_goto (pc := 85) (tgt := 89) dX8_most_85 (by decide) ?_
      refine r_iadd (pc := 89) dX8_most_89 ?_
      refine r_istore (pc := 90) dX8_most_90 (by decide) ?_
      refine r_iinc (pc := 92) (L := [some (.ref b0), some (.int l1), some (.int l2), some (.int l3), some (.int (l4 + 1)), some (.int l5)]) (v := l5 + 1) dX8_most_92 rfl rfl (by decide) ?_
      refine r_goto (pc := 95) (L := [some (.ref b0), some (.int l1), some (.int l2), some (.int l3), some (.int (l4 + 1)), some (.int (l5 + 1))]) (tgt := 33) dX8_most_95 (by decide) ?_
      exact r_le (L' := [some (.ref b0), some (.int l1), some (.int l2), some (.int l3), some (.int (l4 + 1)), some (.int (l5 + 1))]) ⟨rfl, ⟨rfl, ⟨rfl, ⟨rfl, ⟨rfl, ⟨rfl, trivial⟩⟩⟩⟩⟩⟩ K0
    · have K0 := K0.2 q
      refine r_aload_n (pc := 62) dX8_most_62 rfl ?_
      refine r_iload (pc := 63) dX8_most_63 rfl ?_
      refine r_iload_n (pc := 65) dX8_most_65 rfl ?_
      refine s_VI (pc := 66) mX8_basisOn (ci := 8) (a := b0) (As := [.int l5, .int l1]) dX8_most_66 lk_X8_323 in_X8_basisOn mo_X8_basisOn ⟨by decide, rfl⟩ ⟨by decide, by decide⟩ (Nat.le_of_ble_eq_true rfl) k_b0 (mSI_mono K0 (fun r_10 y_9 K0 => ?_))
      refine r_aload_n (pc := 69) dX8_most_69 rfl ?_
      refine r_iload_n (pc := 70) dX8_most_70 rfl ?_
      refine r_iload_n (pc := 71) dX8_most_71 rfl ?_
      refine s_VI (pc := 72) mX8_basisOn (ci := 8) (a := b0) (As := [.int l3, .int l1]) dX8_most_72 lk_X8_323 in_X8_basisOn mo_X8_basisOn ⟨by decide, rfl⟩ ⟨by decide, by decide⟩ (Nat.le_of_ble_eq_true rfl) k_b0 (mSI_mono K0 (fun r_12 y_11 K0 => ?_))
      refine r_icmp_ne (pc := 75) (tgt := 88) dX8_most_75 (by decide) (fun q => ?_) (fun q => ?_)
      · have K0 := K0.1 q
        refine r_iconst (pc := 88) (v := 0) dX8_most_88 (by decide) ?_
        refine r_iadd (pc := 89) dX8_most_89 ?_
        refine r_istore (pc := 90) dX8_most_90 (by decide) ?_
        refine r_iinc (pc := 92) (L := [some (.ref b0), some (.int l1), some (.int l2), some (.int l3), some (.int (l4 + 0)), some (.int l5)]) (v := l5 + 1) dX8_most_92 rfl rfl (by decide) ?_
        refine r_goto (pc := 95) (L := [some (.ref b0), some (.int l1), some (.int l2), some (.int l3), some (.int (l4 + 0)), some (.int (l5 + 1))]) (tgt := 33) dX8_most_95 (by decide) ?_
        exact r_le (L' := [some (.ref b0), some (.int l1), some (.int l2), some (.int l3), some (.int (l4 + 0)), some (.int (l5 + 1))]) ⟨rfl, ⟨rfl, ⟨rfl, ⟨rfl, ⟨rfl, ⟨rfl, trivial⟩⟩⟩⟩⟩⟩ K0
      · have K0 := K0.2 q
        refine r_iload (pc := 78) dX8_most_78 rfl ?_
        refine r_iload_n (pc := 80) dX8_most_80 rfl ?_
        refine r_icmp_ge (pc := 81) (tgt := 88) dX8_most_81 (by decide) (fun q => ?_) (fun q => ?_)
        · have K0 := K0.1 q
          refine r_iconst (pc := 88) (v := 0) dX8_most_88 (by decide) ?_
          refine r_iadd (pc := 89) dX8_most_89 ?_
          refine r_istore (pc := 90) dX8_most_90 (by decide) ?_
          refine r_iinc (pc := 92) (L := [some (.ref b0), some (.int l1), some (.int l2), some (.int l3), some (.int (l4 + 0)), some (.int l5)]) (v := l5 + 1) dX8_most_92 rfl rfl (by decide) ?_
          refine r_goto (pc := 95) (L := [some (.ref b0), some (.int l1), some (.int l2), some (.int l3), some (.int (l4 + 0)), some (.int (l5 + 1))]) (tgt := 33) dX8_most_95 (by decide) ?_
          exact r_le (L' := [some (.ref b0), some (.int l1), some (.int l2), some (.int l3), some (.int (l4 + 0)), some (.int (l5 + 1))]) ⟨rfl, ⟨rfl, ⟨rfl, ⟨rfl, ⟨rfl, ⟨rfl, trivial⟩⟩⟩⟩⟩⟩ K0
        · have K0 := K0.2 q
          refine r_iconst (pc := 84) (v := 1) dX8_most_84 (by decide) ?_
          refine r_goto (pc := 85) (tgt := 89) dX8_most_85 (by decide) ?_
          refine r_iadd (pc := 89) dX8_most_89 ?_
          refine r_istore (pc := 90) dX8_most_90 (by decide) ?_
          refine r_iinc (pc := 92) (L := [some (.ref b0), some (.int l1), some (.int l2), some (.int l3), some (.int (l4 + 1)), some (.int l5)]) (v := l5 + 1) dX8_most_92 rfl rfl (by decide) ?_
          refine r_goto (pc := 95) (L := [some (.ref b0), some (.int l1), some (.int l2), some (.int l3), some (.int (l4 + 1)), some (.int (l5 + 1))]) (tgt := 33) dX8_most_95 (by decide) ?_
          exact r_le (L' := [some (.ref b0), some (.int l1), some (.int l2), some (.int l3), some (.int (l4 + 1)), some (.int (l5 + 1))]) ⟨rfl, ⟨rfl, ⟨rfl, ⟨rfl, ⟨rfl, ⟨rfl, trivial⟩⟩⟩⟩⟩⟩ K0
theorem eq_of (a b : Int32) : Both mX7_of mX8_of [.int a, .int b] := by
  intro x R
  obtain ⟨W, C, S, A, N, E, ⟨hc, -⟩, -⟩ := R.sea
  have hn := E.nums
  have ht := Rel.t2 E
  have hS : S ≤ 24 := hn.2.2.2.2.2.2.1
  have hC : C ≤ 8 := hn.2.2.2.2.2.1
  have iC := inN' (v := a) (n := C) (by omega)
  have hb : ((-1) ≤ b ∧ b ≤ 6) ↔ (b = -1 ∨ (0 ≤ b ∧ b < 7)) := by
    constructor
    · intro z
      by_cases g : b = -1
      · exact Or.inl g
      · refine Or.inr (d7.mp ⟨?_, z.2⟩)
        rw [Int32.le_iff_toInt_le] at z ⊢
        have g2 : ¬ b.toInt = (-1 : Int32).toInt := fun e => g (Int32.toInt_inj.mp e)
        have e1 : (-1 : Int32).toInt = -1 := by decide
        have e0 : (0 : Int32).toInt = 0 := by decide
        rw [e1] at z g2
        rw [e0]
        omega
    · rintro (g | g)
      · rw [g]; decide
      · exact ⟨Int32.le_trans (by decide) g.1, (d7.mpr g).2⟩
  have rf : mSI mX8_of [.ref 717, .int a, .int b] KW x (fun r' z => (if (0 ≤ a ∧ a < nI C) ∧ (b = -1 ∨ (0 ≤ b ∧ b < 7)) then accT (orS (c_of (gi x 718) a b)) S 0 else -2) = r' ∧ Rel z) := by
    refine v_X8_of_0 km R.2.1.1 km1 ⟨v0 (k := 1) (by decide) rfl rfl, ?_⟩
    rw [ht.2.1, iC, hb]
    refine ⟨fun z => ⟨if_neg (fun w => z w.1), R⟩, fun z => ⟨fun z2 => ?_, fun z2 => ⟨if_neg (fun w => z2 w.2), R⟩⟩⟩
    rw [if_pos ⟨z, z2⟩]
    refine lp_acc (orS (c_of (gi x 718) a b)) (fun s c => GI mX8_of 30 [some (.ref 717), some (.int a), some (.int b), some (.int c), some (.int (nI s))] [] KW x _) S 0 ?_ (fun s c hs n1 => ?_)
    · exact v_X8_of_30 km R.2.1.1 km1 R.2.1.2.2.1 km1 ⟨v0 (k := 2) (by decide) rfl rfl, fun _ => ⟨rfl, R⟩, fun z => absurd (by rw [ht.2.2.1]; exact Int32.le_refl _) z⟩
    · refine v_X8_of_30 km R.2.1.1 km1 R.2.1.2.2.1 km1 ⟨v0 (k := 2) (by decide) rfl rfl, fun z => absurd (by rw [ht.2.2.1] at z; exact z) (nI_ge hs (by omega)), fun _ => ⟨l24_nI (by omega) rfl, ?_⟩⟩
      rw [nI_clamp (show s < 2 ^ 31 by omega), nI_1, Int32.or_zero]
      exact ⟨fun z => n1 _ (if_neg (fun g => z g.1)), fun z1 => ⟨fun z => n1 _ (if_pos ⟨z1, Or.inl z⟩), fun z3 => ⟨fun z => n1 _ (if_neg (fun g => g.2.elim z3 z)), fun z => n1 _ (if_pos ⟨z1, Or.inr z⟩)⟩⟩⟩
  have go : (0 ≤ a ∧ a < nI C) → (b = -1 ∨ (0 ≤ b ∧ b < 7)) → GI mX7_of 29 [some (.ref 0), some (.int a), some (.int b), some (.int 0), some (.int 0)] [] KW x (fun r y => mSI mX8_of [.ref 717, .int a, .int b] KW y (fun r' z => r = r' ∧ Rel z)) := by
    intro z z2
    rw [if_pos ⟨z, z2⟩] at rf
    refine lp_acc (orS (c_of (gi x 718) a b)) (fun s c => GI mX7_of 29 [some (.ref 0), some (.int a), some (.int b), some (.int c), some (.int (nI s))] [] KW x _) S 0 ?_ (fun s c hs n1 => ?_)
    · exact v_X7_of_29 k0 R.1.2.1 (ks0 E.1) E.2.1.2.2.1 (ks3 E.1) ⟨fun _ => rf, fun z => absurd (by rw [hn.2.2.1]; exact Int32.le_refl _) z⟩
    · obtain ⟨p, e1, e2, e3, e4, -, e6⟩ := E.ser hs
      refine v_X7_of_29 k0 R.1.2.1 (ks0 E.1) E.2.1.2.2.1 (ks3 E.1) ⟨fun z => absurd (by rw [hn.2.2.1] at z; exact z) (nI_ge hs (by omega)), fun _ => ⟨vp_in_nI (by omega) (by decide), p, by rw [nI_clamp (by omega)]; exact e1, e2, ?_⟩⟩
      rw [e3.1 0 (by decide) (by decide), e3.1 1 (by decide) (by decide), nI_1]
      exact ⟨fun z => n1 _ (if_neg z), fun z => n1 _ (if_pos z)⟩
  refine v_X7_of_0 k0 R.1.2.2.1 (by decide) R.1.2.1 (ks0 E.1) ?_
  rw [hc, hn.1]
  refine ⟨fun z => by rwa [if_neg (fun w => z w.1)] at rf, fun z => ⟨fun z2 => go z (Or.inl z2), fun z2 => ⟨fun z3 => go z (Or.inr z3.2), fun z3 => ?_⟩⟩⟩
  rw [if_neg] at rf
  · exact rf
  · rintro ⟨w1, w2 | w2⟩
    · exact z2 w2
    · obtain ⟨j, hj, -⟩ := inN (by omega) z
      exact z3 ⟨nI_lt (a := 0) (E.cw (by omega)) (by omega), w2⟩
theorem eq_sum (a b : Int32) : Both mX7_sum mX8_sum [.int a, .int b] := by
  intro x R
  obtain ⟨W, C, S, A, N, E, ⟨hc, -⟩, -⟩ := R.sea
  have hn := E.nums
  have ht := Rel.t2 E
  have hS : S ≤ 24 := hn.2.2.2.2.2.2.1
  have hC : C ≤ 8 := hn.2.2.2.2.2.1
  have iC := inN' (v := a) (n := C) (by omega)
  let g : Nat → Int32 → Int32 := addS (fun s => so (gi x 718) s 0 = a) (fun s => nI (cpt (so (gi x 718) s (7 + b.toNatClampNeg))))
  have rf : mSI mX8_sum [.ref 717, .int a, .int b] KW x (fun r' z => (if (0 ≤ a ∧ a < nI C) ∧ (0 ≤ b ∧ b ≤ 4) then accT g S 0 else -2) = r' ∧ Rel z) := by
    refine v_X8_sum_0 km R.2.1.1 km1 ⟨v0 (k := 1) (by decide) rfl rfl, ?_⟩
    rw [ht.2.1, iC]
    refine ⟨fun z => ⟨if_neg (fun w => z w.1), R⟩, fun z => ⟨fun z2 => ?_, fun z2 => ⟨if_neg (fun w => z2 w.2), R⟩⟩⟩
    rw [if_pos ⟨z, z2⟩]
    refine lp_acc g (fun s c => GI mX8_sum 28 [some (.ref 717), some (.int a), some (.int b), some (.int c), some (.int (nI s))] [] KW x _) S 0 ?_ (fun s c hs n1 => ?_)
    · exact v_X8_sum_28 km R.2.1.1 km1 R.2.1.2.2.1 km1 ⟨v0 (k := 2) (by decide) rfl rfl, fun _ => ⟨rfl, R⟩, fun z => absurd (by rw [ht.2.2.1]; exact Int32.le_refl _) z⟩
    · obtain ⟨k, hk, ek⟩ := nI_of2 (M := 4) (n := 4) (by decide) (Int32.not_lt.mpr z2.1) z2.2
      have e7 : (7 : Int32) + b = nI (7 + k) := by rw [ek, show (7 : Int32) = nI 7 by decide, nI_add]
      have eb : b.toNatClampNeg = k := by rw [ek]; exact nI_clamp (by omega)
      refine v_X8_sum_28 km R.2.1.1 km1 R.2.1.2.2.1 km1 ⟨v0 (k := 2) (by decide) rfl rfl, fun z => absurd (by rw [ht.2.2.1] at z; exact z) (nI_ge hs (by omega)), fun _ => ⟨l24_nI (by omega) rfl, ?_⟩⟩
      rw [nI_clamp (show s < 2 ^ 31 by omega), nI_1, Int32.add_zero, e7, nI_clamp (by omega)]
      refine ⟨fun z => n1 _ (if_neg z), fun z => ⟨⟨nI_pos' (by omega), nI_lt (b := 12) (by omega) (by decide)⟩, fun r er => n1 _ ?_⟩⟩
      rw [er, ← eb]
      exact if_pos z
  refine v_X7_sum_0 k0 R.1.2.2.1 (by decide) ?_
  rw [hc]
  refine ⟨fun z => by rwa [if_neg (fun w => z w.1)] at rf, fun z => ⟨fun z2 => ?_, fun z2 => by rwa [if_neg (fun w => z2 w.2)] at rf⟩⟩
  rw [if_pos ⟨z, z2⟩] at rf
  obtain ⟨k, hk, ek⟩ := nI_of2 (M := 4) (n := 4) (by decide) (Int32.not_lt.mpr z2.1) z2.2
  have eb : b.toNatClampNeg = k := by rw [ek]; exact nI_clamp (by omega)
  refine lp_acc g (fun s c => GI mX7_sum 23 [some (.ref 0), some (.int a), some (.int b), some (.int c), some (.int (nI s))] [] KW x _) S 0 ?_ (fun s c hs n1 => ?_)
  · exact v_X7_sum_23 k0 R.1.2.1 (ks0 E.1) E.2.1.2.2.1 (ks3 E.1) ⟨fun _ => rf, fun z => absurd (by rw [hn.2.2.1]; exact Int32.le_refl _) z⟩
  · obtain ⟨p, e1, e2, e3, e4, -, e6⟩ := E.ser hs
    refine v_X7_sum_23 k0 R.1.2.1 (ks0 E.1) E.2.1.2.2.1 (ks3 E.1) ⟨fun z => absurd (by rw [hn.2.2.1] at z; exact z) (nI_ge hs (by omega)), fun _ => ⟨vp_in_nI (by omega) (by decide), p, by rw [nI_clamp (by omega)]; exact e1, e2, ?_⟩⟩
    rw [e3.1 0 (by decide) (by decide), nI_1, ek]
    refine ⟨fun z => ?_, fun z => sp_X5_bitsThatAre e2 e3 e6 (by omega) ?_⟩
    · rw [← ek]
      exact n1 _ (if_neg z)
    · rw [← ek]
      refine n1 _ ?_
      rw [← eb]
      exact if_pos z
theorem eq_longest (a : Int32) : Both mX7_longest mX8_longest [.int a] := by
  intro x R
  obtain ⟨W, C, S, A, N, E, -, -⟩ := R.sea
  have hn := E.nums
  have ht := Rel.t2 E
  have hS : S ≤ 24 := hn.2.2.2.2.2.2.1
  have hW : W ≤ 30 := hn.2.2.2.2.1
  have iS := inN' (v := a) (n := S) (by omega)
  have rf : mSI mX8_longest [.ref 717, .int a] KW x (fun r' z => (if 0 ≤ a ∧ a < nI S then (accT (stL (gi x 718) a.toNatClampNeg) W (0, 0)).1 else -2) = r' ∧ Rel z) := by
    refine v_X8_longest_0 km R.2.1.1 km1 ⟨v0 (k := 2) (by decide) rfl rfl, ?_⟩
    rw [ht.2.2.1, iS]
    refine ⟨fun z => ?_, fun z => ⟨if_neg z, R⟩⟩
    rw [if_pos z]
    obtain ⟨s, hs, rfl⟩ := inN (by omega) z
    rw [nI_clamp (by omega)]
    refine lp_acc (stL (gi x 718) s) (fun w c => GI mX8_longest 18 [some (.ref 717), some (.int (nI s)), some (.int c.1), some (.int c.2), some (.int (nI w))] [] KW x _) W (0, 0) ?_ (fun w c hw n1 => ?_)
    · exact v_X8_longest_18 km R.2.1.1 km1 R.2.1.2.2.1 km1 ⟨v0 (k := 0) (by decide) rfl rfl, fun _ => ⟨rfl, R⟩, fun z => absurd (by rw [ht.1]; exact Int32.le_refl _) z⟩
    · refine v_X8_longest_18 km R.2.1.1 km1 R.2.1.2.2.1 km1 ⟨v0 (k := 0) (by decide) rfl rfl, fun z => absurd (by rw [ht.1] at z; exact z) (nI_ge hw (by omega)), fun _ => ⟨l24_nI (by omega) rfl, ?_⟩⟩
      rw [nI_clamp (show s < 2 ^ 31 by omega), nI_1, f_has_tb _ (by omega)]
      exact ⟨fun z => n1 (_, 0) (if_neg z), fun z => n1 (_, _) (if_pos z)⟩
  refine v_X7_longest_0 k0 R.1.2.1 (ks0 E.1) E.2.1.2.2.1 (ks3 E.1) ?_
  rw [hn.2.2.1]
  refine ⟨fun z => ?_, fun z => by rwa [if_neg z] at rf⟩
  rw [if_pos z] at rf
  obtain ⟨s, hs, rfl⟩ := inN (by omega) z
  obtain ⟨p, e1, e2, e3, e4, -, e6⟩ := E.ser hs
  rw [nI_clamp (show s < 2 ^ 31 by omega)] at rf ⊢
  refine ⟨vp_in_nI (by omega) (by decide), p, e1, e2, ?_⟩
  rw [e3.1 9 (by decide) (by decide)]
  refine lp_acc (stL (gi x 718) s) (fun w c => GI mX7_longest 32 [some (.ref 0), some (.int (nI s)), some (.int (so (gi x 718) s 9)), some (.int c.1), some (.int c.2), some (.int (nI w))] [] KW x _) W (0, 0) ?_ (fun w c hw n1 => ?_)
  · exact v_X7_longest_32 k0 R.1.2.1 (ks0 E.1) ⟨fun _ => rf, fun z => absurd (by rw [hn.1]; exact Int32.le_refl _) z⟩
  · refine v_X7_longest_32 k0 R.1.2.1 (ks0 E.1) ⟨fun z => absurd (by rw [hn.1] at z; exact z) (nI_ge hw (by omega)), fun _ => ?_⟩
    rw [nI_1, f_bit_tb _ (by omega)]
    exact ⟨fun z => n1 (_, 0) (if_neg z), fun z => n1 (_, _) (if_pos z)⟩
theorem eq_best (a : Int32) : Both mX7_best mX8_best [.int a] := by
  intro x R
  obtain ⟨W, C, S, A, N, E, ⟨hc, -⟩, -⟩ := R.sea
  have hn := E.nums
  have ht := Rel.t2 E
  have hS : S ≤ 24 := hn.2.2.2.2.2.2.1
  have hC : C ≤ 8 := hn.2.2.2.2.2.1
  have rf : mSI mX8_best [.ref 717, .int a] KW x (fun r' z => (if 0 < nI W ∧ 0 ≤ a then lpR (stB (gi x 718) S C a) (fun _ => -1) C 0 () else -2) = r' ∧ Rel z) := by
    refine v_X8_best_0 km R.2.1.1 km1 ⟨v0 (k := 0) (by decide) rfl rfl, ?_⟩
    rw [ht.1]
    refine ⟨fun z => ⟨if_neg (fun w => z w.1), R⟩, fun z => ⟨fun z2 => ?_, fun z2 => ⟨if_neg (fun w => z2 w.2), R⟩⟩⟩
    rw [if_pos ⟨z, z2⟩]
    refine lp_gen (stB (gi x 718) S C a) (fun _ => -1) (fun c _ => GI mX8_best 16 [some (.ref 717), some (.int a), some (.int (nI c)), none, none] [] KW x _) (fun r => lpR (stB (gi x 718) S C a) (fun _ => -1) C 0 () = r ∧ Rel x) C (fun _ k => ?_) (fun c _ hc2 n1 n2 => ?_) C 0 () (by omega) ⟨rfl, R⟩
    · exact v_X8_best_16 km R.2.1.1 km1 ⟨v0 (k := 1) (by decide) rfl rfl, fun _ => k, fun z => absurd (by rw [ht.2.1]; exact Int32.le_refl _) z⟩
    · refine v_X8_best_16 km R.2.1.1 km1 ⟨v0 (k := 1) (by decide) rfl rfl, fun z => absurd (by rw [ht.2.1] at z; exact z) (nI_ge hc2 (by omega)), fun _ => ?_⟩
      refine lp_acc (ahd (gi x 718) S c) (fun d b => GI mX8_best 31 [some (.ref 717), some (.int a), some (.int (nI c)), some (.int b), some (.int (nI d))] [] KW x _) C 0 ?_ (fun d b hd m1 => ?_)
      · refine v_X8_best_31 km R.2.1.1 km1 ⟨v0 (k := 1) (by decide) rfl rfl, fun _ => ?_, fun z => absurd (by rw [ht.2.1]; exact Int32.le_refl _) z⟩
        rw [nI_1]
        exact ⟨fun z => n1 () (if_neg z), fun z => n2 _ (if_pos z)⟩
      · refine v_X8_best_31 km R.2.1.1 km1 ⟨v0 (k := 1) (by decide) rfl rfl, fun z => absurd (by rw [ht.2.1] at z; exact z) (nI_ge hd (by omega)), fun _ => ?_⟩
        rw [nI_1, Int32.add_zero, nI_eq (by omega) (by omega)]
        refine ⟨fun z => m1 _ (if_pos z), fun z => sp_X8_isBetter R.2.1 ht.2.2.1 hS ⟨fun z3 => m1 _ ?_, fun z3 => m1 _ ?_⟩⟩
        · show (if d = c then b else b + bP _) = b
          rw [if_neg z, z3, Int32.add_zero]
        · show (if d = c then b else b + bP _) = b + 1
          rw [if_neg z]
          rcases bP_01 (btr (gi x 718) S (nI d) (nI c)) with u | u
          · exact absurd u z3
          · rw [u]
  refine v_X7_best_0 k0 R.1.2.1 (ks0 E.1) ?_
  rw [hn.1]
  refine ⟨fun z => by rwa [if_neg (fun w => z w.1)] at rf, fun z => ⟨fun z2 => ?_, fun z2 => by rwa [if_neg (fun w => z2 w.2)] at rf⟩⟩
  rw [if_pos ⟨z, z2⟩] at rf
  refine lp_gen (stB (gi x 718) S C a) (fun _ => -1) (fun c _ => GI mX7_best 16 [some (.ref 0), some (.int a), some (.int (nI c)), none, none] [] KW x _) (fun r => mSI mX8_best [.ref 717, .int a] KW x (fun r' z => r = r' ∧ Rel z)) C (fun _ k => ?_) (fun c _ hc2 n1 n2 => ?_) C 0 () (by omega) rf
  · exact v_X7_best_16 k0 R.1.2.2.1 (by decide) ⟨fun _ => k, fun z => absurd (by rw [hc]; exact Int32.le_refl _) z⟩
  · refine v_X7_best_16 k0 R.1.2.2.1 (by decide) ⟨fun z => absurd (by rw [hc] at z; exact z) (nI_ge hc2 (by omega)), fun _ => ?_⟩
    refine lp_acc (ahd (gi x 718) S c) (fun d b => GI mX7_best 32 [some (.ref 0), some (.int a), some (.int (nI c)), some (.int b), some (.int (nI d))] [] KW x _) C 0 ?_ (fun d b hd m1 => ?_)
    · refine v_X7_best_32 k0 R.1.2.2.1 (by decide) ⟨fun _ => ?_, fun z => absurd (by rw [hc]; exact Int32.le_refl _) z⟩
      rw [nI_1]
      exact ⟨fun z => n1 () (if_neg z), fun z => n2 _ (if_pos z)⟩
    · refine v_X7_best_32 k0 R.1.2.2.1 (by decide) ⟨fun z => absurd (by rw [hc] at z; exact z) (nI_ge hd (by omega)), fun _ => ?_⟩
      rw [nI_1, nI_eq (by omega) (by omega)]
      refine ⟨fun z => m1 _ (if_pos z), fun z => sp_X7_usesMore R.1 E ⟨fun z3 => m1 _ ?_, fun z3 => m1 _ ?_⟩⟩
      · show (if d = c then b else b + bP _) = b
        rw [if_neg z, z3, Int32.add_zero]
      · show (if d = c then b else b + bP _) = b + 1
        rw [if_neg z]
        rcases bP_01 (btr (gi x 718) S (nI d) (nI c)) with u | u
        · exact absurd u z3
        · rw [u]
theorem eq_most (a k9 : Int32) : Both mX7_most mX8_most [.int a, .int k9] := by
  intro x R
  obtain ⟨W, C, S, A, N, E, ⟨hc, -⟩, -⟩ := R.sea
  have hn := E.nums
  have ht := Rel.t2 E
  have hS : S ≤ 24 := hn.2.2.2.2.2.2.1
  have hC : C ≤ 8 := hn.2.2.2.2.2.1
  have hb : ∀ {b : Int32}, (0 ≤ b ∧ b < 7) → ¬ b = -1 := fun z e => absurd (e ▸ z.1) (by decide)
  have rf : mSI mX8_most [.ref 717, .int a, .int k9] KW x (fun r' z => (if (0 < nI W ∧ 0 ≤ a ∧ a < 7) ∧ 0 ≤ k9 then lpR (stM (gi x 718) S C a k9) (fun _ => -1) C 0 () else -2) = r' ∧ Rel z) := by
    refine v_X8_most_0 km R.2.1.1 km1 ⟨v0 (k := 0) (by decide) rfl rfl, ?_⟩
    rw [ht.1, d7]
    refine ⟨fun z => ⟨if_neg (fun w => z w.1), R⟩, fun z => ⟨fun z2 => ?_, fun z2 => ⟨if_neg (fun w => z2 w.2), R⟩⟩⟩
    rw [if_pos ⟨z, z2⟩]
    have hd1 := hb z.2
    refine lp_gen (stM (gi x 718) S C a k9) (fun _ => -1) (fun c _ => GI mX8_most 17 [some (.ref 717), some (.int a), some (.int k9), some (.int (nI c)), none, none] [] KW x _) (fun r => lpR (stM (gi x 718) S C a k9) (fun _ => -1) C 0 () = r ∧ Rel x) C (fun _ k => ?_) (fun c _ hc2 n1 n2 => ?_) C 0 () (by omega) ⟨rfl, R⟩
    · exact v_X8_most_17 km R.2.1.1 km1 ⟨v0 (k := 1) (by decide) rfl rfl, fun _ => k, fun z => absurd (by rw [ht.2.1]; exact Int32.le_refl _) z⟩
    · refine v_X8_most_17 km R.2.1.1 km1 ⟨v0 (k := 1) (by decide) rfl rfl, fun z => absurd (by rw [ht.2.1] at z; exact z) (nI_ge hc2 (by omega)), fun _ => ?_⟩
      refine lp_acc (inc (cMo (gi x 718) S a c)) (fun d b => GI mX8_most 33 [some (.ref 717), some (.int a), some (.int k9), some (.int (nI c)), some (.int b), some (.int (nI d))] [] KW x _) C 0 ?_ (fun d b hd m1 => ?_)
      · refine v_X8_most_33 km R.2.1.1 km1 ⟨v0 (k := 1) (by decide) rfl rfl, fun _ => ?_, fun z => absurd (by rw [ht.2.1]; exact Int32.le_refl _) z⟩
        rw [nI_1]
        exact ⟨fun z => n1 () (if_neg z), fun z => n2 _ (if_pos z)⟩
      · refine v_X8_most_33 km R.2.1.1 km1 ⟨v0 (k := 1) (by decide) rfl rfl, fun z => absurd (by rw [ht.2.1] at z; exact z) (nI_ge hd (by omega)), fun _ => ?_⟩
        refine sp_X8_basisOn R.2.1 ht.2.2.1 hS hd1 (sp_X8_basisOn R.2.1 ht.2.2.1 hS hd1 ?_)
        rw [nI_1, Int32.add_zero]
        refine ⟨fun z => m1 _ (if_pos (Or.inl z)), fun z => sp_X8_basisOn R.2.1 ht.2.2.1 hS hd1 (sp_X8_basisOn R.2.1 ht.2.2.1 hS hd1 ⟨fun z3 => m1 _ (if_neg (fun u => u.elim z (fun v => z3 v.1))), fun z3 => ⟨fun z4 => m1 _ (if_neg (fun u => u.elim z (fun v => ?_))), fun z4 => m1 _ (if_pos (Or.inr ⟨z3, ?_⟩))⟩⟩)⟩
        · exact absurd z4 (nI_ge v.2 (by omega))
        · exact (nI_ltI (by omega) (by omega)).mp (Int32.not_le.mp z4)
  refine v_X7_most_0 k0 R.1.2.1 (ks0 E.1) ?_
  rw [hn.1]
  refine ⟨fun z => by rwa [if_neg (fun w => z w.1)] at rf, fun z => ⟨fun z2 => ?_, fun z2 => by rwa [if_neg (fun w => z2 w.2)] at rf⟩⟩
  rw [if_pos ⟨z, z2⟩] at rf
  refine lp_gen (stM (gi x 718) S C a k9) (fun _ => -1) (fun c _ => GI mX7_most 17 [some (.ref 0), some (.int a), some (.int k9), some (.int (nI c)), none, none, none, none] [] KW x _) (fun r => mSI mX8_most [.ref 717, .int a, .int k9] KW x (fun r' z => r = r' ∧ Rel z)) C (fun _ k => ?_) (fun c _ hc2 n1 n2 => ?_) C 0 () (by omega) rf
  · exact v_X7_most_17 k0 R.1.2.2.1 (by decide) R.1.2.1 (ks0 E.1) ⟨fun _ => k, fun z => absurd (by rw [hc]; exact Int32.le_refl _) z⟩
  · refine v_X7_most_17 k0 R.1.2.2.1 (by decide) R.1.2.1 (ks0 E.1) ⟨fun z => absurd (by rw [hc] at z; exact z) (nI_ge hc2 (by omega)), fun _ => sp_X4_basisOf E ?_⟩
    refine lp_acc (inc (cMo (gi x 718) S a c)) (fun d b => GI mX7_most 45 [some (.ref 0), some (.int a), some (.int k9), some (.int (nI c)), some (.int (bOf (gi x 718) S (nI c) a)), some (.int b), some (.int (nI d)), none] [] KW x _) C 0 ?_ (fun d b hd m1 => ?_)
    · refine v_X7_most_45 k0 R.1.2.2.1 (by decide) R.1.2.1 (ks0 E.1) ⟨fun _ => ?_, fun z => absurd (by rw [hc]; exact Int32.le_refl _) z⟩
      rw [nI_1]
      exact ⟨fun z => n1 () (if_neg z), fun z => n2 _ (if_pos z)⟩
    · refine v_X7_most_45 k0 R.1.2.2.1 (by decide) R.1.2.1 (ks0 E.1) ⟨fun z => absurd (by rw [hc] at z; exact z) (nI_ge hd (by omega)), fun _ => sp_X4_basisOf E ?_⟩
      rw [nI_1]
      refine ⟨fun z => m1 _ (if_pos (Or.inl z)), fun z => ⟨fun z3 => m1 _ (if_neg (fun u => u.elim z (fun v => z3 v.1))), fun z3 => ⟨fun z4 => m1 _ (if_neg (fun u => u.elim z (fun v => ?_))), fun z4 => m1 _ (if_pos (Or.inr ⟨z3, ?_⟩))⟩⟩⟩
      · exact absurd z4 (nI_ge v.2 (by omega))
      · exact (nI_ltI (by omega) (by omega)).mp (Int32.not_le.mp z4)
end
/-! 38.reads6.lean.txt -/
section
theorem km725 : kk KW 725 = some (21, 3000) := by decide
theorem k176 : kk KW 176 = some (21, 2400) := by decide
theorem CRf.c10 {x : Cn} (h : CRf x) : gr x 0 10 = some 175 := h.2.2.2.2.2.2.1
theorem CRf.c175 {x : Cn} (h : CRf x) : gr x 175 0 = some 176 := h.2.2.2.2.2.2.2.2.2.2.2.2.2.2.2.2.1
theorem TPr.keep {x y : Cn} (h : TPr x) (h1 : gi y 0 1 = gi x 0 1) (h2 : gi y 717 5 = gi x 717 5) (h3 : ∀ i, gi y 1 i = gi x 1 i) (h4 : ∀ i, gi y 720 i = gi x 720 i) : TPr y := by
  obtain ⟨n, n1, n2, n3, n4⟩ := h
  exact ⟨n, n1, h1.trans n2, h2.trans n3, fun i hi => by rw [h3, h4]; exact n4 i hi⟩
theorem OUr.keep {x y : Cn} (h : OUr x) (h1 : gi y 175 1 = gi x 175 1) (h2 : gi y 717 22 = gi x 717 22) (h3 : ∀ i, gi y 176 i = gi x 176 i) (h4 : ∀ i, gi y 725 i = gi x 725 i) : OUr y := by
  obtain ⟨n, n1, n2, n3, n4⟩ := h
  exact ⟨n, n1, h1.trans n2, h2.trans n3, fun i hi => by rw [h3, h4]; exact n4 i hi⟩
theorem NMr.keep {x y : Cn} {nb C : Nat} {T T' : TT} (h : NMr x nb T C) (h1 : gi y nb 0 = gi x nb 0) (h2 : ∀ i, gi y (nb + 1) i = gi x (nb + 1) i) (h3 : ∀ c, c < C → T' (54 + c) = T (54 + c)) : NMr y nb T' C := by
  refine ⟨h1.trans h.1, fun c hc => ?_⟩
  obtain ⟨v, v1, v2, v3⟩ := h.2 c hc
  exact ⟨v, v1, (h3 c hc).trans v2, fun i hi => by rw [h2]; exact v3 i hi⟩
theorem HSr.keep {x y : Cn} {T T' : TT} {C : Nat} (c : CRf x) (h : HSr x T C) (h0 : y.2 = x.2) (h1 : gi y 717 19 = gi x 717 19) (h2 : gi y 0 5 = gi x 0 5) (h3 : ∀ a k, 177 ≤ a → a < 717 → gi y a k = gi x a k) (h4 : ∀ i, gi y 724 i = gi x 724 i) (h5 : ∀ c, c < C → T' (54 + c) = T (54 + c)) : HSr y T' C := by
  obtain ⟨n, n1, n2, n3, n4⟩ := h
  refine ⟨n, n1, h1.trans n2, h2.trans n3, fun j hj => ?_⟩
  obtain ⟨q, W, S, A, N, q1, q2, q3⟩ := n4 j hj
  obtain ⟨i, hi, ei⟩ := c.2.2.2.2.2.2.2.2.2.2.2.2.2.2.2.2.2.2.2.2.1 j (by omega)
  have hq : q = 177 + 54 * i := Option.some.inj (q1.symm.trans ei)
  have eT : (fun i => gi y 724 (518 * j + i)) = fun i => gi x 724 (518 * j + i) := by funext k; exact h4 _
  have hg : ∀ b k, gr y b k = gr x b k := fun b k => by unfold gr; rw [h0]
  refine ⟨q, W, S, A, N, by rw [hg]; exact q1, ?_, fun c hc => ?_⟩
  · rw [eT]
    exact q2.keep h0 (fun a k h1 h2 h9 => h3 a k (by omega) (by omega))
  · rw [h4, h5 c hc]
    exact q3 c hc
set_option maxHeartbeats 2000000 in
theorem v_X7_octet_0 {K : Sh} {x : Cn} {Q : Int32 → Cn → Prop} {b0 : Nat} {l1 : Int32} {b0_10 : Nat} {b0_10_0 : Nat} {n_b0_10_0 : Nat} (k_b0 : kk K b0 = some (7, 0)) (g_b0_10 : gr x b0 10 = some b0_10) (k_b0_10 : kk K b0_10 = some (6, 0)) (g_b0_10_0 : gr x b0_10 0 = some b0_10_0) (k_b0_10_0 : kk K b0_10_0 = some (21, n_b0_10_0)) (K0 : (l1 < 0 → (Q (-1) x)) ∧ (¬ l1 < 0 → ((l1 < (gi x b0_10 1) → (vp_in l1 n_b0_10_0 ∧ (Q (gi x b0_10_0 (l1 : Int32).toNatClampNeg) x))) ∧ (¬ l1 < (gi x b0_10 1) → (Q (-1) x))))) : mSI mX7_octet [.ref b0, .int l1] K x Q := by
  refine s_I (by decide) (by simp [Value.category]) (Nat.le_of_ble_eq_true rfl) ?_
  show mGM mX7_octet 0 [some (.ref b0), some (.int l1)] [] (hp K x) (PI K Q)
  refine r_iload_n (pc := 0) dX7_octet_0 rfl ?_
  refine r_if_lt (pc := 1) (tgt := 15) dX7_octet_1 (by decide) (fun q => ?_) (fun q => ?_)
  · have K0 := K0.1 q
    refine r_iconst (pc := 15) (v := (-1)) dX7_octet_15 (by decide) ?_
    exact s_iret rfl dX7_octet_16 K0
  · have K0 := K0.2 q
    refine r_iload_n (pc := 4) dX7_octet_4 rfl ?_
    refine r_aload_n (pc := 5) dX7_octet_5 rfl ?_
    refine s_getR (pc := 6) dX7_octet_6 fl_X7_61 rfl k_b0 g_b0_10 ?_
    refine s_getI (pc := 9) dX7_octet_9 fl_X7_383 rfl k_b0_10 ?_
    refine r_icmp_lt (pc := 12) (tgt := 17) dX7_octet_12 (by decide) (fun q => ?_) (fun q => ?_)
    · have K0 := K0.1 q
      refine r_aload_n (pc := 17) dX7_octet_17 rfl ?_
      refine s_getR (pc := 18) dX7_octet_18 fl_X7_61 rfl k_b0 g_b0_10 ?_
      refine s_getR (pc := 21) dX7_octet_21 fl_X7_384 rfl k_b0_10 g_b0_10_0 ?_
      refine r_iload_n (pc := 24) dX7_octet_24 rfl ?_
      obtain ⟨i_3, K0⟩ := K0
      refine s_bald (pc := 25) dX7_octet_25 k_b0_10_0 i_3 ?_
      exact s_iret rfl dX7_octet_26 K0
    · have K0 := K0.2 q
      refine r_iconst (pc := 15) (v := (-1)) dX7_octet_15 (by decide) ?_
      exact s_iret rfl dX7_octet_16 K0
set_option maxHeartbeats 2000000 in
theorem v_X8_octet_0 {K : Sh} {x : Cn} {Q : Int32 → Cn → Prop} {b0 : Nat} {l1 : Int32} {b0_21 : Nat} {n_b0_21 : Nat} (k_b0 : kk K b0 = some (8, 0)) (g_b0_21 : gr x b0 21 = some b0_21) (k_b0_21 : kk K b0_21 = some (21, n_b0_21)) (K0 : (¬ (0 ≤ l1 ∧ l1 ≤ ((gi x b0 22) - 1)) → (Q (-1) x)) ∧ ((0 ≤ l1 ∧ l1 ≤ ((gi x b0 22) - 1)) → (vp_in l1 n_b0_21 ∧ (Q (gi x b0_21 (l1 : Int32).toNatClampNeg) x)))) : mSI mX8_octet [.ref b0, .int l1] K x Q := by
  refine s_I (by decide) (by simp [Value.category]) (Nat.le_of_ble_eq_true rfl) ?_
  show mGM mX8_octet 0 [some (.ref b0), some (.int l1)] [] (hp K x) (PI K Q)
  refine r_iload_n (pc := 0) dX8_octet_0 rfl ?_
  refine r_i2l (pc := 1) dX8_octet_1 ?_
  refine r_lconst (pc := 2) (v := 0) dX8_octet_2 (by decide) ?_
  refine r_aload_n (pc := 3) dX8_octet_3 rfl ?_
  refine s_getI (pc := 4) dX8_octet_4 fl_X8_398 rfl k_b0 ?_
  refine r_iconst (pc := 7) (v := 1) dX8_octet_7 (by decide) ?_
  refine r_isub (pc := 8) dX8_octet_8 ?_
  refine r_i2l (pc := 9) dX8_octet_9 ?_
  refine s_SI (pc := 10) mX8_in (As := [.long ((l1 : Int32).toInt64), .long 0, .long ((((gi x b0 22) - 1) : Int32).toInt64)]) dX8_octet_10 lk_X8_45 st_X8_in mo_X8_in ⟨by decide, by decide⟩ (Nat.le_of_ble_eq_true rfl) (sq_X8_in (v := l1) (lo := 0) (hi := ((gi x b0 22) - 1)) rfl (by decide) rfl ?_)
  refine r_if_eq (pc := 13) (tgt := 25) dX8_octet_13 (by decide) (fun q => ?_) (fun q => ?_)
  · have q := (b2i_z _).mp q
    have K0 := K0.1 q
    refine r_iconst (pc := 25) (v := (-1)) dX8_octet_25 (by decide) ?_
    exact s_iret rfl dX8_octet_26 K0
  · have q := b2i_nz q
    have K0 := K0.2 q
    refine r_aload_n (pc := 16) dX8_octet_16 rfl ?_
    refine s_getR (pc := 17) dX8_octet_17 fl_X8_39 rfl k_b0 g_b0_21 ?_
    refine r_iload_n (pc := 20) dX8_octet_20 rfl ?_
    obtain ⟨i_2, K0⟩ := K0
    refine s_bald (pc := 21) dX8_octet_21 k_b0_21 i_2 ?_
    refine r_goto (pc := 22) (tgt := 26) dX8_octet_22 (by decide) ?_
    exact s_iret rfl dX8_octet_26 K0
set_option maxHeartbeats 2000000 in
theorem v_X7_end_0 {K : Sh} {x : Cn} {Q : Int32 → Cn → Prop} {b0 : Nat} {l1 : Int32}  (k_b0 : kk K b0 = some (7, 0)) (K0 : (l1 < 0 → (Q (-1) x)) ∧ (¬ l1 < 0 → ((l1 ≤ (gi x b0 1) → (Q l1 (ui x b0 1 l1))) ∧ (¬ l1 ≤ (gi x b0 1) → (Q (-1) x))))) : mSI mX7_end [.ref b0, .int l1] K x Q := by
  refine s_I (by decide) (by simp [Value.category]) (Nat.le_of_ble_eq_true rfl) ?_
  show mGM mX7_end 0 [some (.ref b0), some (.int l1)] [] (hp K x) (PI K Q)
  refine r_iload_n (pc := 0) dX7_end_0 rfl ?_
  refine r_if_lt (pc := 1) (tgt := 12) dX7_end_1 (by decide) (fun q => ?_) (fun q => ?_)
  · have K0 := K0.1 q
    refine r_iconst (pc := 12) (v := (-1)) dX7_end_12 (by decide) ?_
    exact s_iret rfl dX7_end_13 K0
  · have K0 := K0.2 q
    refine r_iload_n (pc := 4) dX7_end_4 rfl ?_
    refine r_aload_n (pc := 5) dX7_end_5 rfl ?_
    refine s_getI (pc := 6) dX7_end_6 fl_X7_13 rfl k_b0 ?_
    refine r_icmp_le (pc := 9) (tgt := 14) dX7_end_9 (by decide) (fun q => ?_) (fun q => ?_)
    · have K0 := K0.1 q
      refine r_aload_n (pc := 14) dX7_end_14 rfl ?_
      refine r_iload_n (pc := 15) dX7_end_15 rfl ?_
      refine s_putI (pc := 16) dX7_end_16 fl_X7_13 rfl rfl k_b0 ?_
      refine r_iload_n (pc := 19) dX7_end_19 rfl ?_
      exact s_iret rfl dX7_end_20 K0
    · have K0 := K0.2 q
      refine r_iconst (pc := 12) (v := (-1)) dX7_end_12 (by decide) ?_
      exact s_iret rfl dX7_end_13 K0
set_option maxHeartbeats 2000000 in
theorem v_X8_end_0 {K : Sh} {x : Cn} {Q : Int32 → Cn → Prop} {b0 : Nat} {l1 : Int32}  (k_b0 : kk K b0 = some (8, 0)) (K0 : ((0 ≤ l1 ∧ l1 ≤ (gi x b0 5)) → (Q l1 (ui x b0 5 l1))) ∧ (¬ (0 ≤ l1 ∧ l1 ≤ (gi x b0 5)) → (Q (-1) x))) : mSI mX8_end [.ref b0, .int l1] K x Q := by
  refine s_I (by decide) (by simp [Value.category]) (Nat.le_of_ble_eq_true rfl) ?_
  show mGM mX8_end 0 [some (.ref b0), some (.int l1)] [] (hp K x) (PI K Q)
  refine r_iload_n (pc := 0) dX8_end_0 rfl ?_
  refine r_i2l (pc := 1) dX8_end_1 ?_
  refine r_lconst (pc := 2) (v := 0) dX8_end_2 (by decide) ?_
  refine r_aload_n (pc := 3) dX8_end_3 rfl ?_
  refine s_getI (pc := 4) dX8_end_4 fl_X8_94 rfl k_b0 ?_
  refine r_i2l (pc := 7) dX8_end_7 ?_
  refine s_SI (pc := 8) mX8_in (As := [.long ((l1 : Int32).toInt64), .long 0, .long (((gi x b0 5) : Int32).toInt64)]) dX8_end_8 lk_X8_45 st_X8_in mo_X8_in ⟨by decide, by decide⟩ (Nat.le_of_ble_eq_true rfl) (sq_X8_in (v := l1) (lo := 0) (hi := (gi x b0 5)) rfl (by decide) rfl ?_)
  refine r_if_ne (pc := 11) (tgt := 16) dX8_end_11 (by decide) (fun q => ?_) (fun q => ?_)
  · have q := b2i_nz q
    have K0 := K0.1 q
    refine r_aload_n (pc := 16) dX8_end_16 rfl ?_
    refine r_iload_n (pc := 17) dX8_end_17 rfl ?_
    refine s_putI (pc := 18) dX8_end_18 fl_X8_94 rfl rfl k_b0 ?_
    refine r_iload_n (pc := 21) dX8_end_21 rfl ?_
    exact s_iret rfl dX8_end_22 K0
  · have q := (b2i_z _).mp q
    have K0 := K0.2 q
    refine r_iconst (pc := 14) (v := (-1)) dX8_end_14 (by decide) ?_
    exact s_iret rfl dX8_end_15 K0
set_option maxHeartbeats 2000000 in
theorem v_X7_clash_0 {K : Sh} {x : Cn} {Q : Int32 → Cn → Prop} {b0 : Nat} {l1 : Int32} {l2 : Int32} {b0_2 : Nat} {b0_2_8 : Nat} {n_b0_2_8 : Nat} (k_b0 : kk K b0 = some (7, 0)) (g_b0_2 : gr x b0 2 = some b0_2) (k_b0_2 : kk K b0_2 = some (4, 0)) (g_b0_2_8 : gr x b0_2 8 = some b0_2_8) (k_b0_2_8 : kk K b0_2_8 = some (24, n_b0_2_8)) (K0 : (¬ (0 ≤ l1 ∧ l1 < gi x b0_2 4) → (Q (-2) x)) ∧ ((0 ≤ l1 ∧ l1 < gi x b0_2 4) → (((0 ≤ l2 ∧ l2 < gi x b0_2 4) → (vp_in l1 n_b0_2_8 ∧ (∃ c_4 : Nat, gr x b0_2_8 ((l1 : Int32).toNatClampNeg) = some c_4 ∧ (vp_in l2 n_b0_2_8 ∧ (∃ c_7 : Nat, gr x b0_2_8 ((l2 : Int32).toNatClampNeg) = some c_7 ∧ (kk K c_4 = some (0, 0) ∧ (kk K c_7 = some (0, 0) ∧ ((¬ (gi x c_4 1) = (gi x c_7 1) → (Q 0 x)) ∧ ((gi x c_4 1) = (gi x c_7 1) → (((gi x c_4 2) = (gi x c_7 2) → (Q (nI (cpt ((f_sb (gi x c_4 4) (gi x c_4 5)) &&& (f_sb (gi x c_7 4) (gi x c_7 5))))) x)) ∧ (¬ (gi x c_4 2) = (gi x c_7 2) → (Q 0 x)))))))))))) ∧ (¬ (0 ≤ l2 ∧ l2 < gi x b0_2 4) → (Q (-2) x))))) : mSI mX7_clash [.ref b0, .int l1, .int l2] K x Q := by
  refine s_I (by decide) (by simp [Value.category]) (Nat.le_of_ble_eq_true rfl) ?_
  show mGM mX7_clash 0 [some (.ref b0), some (.int l1), some (.int l2), none, none] [] (hp K x) (PI K Q)
  refine r_aload_n (pc := 0) dX7_clash_0 rfl ?_
  refine r_iload_n (pc := 1) dX7_clash_1 rfl ?_
  refine s_VI (pc := 2) mX7_isAsk (ci := 7) (a := b0) (As := [.int l1]) dX7_clash_2 lk_X7_173 in_X7_isAsk mo_X7_isAsk ⟨by decide, rfl⟩ ⟨by decide, by decide⟩ (Nat.le_of_ble_eq_true rfl) k_b0 (sp_X7_isAsk k_b0 g_b0_2 k_b0_2 ?_)
  refine r_if_eq (pc := 5) (tgt := 16) dX7_clash_5 (by decide) (fun q => ?_) (fun q => ?_)
  · have q := (b2i_z _).mp q
    have K0 := K0.1 q
    refine r_bipush (pc := 16) (v := (-2)) dX7_clash_16 (by decide) ?_
    exact s_iret rfl dX7_clash_18 K0
  · have q := b2i_nz q
    have K0 := K0.2 q
    refine r_aload_n (pc := 8) dX7_clash_8 rfl ?_
    refine r_iload_n (pc := 9) dX7_clash_9 rfl ?_
    refine s_VI (pc := 10) mX7_isAsk (ci := 7) (a := b0) (As := [.int l2]) dX7_clash_10 lk_X7_173 in_X7_isAsk mo_X7_isAsk ⟨by decide, rfl⟩ ⟨by decide, by decide⟩ (Nat.le_of_ble_eq_true rfl) k_b0 (sp_X7_isAsk k_b0 g_b0_2 k_b0_2 ?_)
    refine r_if_ne (pc := 13) (tgt := 19) dX7_clash_13 (by decide) (fun q => ?_) (fun q => ?_)
    · have q := b2i_nz q
      have K0 := K0.1 q
      refine r_aload_n (pc := 19) dX7_clash_19 rfl ?_
      refine s_getR (pc := 20) dX7_clash_20 fl_X7_20 rfl k_b0 g_b0_2 ?_
      refine s_getR (pc := 23) dX7_clash_23 fl_X7_176 rfl k_b0_2 g_b0_2_8 ?_
      refine r_iload_n (pc := 26) dX7_clash_26 rfl ?_
      obtain ⟨i_3, K0⟩ := K0
      obtain ⟨c_4, g_5, K0⟩ := K0
      refine s_aald (pc := 27) dX7_clash_27 (by decide) rfl k_b0_2_8 i_3 g_5 ?_
      refine r_astore_n (pc := 28) dX7_clash_28 (by decide) ?_
      refine r_aload_n (pc := 29) (L := [some (.ref b0), some (.int l1), some (.int l2), some (.ref c_4), none]) dX7_clash_29 rfl ?_
      refine s_getR (pc := 30) dX7_clash_30 fl_X7_20 rfl k_b0 g_b0_2 ?_
      refine s_getR (pc := 33) dX7_clash_33 fl_X7_176 rfl k_b0_2 g_b0_2_8 ?_
      refine r_iload_n (pc := 36) dX7_clash_36 rfl ?_
      obtain ⟨i_6, K0⟩ := K0
      obtain ⟨c_7, g_8, K0⟩ := K0
      refine s_aald (pc := 37) dX7_clash_37 (by decide) rfl k_b0_2_8 i_6 g_8 ?_
      refine r_astore (pc := 38) dX7_clash_38 (by decide) ?_
      refine r_aload_n (pc := 40) (L := [some (.ref b0), some (.int l1), some (.int l2), some (.ref c_4), some (.ref c_7)]) dX7_clash_40 rfl ?_
      obtain ⟨e_9, K0⟩ := K0
      refine s_getI (pc := 41) dX7_clash_41 fl_X7_183 rfl e_9 ?_
      refine r_aload (pc := 44) dX7_clash_44 rfl ?_
      obtain ⟨e_10, K0⟩ := K0
      refine s_getI (pc := 46) dX7_clash_46 fl_X7_183 rfl e_10 ?_
      refine r_icmp_ne (pc := 49) (tgt := 64) dX7_clash_49 (by decide) (fun q => ?_) (fun q => ?_)
      · have K0 := K0.1 q
        refine r_iconst (pc := 64) (v := 0) dX7_clash_64 (by decide) ?_
        exact s_iret rfl dX7_clash_65 K0
      · have K0 := K0.2 q
        refine r_aload_n (pc := 52) dX7_clash_52 rfl ?_
        refine s_getI (pc := 53) dX7_clash_53 fl_X7_184 rfl e_9 ?_
        refine r_aload (pc := 56) dX7_clash_56 rfl ?_
        refine s_getI (pc := 58) dX7_clash_58 fl_X7_184 rfl e_10 ?_
        refine r_icmp_eq (pc := 61) (tgt := 66) dX7_clash_61 (by decide) (fun q => ?_) (fun q => ?_)
        · have K0 := K0.1 q
          refine r_aload_n (pc := 66) dX7_clash_66 rfl ?_
          refine s_VI (pc := 67) mX0_wantedBits (ci := 0) (a := c_4) (As := []) dX7_clash_67 lk_X7_307 in_X0_wantedBits mo_X0_wantedBits ⟨by decide, rfl⟩ ⟨by decide, by decide⟩ (Nat.le_of_ble_eq_true rfl) e_9 (sp_X0_wantedBits e_9 ?_)
          refine r_aload (pc := 70) dX7_clash_70 rfl ?_
          refine s_VI (pc := 72) mX0_wantedBits (ci := 0) (a := c_7) (As := []) dX7_clash_72 lk_X7_307 in_X0_wantedBits mo_X0_wantedBits ⟨by decide, rfl⟩ ⟨by decide, by decide⟩ (Nat.le_of_ble_eq_true rfl) e_10 (sp_X0_wantedBits e_10 ?_)
          refine r_iand (pc := 75) dX7_clash_75 ?_
          refine s_SI (pc := 76) mJ6_bitCount_0f7a4 (As := [.int ((f_sb (gi x c_4 4) (gi x c_4 5)) &&& (f_sb (gi x c_7 4) (gi x c_7 5)))]) dX7_clash_76 lk_X7_255 st_J6_bitCount_0f7a4 mo_J6_bitCount_0f7a4 ⟨by decide, by decide⟩ (Nat.le_of_ble_eq_true rfl) (sp_bc  ?_)
          exact s_iret rfl dX7_clash_79 K0
        · have K0 := K0.2 q
          refine r_iconst (pc := 64) (v := 0) dX7_clash_64 (by decide) ?_
          exact s_iret rfl dX7_clash_65 K0
    · have q := (b2i_z _).mp q
      have K0 := K0.2 q
      refine r_bipush (pc := 16) (v := (-2)) dX7_clash_16 (by decide) ?_
      exact s_iret rfl dX7_clash_18 K0
set_option maxHeartbeats 2000000 in
theorem v_X8_clash_0 {K : Sh} {x : Cn} {Q : Int32 → Cn → Prop} {b0 : Nat} {l1 : Int32} {l2 : Int32} {b0_1 : Nat} {n_b0_1 : Nat} {b0_3 : Nat} {n_b0_3 : Nat} (k_b0 : kk K b0 = some (8, 0)) (g_b0_1 : gr x b0 1 = some b0_1) (k_b0_1 : kk K b0_1 = some (20, n_b0_1)) (g_b0_3 : gr x b0 3 = some b0_3) (k_b0_3 : kk K b0_3 = some (20, n_b0_3)) (K0 : vp_in 3 n_b0_1 ∧ ((¬ (0 ≤ l1 ∧ l1 ≤ gi x b0_1 3 - 1) → (Q (-2) x)) ∧ ((0 ≤ l1 ∧ l1 ≤ gi x b0_1 3 - 1) → (((0 ≤ l2 ∧ l2 ≤ gi x b0_1 3 - 1) → ((l24 l1 n_b0_3) ∧ ((l24 l2 n_b0_3) ∧ ((¬ (ao (gi x b0_3) (l1 : Int32).toNatClampNeg 1) = (ao (gi x b0_3) (l2 : Int32).toNatClampNeg 1) → (Q 0 x)) ∧ ((ao (gi x b0_3) (l1 : Int32).toNatClampNeg 1) = (ao (gi x b0_3) (l2 : Int32).toNatClampNeg 1) → ((¬ (ao (gi x b0_3) (l1 : Int32).toNatClampNeg 2) = (ao (gi x b0_3) (l2 : Int32).toNatClampNeg 2) → (Q 0 x)) ∧ ((ao (gi x b0_3) (l1 : Int32).toNatClampNeg 2) = (ao (gi x b0_3) (l2 : Int32).toNatClampNeg 2) → (Q (nI (cpt ((f_span (ao (gi x b0_3) (l1 : Int32).toNatClampNeg 4) (ao (gi x b0_3) (l1 : Int32).toNatClampNeg 5)) &&& (f_span (ao (gi x b0_3) (l2 : Int32).toNatClampNeg 4) (ao (gi x b0_3) (l2 : Int32).toNatClampNeg 5))))) x)))))))) ∧ (¬ (0 ≤ l2 ∧ l2 ≤ gi x b0_1 3 - 1) → (Q (-2) x)))))) : mSI mX8_clash [.ref b0, .int l1, .int l2] K x Q := by
  refine s_I (by decide) (by simp [Value.category]) (Nat.le_of_ble_eq_true rfl) ?_
  show mGM mX8_clash 0 [some (.ref b0), some (.int l1), some (.int l2), none] [] (hp K x) (PI K Q)
  refine r_aload_n (pc := 0) dX8_clash_0 rfl ?_
  refine r_iload_n (pc := 1) dX8_clash_1 rfl ?_
  obtain ⟨i_1, K0⟩ := K0
  refine s_VI (pc := 2) mX8_isAsk (ci := 8) (a := b0) (As := [.int l1]) dX8_clash_2 lk_X8_281 in_X8_isAsk mo_X8_isAsk ⟨by decide, rfl⟩ ⟨by decide, by decide⟩ (Nat.le_of_ble_eq_true rfl) k_b0 (sp_X8_isAsk k_b0 g_b0_1 k_b0_1 i_1 ?_)
  refine r_if_eq (pc := 5) (tgt := 16) dX8_clash_5 (by decide) (fun q => ?_) (fun q => ?_)
  · have q := (b2i_z _).mp q
    have K0 := K0.1 q
    refine r_bipush (pc := 16) (v := (-2)) dX8_clash_16 (by decide) ?_
    exact s_iret rfl dX8_clash_18 K0
  · have q := b2i_nz q
    have K0 := K0.2 q
    refine r_aload_n (pc := 8) dX8_clash_8 rfl ?_
    refine r_iload_n (pc := 9) dX8_clash_9 rfl ?_
    refine s_VI (pc := 10) mX8_isAsk (ci := 8) (a := b0) (As := [.int l2]) dX8_clash_10 lk_X8_281 in_X8_isAsk mo_X8_isAsk ⟨by decide, rfl⟩ ⟨by decide, by decide⟩ (Nat.le_of_ble_eq_true rfl) k_b0 (sp_X8_isAsk k_b0 g_b0_1 k_b0_1 i_1 ?_)
    refine r_if_ne (pc := 13) (tgt := 19) dX8_clash_13 (by decide) (fun q => ?_) (fun q => ?_)
    · have q := b2i_nz q
      have K0 := K0.1 q
      refine r_aload_n (pc := 19) dX8_clash_19 rfl ?_
      refine r_iload_n (pc := 20) dX8_clash_20 rfl ?_
      refine r_iconst (pc := 21) (v := 1) dX8_clash_21 (by decide) ?_
      obtain ⟨p_4, K0⟩ := K0
      refine s_VI (pc := 22) mX8_ask0 (ci := 8) (a := b0) (As := [.int l1, .int 1]) dX8_clash_22 lk_X8_284 in_X8_ask0 mo_X8_ask0 ⟨by decide, rfl⟩ ⟨by decide, by decide⟩ (Nat.le_of_ble_eq_true rfl) k_b0 (sr_X8_ask0 k_b0 g_b0_3 k_b0_3 p_4 ⟨by decide, by decide⟩ ?_)
      refine r_aload_n (pc := 25) dX8_clash_25 rfl ?_
      refine r_iload_n (pc := 26) dX8_clash_26 rfl ?_
      refine r_iconst (pc := 27) (v := 1) dX8_clash_27 (by decide) ?_
      obtain ⟨p_5, K0⟩ := K0
      refine s_VI (pc := 28) mX8_ask0 (ci := 8) (a := b0) (As := [.int l2, .int 1]) dX8_clash_28 lk_X8_284 in_X8_ask0 mo_X8_ask0 ⟨by decide, rfl⟩ ⟨by decide, by decide⟩ (Nat.le_of_ble_eq_true rfl) k_b0 (sr_X8_ask0 k_b0 g_b0_3 k_b0_3 p_5 ⟨by decide, by decide⟩ ?_)
      refine r_icmp_ne (pc := 31) (tgt := 53) dX8_clash_31 (by decide) (fun q => ?_) (fun q => ?_)
      · have K0 := K0.1 q
        refine r_iconst (pc := 53) (v := 0) dX8_clash_53 (by decide) ?_
        refine r_istore_n (pc := 54) dX8_clash_54 (by decide) ?_
        refine r_iload_n (pc := 55) (L := [some (.ref b0), some (.int l1), some (.int l2), some (.int 0)]) dX8_clash_55 rfl ?_
        refine r_if_eq (pc := 56) (tgt := 96) dX8_clash_56 (by decide) (fun _ => ?_) (fun q => by first | exact absurd q (by decide) | exact absurd (by decide) q)
        refine r_iconst (pc := 96) (v := 0) dX8_clash_96 (by decide) ?_
        exact s_iret rfl dX8_clash_97 K0
      · have K0 := K0.2 q
        refine r_aload_n (pc := 34) dX8_clash_34 rfl ?_
        refine r_iload_n (pc := 35) dX8_clash_35 rfl ?_
        refine r_iconst (pc := 36) (v := 2) dX8_clash_36 (by decide) ?_
        refine s_VI (pc := 37) mX8_ask0 (ci := 8) (a := b0) (As := [.int l1, .int 2]) dX8_clash_37 lk_X8_284 in_X8_ask0 mo_X8_ask0 ⟨by decide, rfl⟩ ⟨by decide, by decide⟩ (Nat.le_of_ble_eq_true rfl) k_b0 (sr_X8_ask0 k_b0 g_b0_3 k_b0_3 p_4 ⟨by decide, by decide⟩ ?_)
        refine r_aload_n (pc := 40) dX8_clash_40 rfl ?_
        refine r_iload_n (pc := 41) dX8_clash_41 rfl ?_
        refine r_iconst (pc := 42) (v := 2) dX8_clash_42 (by decide) ?_
        refine s_VI (pc := 43) mX8_ask0 (ci := 8) (a := b0) (As := [.int l2, .int 2]) dX8_clash_43 lk_X8_284 in_X8_ask0 mo_X8_ask0 ⟨by decide, rfl⟩ ⟨by decide, by decide⟩ (Nat.le_of_ble_eq_true rfl) k_b0 (sr_X8_ask0 k_b0 g_b0_3 k_b0_3 p_5 ⟨by decide, by decide⟩ ?_)
        refine r_icmp_ne (pc := 46) (tgt := 53) dX8_clash_46 (by decide) (fun q => ?_) (fun q => ?_)
        · have K0 := K0.1 q
          refine r_iconst (pc := 53) (v := 0) dX8_clash_53 (by decide) ?_
          refine r_istore_n (pc := 54) dX8_clash_54 (by decide) ?_
          refine r_iload_n (pc := 55) (L := [some (.ref b0), some (.int l1), some (.int l2), some (.int 0)]) dX8_clash_55 rfl ?_
          refine r_if_eq (pc := 56) (tgt := 96) dX8_clash_56 (by decide) (fun _ => ?_) (fun q => by first | exact absurd q (by decide) | exact absurd (by decide) q)
          refine r_iconst (pc := 96) (v := 0) dX8_clash_96 (by decide) ?_
          exact s_iret rfl dX8_clash_97 K0
        · have K0 := K0.2 q
          refine r_iconst (pc := 49) (v := 1) dX8_clash_49 (by decide) ?_
          refine r_goto (pc := 50) (tgt := 54) dX8_clash_50 (by decide) ?_
          refine r_istore_n (pc := 54) dX8_clash_54 (by decide) ?_
          refine r_iload_n (pc := 55) (L := [some (.ref b0), some (.int l1), some (.int l2), some (.int 1)]) dX8_clash_55 rfl ?_
          refine r_if_eq (pc := 56) (tgt := 96) dX8_clash_56 (by decide) (fun q => by first | exact absurd q (by decide) | exact absurd (by decide) q) (fun _ => ?_)
          refine r_aload_n (pc := 59) dX8_clash_59 rfl ?_
          refine r_iload_n (pc := 60) dX8_clash_60 rfl ?_
          refine r_iconst (pc := 61) (v := 4) dX8_clash_61 (by decide) ?_
          refine s_VI (pc := 62) mX8_ask0 (ci := 8) (a := b0) (As := [.int l1, .int 4]) dX8_clash_62 lk_X8_284 in_X8_ask0 mo_X8_ask0 ⟨by decide, rfl⟩ ⟨by decide, by decide⟩ (Nat.le_of_ble_eq_true rfl) k_b0 (sr_X8_ask0 k_b0 g_b0_3 k_b0_3 p_4 ⟨by decide, by decide⟩ ?_)
          refine r_aload_n (pc := 65) dX8_clash_65 rfl ?_
          refine r_iload_n (pc := 66) dX8_clash_66 rfl ?_
          refine r_iconst (pc := 67) (v := 5) dX8_clash_67 (by decide) ?_
          refine s_VI (pc := 68) mX8_ask0 (ci := 8) (a := b0) (As := [.int l1, .int 5]) dX8_clash_68 lk_X8_284 in_X8_ask0 mo_X8_ask0 ⟨by decide, rfl⟩ ⟨by decide, by decide⟩ (Nat.le_of_ble_eq_true rfl) k_b0 (sr_X8_ask0 k_b0 g_b0_3 k_b0_3 p_4 ⟨by decide, by decide⟩ ?_)
          refine s_SI (pc := 71) mX8_span (As := [.int (ao (gi x b0_3) (l1 : Int32).toNatClampNeg 4), .int (ao (gi x b0_3) (l1 : Int32).toNatClampNeg 5)]) dX8_clash_71 lk_X8_79 st_X8_span mo_X8_span ⟨by decide, by decide⟩ (Nat.le_of_ble_eq_true rfl) (sp_X8_span  ?_)
          refine r_aload_n (pc := 74) dX8_clash_74 rfl ?_
          refine r_iload_n (pc := 75) dX8_clash_75 rfl ?_
          refine r_iconst (pc := 76) (v := 4) dX8_clash_76 (by decide) ?_
          refine s_VI (pc := 77) mX8_ask0 (ci := 8) (a := b0) (As := [.int l2, .int 4]) dX8_clash_77 lk_X8_284 in_X8_ask0 mo_X8_ask0 ⟨by decide, rfl⟩ ⟨by decide, by decide⟩ (Nat.le_of_ble_eq_true rfl) k_b0 (sr_X8_ask0 k_b0 g_b0_3 k_b0_3 p_5 ⟨by decide, by decide⟩ ?_)
          refine r_aload_n (pc := 80) dX8_clash_80 rfl ?_
          refine r_iload_n (pc := 81) dX8_clash_81 rfl ?_
          refine r_iconst (pc := 82) (v := 5) dX8_clash_82 (by decide) ?_
          refine s_VI (pc := 83) mX8_ask0 (ci := 8) (a := b0) (As := [.int l2, .int 5]) dX8_clash_83 lk_X8_284 in_X8_ask0 mo_X8_ask0 ⟨by decide, rfl⟩ ⟨by decide, by decide⟩ (Nat.le_of_ble_eq_true rfl) k_b0 (sr_X8_ask0 k_b0 g_b0_3 k_b0_3 p_5 ⟨by decide, by decide⟩ ?_)
          refine s_SI (pc := 86) mX8_span (As := [.int (ao (gi x b0_3) (l2 : Int32).toNatClampNeg 4), .int (ao (gi x b0_3) (l2 : Int32).toNatClampNeg 5)]) dX8_clash_86 lk_X8_79 st_X8_span mo_X8_span ⟨by decide, by decide⟩ (Nat.le_of_ble_eq_true rfl) (sp_X8_span  ?_)
          refine r_iand (pc := 89) dX8_clash_89 ?_
          refine s_SI (pc := 90) mX8_bits (As := [.int ((f_span (ao (gi x b0_3) (l1 : Int32).toNatClampNeg 4) (ao (gi x b0_3) (l1 : Int32).toNatClampNeg 5)) &&& (f_span (ao (gi x b0_3) (l2 : Int32).toNatClampNeg 4) (ao (gi x b0_3) (l2 : Int32).toNatClampNeg 5)))]) dX8_clash_90 lk_X8_296 st_X8_bits mo_X8_bits ⟨by decide, by decide⟩ (Nat.le_of_ble_eq_true rfl) (sp_X8_bits  ?_)
          refine r_goto (pc := 93) (tgt := 97) dX8_clash_93 (by decide) ?_
          exact s_iret rfl dX8_clash_97 K0
    · have q := (b2i_z _).mp q
      have K0 := K0.2 q
      refine r_bipush (pc := 16) (v := (-2)) dX8_clash_16 (by decide) ?_
      exact s_iret rfl dX8_clash_18 K0
set_option maxHeartbeats 2000000 in
theorem v_X7_letter_0 {K : Sh} {x : Cn} {Q : Int32 → Cn → Prop} {b0 : Nat} {l1 : Int32} {l2 : Int32} {b0_3 : Nat} (k_b0 : kk K b0 = some (7, 0)) (g_b0_3 : gr x b0 3 = some b0_3) (k_b0_3 : kk K b0_3 = some (1, 0)) (K0 : (¬ (0 ≤ l1 ∧ l1 < gi x b0_3 0) → (Q (-2) x)) ∧ ((0 ≤ l1 ∧ l1 < gi x b0_3 0) → (((0 ≤ l2 ∧ l2 ≤ 5) → (mSI mX1_letterOf [.ref b0_3, .int l1, .int l2] K x (fun r_4 y_3 => Q r_4 y_3))) ∧ (¬ (0 ≤ l2 ∧ l2 ≤ 5) → (Q (-2) x))))) : mSI mX7_letter [.ref b0, .int l1, .int l2] K x Q := by
  refine s_I (by decide) (by simp [Value.category]) (Nat.le_of_ble_eq_true rfl) ?_
  show mGM mX7_letter 0 [some (.ref b0), some (.int l1), some (.int l2)] [] (hp K x) (PI K Q)
  refine r_aload_n (pc := 0) dX7_letter_0 rfl ?_
  refine r_iload_n (pc := 1) dX7_letter_1 rfl ?_
  refine s_VI (pc := 2) mX7_isCarrier (ci := 7) (a := b0) (As := [.int l1]) dX7_letter_2 lk_X7_109 in_X7_isCarrier mo_X7_isCarrier ⟨by decide, rfl⟩ ⟨by decide, by decide⟩ (Nat.le_of_ble_eq_true rfl) k_b0 (sp_X7_isCarrier k_b0 g_b0_3 k_b0_3 ?_)
  refine r_if_eq (pc := 5) (tgt := 17) dX7_letter_5 (by decide) (fun q => ?_) (fun q => ?_)
  · have q := (b2i_z _).mp q
    have K0 := K0.1 q
    refine r_bipush (pc := 17) (v := (-2)) dX7_letter_17 (by decide) ?_
    exact s_iret rfl dX7_letter_19 K0
  · have q := b2i_nz q
    have K0 := K0.2 q
    refine r_iload_n (pc := 8) dX7_letter_8 rfl ?_
    refine r_iconst (pc := 9) (v := 0) dX7_letter_9 (by decide) ?_
    refine r_iconst (pc := 10) (v := 5) dX7_letter_10 (by decide) ?_
    refine s_SI (pc := 11) mX7_isWithin (As := [.int l2, .int 0, .int 5]) dX7_letter_11 lk_X7_113 st_X7_isWithin mo_X7_isWithin ⟨by decide, by decide⟩ (Nat.le_of_ble_eq_true rfl) (sp_X7_isWithin  ?_)
    refine r_if_ne (pc := 14) (tgt := 20) dX7_letter_14 (by decide) (fun q => ?_) (fun q => ?_)
    · have q := b2i_nz q
      have K0 := K0.1 q
      refine r_aload_n (pc := 20) dX7_letter_20 rfl ?_
      refine s_getR (pc := 21) dX7_letter_21 fl_X7_27 rfl k_b0 g_b0_3 ?_
      refine r_iload_n (pc := 24) dX7_letter_24 rfl ?_
      refine r_iload_n (pc := 25) dX7_letter_25 rfl ?_
      refine s_VI (pc := 26) mX1_letterOf (ci := 1) (a := b0_3) (As := [.int l1, .int l2]) dX7_letter_26 lk_X7_117 in_X1_letterOf mo_X1_letterOf ⟨by decide, rfl⟩ ⟨by decide, by decide⟩ (Nat.le_of_ble_eq_true rfl) k_b0_3 (mSI_mono K0 (fun r_4 y_3 K0 => ?_))
      exact s_iret rfl dX7_letter_29 K0
    · have q := (b2i_z _).mp q
      have K0 := K0.2 q
      refine r_bipush (pc := 17) (v := (-2)) dX7_letter_17 (by decide) ?_
      exact s_iret rfl dX7_letter_19 K0
set_option maxHeartbeats 2000000 in
theorem v_X1_letterOf_0 {K : Sh} {x : Cn} {Q : Int32 → Cn → Prop} {b0 : Nat} {l1 : Int32} {l2 : Int32} {b0_1 : Nat} {n_b0_1 : Nat} (k_b0 : kk K b0 = some (1, 0)) (g_b0_1 : gr x b0 1 = some b0_1) (k_b0_1 : kk K b0_1 = some (20, n_b0_1)) (K0 : vp_in ((l1 * 6) + l2) n_b0_1 ∧ (Q (gi x b0_1 (((l1 * 6) + l2) : Int32).toNatClampNeg) x)) : mSI mX1_letterOf [.ref b0, .int l1, .int l2] K x Q := by
  refine s_I (by decide) (by simp [Value.category]) (Nat.le_of_ble_eq_true rfl) ?_
  show mGM mX1_letterOf 0 [some (.ref b0), some (.int l1), some (.int l2)] [] (hp K x) (PI K Q)
  refine r_aload_n (pc := 0) dX1_letterOf_0 rfl ?_
  refine s_getR (pc := 1) dX1_letterOf_1 fl_X1_15 rfl k_b0 g_b0_1 ?_
  refine r_iload_n (pc := 4) dX1_letterOf_4 rfl ?_
  refine r_bipush (pc := 5) (v := 6) dX1_letterOf_5 (by decide) ?_
  refine r_imul (pc := 7) dX1_letterOf_7 ?_
  refine r_iload_n (pc := 8) dX1_letterOf_8 rfl ?_
  refine r_iadd (pc := 9) dX1_letterOf_9 ?_
  obtain ⟨i_1, K0⟩ := K0
  refine s_iald (pc := 10) dX1_letterOf_10 k_b0_1 i_1 ?_
  exact s_iret rfl dX1_letterOf_11 K0
section
theorem sp_X1_letterOf {x : Cn} {Q : Int32 → Cn → Prop} {nb c i : Nat} (k1 : kk KW nb = some (1, 0)) (g1 : gr x nb 1 = some (nb + 1)) (k2 : kk KW (nb + 1) = some (20, 48)) (hc : c < 8) (hi : i < 6) (q : Q (gi x (nb + 1) (6 * c + i)) x) : mSI mX1_letterOf [.ref nb, .int (nI c), .int (nI i)] KW x Q := by
  refine v_X1_letterOf_0 k1 g1 k2 ?_
  rw [show (6 : Int32) = nI 6 by decide, pk_mul, nI_add, show c * 6 + i = 6 * c + i by omega, nI_clamp (by omega)]
  exact ⟨vp_in_nI (by omega) (by decide), q⟩
theorem sb_span {f l : Nat} (h : f ≤ l) (hl : l < 30) : f_sb (nI f) (nI l) = f_span (nI f) (nI l) := tb_ext (fun i hi => by rw [tb_sb0 f (by omega) l hl h i hi, tb_span0 f (by omega) l hl i hi])
theorem kwN {h g : Nat} (h1 : h ≤ 64) (h2 : g ≤ 96) : f_kw (nI h) (nI g) ↔ (0 < h ∧ 4 * h ≤ 5 * g) := by
  unfold f_kw
  rw [show (0 : Int32) = nI 0 by decide, show (4 : Int32) = nI 4 by decide, show (5 : Int32) = nI 5 by decide, pk_mul, pk_mul, nI_ltI (by omega) (by omega), nI_leI (by omega) (by omega)]
/-- the misses left -/
def mlf (h g o : Nat) : Int32 := if 0 < h ∧ 4 * h ≤ 5 * (g + o) then nI (min o (g + o - (4 * h + 4) / 5)) else -1
def sprT (T : TT) (s : Nat) : Int32 := mlf (cpt (bas T s)) (cpt (so T s 8 ||| so T s 10)) (cpt (so T s 7))
end
set_option maxHeartbeats 2000000 in
theorem v_X8_letter_0 {K : Sh} {x : Cn} {Q : Int32 → Cn → Prop} {b0 : Nat} {l1 : Int32} {l2 : Int32} {b0_1 : Nat} {n_b0_1 : Nat} (k_b0 : kk K b0 = some (8, 0)) (g_b0_1 : gr x b0 1 = some b0_1) (k_b0_1 : kk K b0_1 = some (20, n_b0_1)) (K0 : vp_in 1 n_b0_1 ∧ ((¬ (0 ≤ l1 ∧ l1 ≤ gi x b0_1 1 - 1) → (Q (-2) x)) ∧ ((0 ≤ l1 ∧ l1 ≤ gi x b0_1 1 - 1) → ((¬ (0 ≤ l2 ∧ l2 ≤ 5) → (Q (-2) x)) ∧ ((0 ≤ l2 ∧ l2 ≤ 5) → (vp_in (54 + l1) n_b0_1 ∧ (mSI mX8_letterOf [.int (gi x b0_1 ((54 + l1) : Int32).toNatClampNeg), .int l2] K x (fun r_6 y_5 => Q r_6 y_5)))))))) : mSI mX8_letter [.ref b0, .int l1, .int l2] K x Q := by
  refine s_I (by decide) (by simp [Value.category]) (Nat.le_of_ble_eq_true rfl) ?_
  show mGM mX8_letter 0 [some (.ref b0), some (.int l1), some (.int l2)] [] (hp K x) (PI K Q)
  refine r_aload_n (pc := 0) dX8_letter_0 rfl ?_
  refine r_iload_n (pc := 1) dX8_letter_1 rfl ?_
  obtain ⟨i_1, K0⟩ := K0
  refine s_VI (pc := 2) mX8_isCarrier (ci := 8) (a := b0) (As := [.int l1]) dX8_letter_2 lk_X8_265 in_X8_isCarrier mo_X8_isCarrier ⟨by decide, rfl⟩ ⟨by decide, by decide⟩ (Nat.le_of_ble_eq_true rfl) k_b0 (sp_X8_isCarrier k_b0 g_b0_1 k_b0_1 i_1 ?_)
  refine r_if_eq (pc := 5) (tgt := 36) dX8_letter_5 (by decide) (fun q => ?_) (fun q => ?_)
  · have q := (b2i_z _).mp q
    have K0 := K0.1 q
    refine r_bipush (pc := 36) (v := (-2)) dX8_letter_36 (by decide) ?_
    exact s_iret rfl dX8_letter_38 K0
  · have q := b2i_nz q
    have K0 := K0.2 q
    refine r_iload_n (pc := 8) dX8_letter_8 rfl ?_
    refine r_i2l (pc := 9) dX8_letter_9 ?_
    refine r_lconst (pc := 10) (v := 0) dX8_letter_10 (by decide) ?_
    refine r_ldc2 (pc := 11) (v := 5) dX8_letter_11 cn_X8_268 ?_
    refine s_SI (pc := 14) mX8_in (As := [.long ((l2 : Int32).toInt64), .long 0, .long 5]) dX8_letter_14 lk_X8_45 st_X8_in mo_X8_in ⟨by decide, by decide⟩ (Nat.le_of_ble_eq_true rfl) (sq_X8_in (v := l2) (lo := 0) (hi := 5) rfl (by decide) (by decide) ?_)
    refine r_if_eq (pc := 17) (tgt := 36) dX8_letter_17 (by decide) (fun q => ?_) (fun q => ?_)
    · have q := (b2i_z _).mp q
      have K0 := K0.1 q
      refine r_bipush (pc := 36) (v := (-2)) dX8_letter_36 (by decide) ?_
      exact s_iret rfl dX8_letter_38 K0
    · have q := b2i_nz q
      have K0 := K0.2 q
      refine r_aload_n (pc := 20) dX8_letter_20 rfl ?_
      refine s_getR (pc := 21) dX8_letter_21 fl_X8_9 rfl k_b0 g_b0_1 ?_
      refine r_bipush (pc := 24) (v := 54) dX8_letter_24 (by decide) ?_
      refine r_iload_n (pc := 26) dX8_letter_26 rfl ?_
      refine r_iadd (pc := 27) dX8_letter_27 ?_
      obtain ⟨i_4, K0⟩ := K0
      refine s_iald (pc := 28) dX8_letter_28 k_b0_1 i_4 ?_
      refine r_iload_n (pc := 29) dX8_letter_29 rfl ?_
      refine s_SI (pc := 30) mX8_letterOf (As := [.int (gi x b0_1 ((54 + l1) : Int32).toNatClampNeg), .int l2]) dX8_letter_30 lk_X8_270 st_X8_letterOf mo_X8_letterOf ⟨by decide, by decide⟩ (Nat.le_of_ble_eq_true rfl) (mSI_mono K0 (fun r_6 y_5 K0 => ?_))
      refine r_goto (pc := 33) (tgt := 38) dX8_letter_33 (by decide) ?_
      exact s_iret rfl dX8_letter_38 K0
set_option maxHeartbeats 2000000 in
theorem v_X8_letterOf_0 {K : Sh} {x : Cn} {Q : Int32 → Cn → Prop} {l0 : Int32} {l1 : Int32}   (K0 : GI mX8_letterOf 4 [some (.int l0), some (.int l1), some (.int l0), some (.int l1)] [] K x Q) : mSI mX8_letterOf [.int l0, .int l1] K x Q := by
  refine s_I (by decide) (by simp [Value.category]) (Nat.le_of_ble_eq_true rfl) ?_
  show mGM mX8_letterOf 0 [some (.int l0), some (.int l1), none, none] [] (hp K x) (PI K Q)
  refine r_iload_n (pc := 0) dX8_letterOf_0 rfl ?_
  refine r_istore_n (pc := 1) dX8_letterOf_1 (by decide) ?_
  refine r_iload_n (pc := 2) (L := [some (.int l0), some (.int l1), some (.int l0), none]) dX8_letterOf_2 rfl ?_
  refine r_istore_n (pc := 3) dX8_letterOf_3 (by decide) ?_
  exact r_le (L' := [some (.int l0), some (.int l1), some (.int l0), some (.int l1)]) ⟨rfl, ⟨rfl, ⟨rfl, ⟨rfl, trivial⟩⟩⟩⟩ K0
set_option maxHeartbeats 2000000 in
theorem v_X8_letterOf_4 {K : Sh} {x : Cn} {Q : Int32 → Cn → Prop} {l0 : Int32} {l1 : Int32} {l2 : Int32} {l3 : Int32}   (K0 : (5 ≤ l3 → (Q (l2 - l2 / 27 * 27) x)) ∧ (¬ 5 ≤ l3 → (GI mX8_letterOf 4 [some (.int l0), some (.int l1), some (.int (l2 / 27)), some (.int (l3 + 1))] [] K x Q))) : GI mX8_letterOf 4 [some (.int l0), some (.int l1), some (.int l2), some (.int l3)] [] K x Q := by
  show mGM mX8_letterOf 4 [some (.int l0), some (.int l1), some (.int l2), some (.int l3)] [] (hp K x) (PI K Q)
  refine r_iload_n (pc := 4) dX8_letterOf_4 rfl ?_
  refine r_iconst (pc := 5) (v := 5) dX8_letterOf_5 (by decide) ?_
  refine r_icmp_ge (pc := 6) (tgt := 20) dX8_letterOf_6 (by decide) (fun q => ?_) (fun q => ?_)
  · have K0 := K0.1 q
    refine r_iload_n (pc := 20) dX8_letterOf_20 rfl ?_
    refine r_bipush (pc := 21) (v := 27) dX8_letterOf_21 (by decide) ?_
    refine r_irem (pc := 23) dX8_letterOf_23 (by decide) ?_
    exact s_iret rfl dX8_letterOf_24 K0
  · have K0 := K0.2 q
    refine r_iload_n (pc := 9) dX8_letterOf_9 rfl ?_
    refine r_bipush (pc := 10) (v := 27) dX8_letterOf_10 (by decide) ?_
    refine r_idiv (pc := 12) dX8_letterOf_12 (by decide) ?_
    refine r_istore_n (pc := 13) dX8_letterOf_13 (by decide) ?_
    refine r_iinc (pc := 14) (L := [some (.int l0), some (.int l1), some (.int (l2 / 27)), some (.int l3)]) (v := l3 + 1) dX8_letterOf_14 rfl rfl (by decide) ?_
    refine r_goto (pc := 17) (L := [some (.int l0), some (.int l1), some (.int (l2 / 27)), some (.int (l3 + 1))]) (tgt := 4) dX8_letterOf_17 (by decide) ?_
    exact r_le (L' := [some (.int l0), some (.int l1), some (.int (l2 / 27)), some (.int (l3 + 1))]) ⟨rfl, ⟨rfl, ⟨rfl, ⟨rfl, trivial⟩⟩⟩⟩ K0
section
theorem lp_X8_letterOf {K : Sh} {x : Cn} {Q : Int32 → Cn → Prop} {l0 l1 : Int32} : ∀ (n k v : Nat), k + n = 5 → v < 2 ^ 31 → Q (nI (v / 27 ^ n % 27)) x → GI mX8_letterOf 4 [some (.int l0), some (.int l1), some (.int (nI v)), some (.int (nI k))] [] K x Q := by
  intro n
  induction n with
  | zero =>
    intro k v hk hv q
    have : k = 5 := by omega
    subst this
    refine v_X8_letterOf_4 ⟨fun _ => ?_, fun z => absurd (by decide) z⟩
    rw [show (27 : Int32) = nI 27 by decide, pk_rem hv (by decide) (by decide)]
    simpa using q
  | succ n ih =>
    intro k v hk hv q
    refine v_X8_letterOf_4 ⟨fun z => absurd z (nI_ge (a := k) (b := 5) (by omega) (by decide)), fun _ => ?_⟩
    rw [show (27 : Int32) = nI 27 by decide, pk_div hv (by decide) (by decide), nI_1]
    refine ih (k + 1) (v / 27) (by omega) (Nat.lt_of_le_of_lt (Nat.div_le_self _ _) hv) ?_
    rwa [Nat.div_div_eq_div_mul, show 27 * 27 ^ n = 27 ^ (n + 1) by rw [Nat.pow_succ, Nat.mul_comm]]
theorem sp_X8_letterOf {K : Sh} {x : Cn} {Q : Int32 → Cn → Prop} {v i : Nat} (hv : v < 2 ^ 31) (hi : i < 6) (q : Q (nI (v / 27 ^ (5 - i) % 27)) x) : mSI mX8_letterOf [.int (nI v), .int (nI i)] K x Q := v_X8_letterOf_0 (lp_X8_letterOf (5 - i) i v (by omega) hv q)
end
set_option maxHeartbeats 2000000 in
theorem v_X7_spare_0 {K : Sh} {x : Cn} {Q : Int32 → Cn → Prop} {b0 : Nat} {l1 : Int32} {b0_2 : Nat} {b0_2_7 : Nat} {n_b0_2_7 : Nat} (k_b0 : kk K b0 = some (7, 0)) (g_b0_2 : gr x b0 2 = some b0_2) (k_b0_2 : kk K b0_2 = some (4, 0)) (g_b0_2_7 : gr x b0_2 7 = some b0_2_7) (k_b0_2_7 : kk K b0_2_7 = some (23, n_b0_2_7)) (K0 : ((0 ≤ l1 ∧ l1 < gi x b0_2 3) → (vp_in l1 n_b0_2_7 ∧ (∃ c_3 : Nat, gr x b0_2_7 ((l1 : Int32).toNatClampNeg) = some c_3 ∧ (kk K c_3 = some (5, 0) ∧ (mSI mX5_missesLeft [.ref c_3] K x (fun r_7 y_6 => Q r_7 y_6)))))) ∧ (¬ (0 ≤ l1 ∧ l1 < gi x b0_2 3) → (Q (-2) x))) : mSI mX7_spare [.ref b0, .int l1] K x Q := by
  refine s_I (by decide) (by simp [Value.category]) (Nat.le_of_ble_eq_true rfl) ?_
  show mGM mX7_spare 0 [some (.ref b0), some (.int l1)] [] (hp K x) (PI K Q)
  refine r_aload_n (pc := 0) dX7_spare_0 rfl ?_
  refine r_iload_n (pc := 1) dX7_spare_1 rfl ?_
  refine s_VI (pc := 2) mX7_isSeries (ci := 7) (a := b0) (As := [.int l1]) dX7_spare_2 lk_X7_132 in_X7_isSeries mo_X7_isSeries ⟨by decide, rfl⟩ ⟨by decide, by decide⟩ (Nat.le_of_ble_eq_true rfl) k_b0 (sp_X7_isSeries k_b0 g_b0_2 k_b0_2 ?_)
  refine r_if_ne (pc := 5) (tgt := 11) dX7_spare_5 (by decide) (fun q => ?_) (fun q => ?_)
  · have q := b2i_nz q
    have K0 := K0.1 q
    refine r_aload_n (pc := 11) dX7_spare_11 rfl ?_
    refine s_getR (pc := 12) dX7_spare_12 fl_X7_20 rfl k_b0 g_b0_2 ?_
    refine s_getR (pc := 15) dX7_spare_15 fl_X7_135 rfl k_b0_2 g_b0_2_7 ?_
    refine r_iload_n (pc := 18) dX7_spare_18 rfl ?_
    obtain ⟨i_2, K0⟩ := K0
    obtain ⟨c_3, g_4, K0⟩ := K0
    refine s_aald (pc := 19) dX7_spare_19 (by decide) rfl k_b0_2_7 i_2 g_4 ?_
    obtain ⟨e_5, K0⟩ := K0
    refine s_VI (pc := 20) mX5_missesLeft (ci := 5) (a := c_3) (As := []) dX7_spare_20 lk_X7_242 in_X5_missesLeft mo_X5_missesLeft ⟨by decide, rfl⟩ ⟨by decide, by decide⟩ (Nat.le_of_ble_eq_true rfl) e_5 (mSI_mono K0 (fun r_7 y_6 K0 => ?_))
    exact s_iret rfl dX7_spare_23 K0
  · have q := (b2i_z _).mp q
    have K0 := K0.2 q
    refine r_bipush (pc := 8) (v := (-2)) dX7_spare_8 (by decide) ?_
    exact s_iret rfl dX7_spare_10 K0
set_option maxHeartbeats 2000000 in
theorem v_X5_missesLeft_0 {K : Sh} {x : Cn} {Q : Int32 → Cn → Prop} {b0 : Nat}  (k_b0 : kk K b0 = some (5, 0)) (K0 : (¬ (f_lost x b0) → (Q (if (((nI (cpt (gi x b0 8 ||| gi x b0 10))) + (nI (cpt (f_open x b0)))) - (((4 * (nI (cpt (f_held x b0)))) + 4) / 5)) < (nI (cpt (f_open x b0))) then (((nI (cpt (gi x b0 8 ||| gi x b0 10))) + (nI (cpt (f_open x b0)))) - (((4 * (nI (cpt (f_held x b0)))) + 4) / 5)) else (nI (cpt (f_open x b0)))) x)) ∧ ((f_lost x b0) → (Q (-1) x))) : mSI mX5_missesLeft [.ref b0] K x Q := by
  refine s_I (by decide) (by simp [Value.category]) (Nat.le_of_ble_eq_true rfl) ?_
  show mGM mX5_missesLeft 0 [some (.ref b0), none, none] [] (hp K x) (PI K Q)
  refine r_aload_n (pc := 0) dX5_missesLeft_0 rfl ?_
  refine s_VI (pc := 1) mX5_isLost (ci := 5) (a := b0) (As := []) dX5_missesLeft_1 lk_X5_90 in_X5_isLost mo_X5_isLost ⟨by decide, rfl⟩ ⟨by decide, by decide⟩ (Nat.le_of_ble_eq_true rfl) k_b0 (sp_X5_isLost k_b0 ?_)
  refine r_if_eq (pc := 4) (tgt := 9) dX5_missesLeft_4 (by decide) (fun q => ?_) (fun q => ?_)
  · have q := (b2i_z _).mp q
    have K0 := K0.1 q
    refine r_aload_n (pc := 9) dX5_missesLeft_9 rfl ?_
    refine s_VI (pc := 10) mX5_openBits (ci := 5) (a := b0) (As := []) dX5_missesLeft_10 lk_X5_57 in_X5_openBits mo_X5_openBits ⟨by decide, rfl⟩ ⟨by decide, by decide⟩ (Nat.le_of_ble_eq_true rfl) k_b0 (sp_X5_openBits k_b0 ?_)
    refine s_SI (pc := 13) mJ6_bitCount_0f7a4 (As := [.int (f_open x b0)]) dX5_missesLeft_13 lk_X5_76 st_J6_bitCount_0f7a4 mo_J6_bitCount_0f7a4 ⟨by decide, by decide⟩ (Nat.le_of_ble_eq_true rfl) (sp_bc  ?_)
    refine r_istore_n (pc := 16) dX5_missesLeft_16 (by decide) ?_
    refine r_iconst (pc := 17) (L := [some (.ref b0), some (.int (nI (cpt (f_open x b0)))), none]) (v := 4) dX5_missesLeft_17 (by decide) ?_
    refine r_aload_n (pc := 18) dX5_missesLeft_18 rfl ?_
    refine s_VI (pc := 19) mX5_basis (ci := 5) (a := b0) (As := []) dX5_missesLeft_19 lk_X5_81 in_X5_basis mo_X5_basis ⟨by decide, rfl⟩ ⟨by decide, by decide⟩ (Nat.le_of_ble_eq_true rfl) k_b0 (sp_X5_basis k_b0 ?_)
    refine r_imul (pc := 22) dX5_missesLeft_22 ?_
    refine r_iconst (pc := 23) (v := 4) dX5_missesLeft_23 (by decide) ?_
    refine r_iadd (pc := 24) dX5_missesLeft_24 ?_
    refine r_iconst (pc := 25) (v := 5) dX5_missesLeft_25 (by decide) ?_
    refine r_idiv (pc := 26) dX5_missesLeft_26 (by decide) ?_
    refine r_istore_n (pc := 27) dX5_missesLeft_27 (by decide) ?_
    refine r_iload_n (pc := 28) (L := [some (.ref b0), some (.int (nI (cpt (f_open x b0)))), some (.int (((4 * (nI (cpt (f_held x b0)))) + 4) / 5))]) dX5_missesLeft_28 rfl ?_
    refine r_aload_n (pc := 29) dX5_missesLeft_29 rfl ?_
    refine s_VI (pc := 30) mX5_good (ci := 5) (a := b0) (As := []) dX5_missesLeft_30 lk_X5_84 in_X5_good mo_X5_good ⟨by decide, rfl⟩ ⟨by decide, by decide⟩ (Nat.le_of_ble_eq_true rfl) k_b0 (sp_X5_good k_b0 ?_)
    refine r_iload_n (pc := 33) dX5_missesLeft_33 rfl ?_
    refine r_iadd (pc := 34) dX5_missesLeft_34 ?_
    refine r_iload_n (pc := 35) dX5_missesLeft_35 rfl ?_
    refine r_isub (pc := 36) dX5_missesLeft_36 ?_
    refine r_mmin (pc := 37) dX5_missesLeft_37 lk_X5_94 mw_min ⟨by decide, by decide⟩ (Nat.le_of_ble_eq_true rfl) ?_
    exact s_iret rfl dX5_missesLeft_40 K0
  · have q := b2i_nz q
    have K0 := K0.2 q
    refine r_iconst (pc := 7) (v := (-1)) dX5_missesLeft_7 (by decide) ?_
    exact s_iret rfl dX5_missesLeft_8 K0
section
theorem sp_X5_missesLeft {x : Cn} {Q : Int32 → Cn → Prop} {p : Nat} {T : TT} {C W s : Nat} (h1 : kk KW p = some (5, 0)) (h2 : SER x p T s) (h3 : Wse T C W s) (q : Q (sprT T s) x) : mSI mX5_missesLeft [.ref p] KW x Q := by
  refine v_X5_missesLeft_0 h1 ?_
  unfold f_lost
  rw [h2.held h3, h2.opn h3, h2.1 8 (by decide) (by decide), h2.1 10 (by decide) (by decide), nI_add]
  have b1 := cpt_le (bas T s)
  have b2 := cpt_le (so T s 8 ||| so T s 10)
  have b3 := cpt_le (so T s 7)
  unfold sprT mlf at q
  revert q
  generalize cpt (bas T s) = h at *
  generalize cpt (so T s 8 ||| so T s 10) = g at *
  generalize cpt (so T s 7) = o at *
  intro q
  rw [kwN (by omega) (by omega)]
  by_cases z : 0 < h ∧ 4 * h ≤ 5 * (g + o)
  · rw [if_pos z] at q
    refine ⟨fun _ => ?_, fun w => absurd z w⟩
    rw [show (4 : Int32) = nI 4 by decide, show (5 : Int32) = nI 5 by decide, pk_mul, nI_add, pk_div (by omega) (by decide) (by decide), pk_sub (by omega)]
    by_cases c : g + o - (4 * h + 4) / 5 < o
    · rw [if_pos (nI_lt c (by omega))]
      rwa [Nat.min_eq_right (by omega)] at q
    · rw [if_neg (nI_nlt (by omega) (by omega))]
      rwa [Nat.min_eq_left (by omega)] at q
  · rw [if_neg z] at q
    exact ⟨fun w => absurd z w, fun _ => q⟩
end
set_option maxHeartbeats 2000000 in
theorem v_X8_spare_0 {K : Sh} {x : Cn} {Q : Int32 → Cn → Prop} {b0 : Nat} {l1 : Int32} {b0_1 : Nat} {n_b0_1 : Nat} (k_b0 : kk K b0 = some (8, 0)) (g_b0_1 : gr x b0 1 = some b0_1) (k_b0_1 : kk K b0_1 = some (20, n_b0_1)) (K0 : vp_in 2 n_b0_1 ∧ ((¬ (0 ≤ l1 ∧ l1 ≤ gi x b0_1 2 - 1) → (Q (-2) x)) ∧ ((0 ≤ l1 ∧ l1 ≤ gi x b0_1 2 - 1) → (mSI mX8_spareOf [.ref b0, .int l1] K x (fun r_4 y_3 => Q r_4 y_3))))) : mSI mX8_spare [.ref b0, .int l1] K x Q := by
  refine s_I (by decide) (by simp [Value.category]) (Nat.le_of_ble_eq_true rfl) ?_
  show mGM mX8_spare 0 [some (.ref b0), some (.int l1)] [] (hp K x) (PI K Q)
  refine r_aload_n (pc := 0) dX8_spare_0 rfl ?_
  refine r_iload_n (pc := 1) dX8_spare_1 rfl ?_
  obtain ⟨i_1, K0⟩ := K0
  refine s_VI (pc := 2) mX8_isSeries (ci := 8) (a := b0) (As := [.int l1]) dX8_spare_2 lk_X8_273 in_X8_isSeries mo_X8_isSeries ⟨by decide, rfl⟩ ⟨by decide, by decide⟩ (Nat.le_of_ble_eq_true rfl) k_b0 (sp_X8_isSeries k_b0 g_b0_1 k_b0_1 i_1 ?_)
  refine r_if_eq (pc := 5) (tgt := 16) dX8_spare_5 (by decide) (fun q => ?_) (fun q => ?_)
  · have q := (b2i_z _).mp q
    have K0 := K0.1 q
    refine r_bipush (pc := 16) (v := (-2)) dX8_spare_16 (by decide) ?_
    exact s_iret rfl dX8_spare_18 K0
  · have q := b2i_nz q
    have K0 := K0.2 q
    refine r_aload_n (pc := 8) dX8_spare_8 rfl ?_
    refine r_iload_n (pc := 9) dX8_spare_9 rfl ?_
    refine s_VI (pc := 10) mX8_spareOf (ci := 8) (a := b0) (As := [.int l1]) dX8_spare_10 lk_X8_308 in_X8_spareOf mo_X8_spareOf ⟨by decide, rfl⟩ ⟨by decide, by decide⟩ (Nat.le_of_ble_eq_true rfl) k_b0 (mSI_mono K0 (fun r_4 y_3 K0 => ?_))
    refine r_goto (pc := 13) (tgt := 18) dX8_spare_13 (by decide) ?_
    exact s_iret rfl dX8_spare_18 K0
set_option maxHeartbeats 2000000 in
theorem v_X8_spareOf_0 {K : Sh} {x : Cn} {Q : Int32 → Cn → Prop} {b0 : Nat} {l1 : Int32} {b0_3 : Nat} {n_b0_3 : Nat} (k_b0 : kk K b0 = some (8, 0)) (g_b0_3 : gr x b0 3 = some b0_3) (k_b0_3 : kk K b0_3 = some (20, n_b0_3)) (K0 : (l24 l1 n_b0_3) ∧ (GI mX8_spareOf 11 [some (.ref b0), some (.int l1), some (.int (nI (cpt (so (gi x b0_3) (l1 : Int32).toNatClampNeg 7))))] [] K x Q)) : mSI mX8_spareOf [.ref b0, .int l1] K x Q := by
  refine s_I (by decide) (by simp [Value.category]) (Nat.le_of_ble_eq_true rfl) ?_
  show mGM mX8_spareOf 0 [some (.ref b0), some (.int l1), none] [] (hp K x) (PI K Q)
  refine r_aload_n (pc := 0) dX8_spareOf_0 rfl ?_
  refine r_iload_n (pc := 1) dX8_spareOf_1 rfl ?_
  refine r_bipush (pc := 2) (v := 7) dX8_spareOf_2 (by decide) ?_
  obtain ⟨p_1, K0⟩ := K0
  refine s_VI (pc := 4) mX8_one (ci := 8) (a := b0) (As := [.int l1, .int 7]) dX8_spareOf_4 lk_X8_67 in_X8_one mo_X8_one ⟨by decide, rfl⟩ ⟨by decide, by decide⟩ (Nat.le_of_ble_eq_true rfl) k_b0 (sr_X8_one k_b0 g_b0_3 k_b0_3 p_1 ⟨by decide, by decide⟩ ?_)
  refine s_SI (pc := 7) mX8_bits (As := [.int (so (gi x b0_3) (l1 : Int32).toNatClampNeg 7)]) dX8_spareOf_7 lk_X8_296 st_X8_bits mo_X8_bits ⟨by decide, by decide⟩ (Nat.le_of_ble_eq_true rfl) (sp_X8_bits  ?_)
  refine r_istore_n (pc := 10) dX8_spareOf_10 (by decide) ?_
  exact r_le (L' := [some (.ref b0), some (.int l1), some (.int (nI (cpt (so (gi x b0_3) (l1 : Int32).toNatClampNeg 7))))]) ⟨rfl, ⟨rfl, ⟨rfl, trivial⟩⟩⟩ K0
set_option maxHeartbeats 2000000 in
theorem v_X8_spareOf_11 {K : Sh} {x : Cn} {Q : Int32 → Cn → Prop} {b0 : Nat} {l1 : Int32} {l2 : Int32} {b0_3 : Nat} {n_b0_3 : Nat} (k_b0 : kk K b0 = some (8, 0)) (g_b0_3 : gr x b0 3 = some b0_3) (k_b0_3 : kk K b0_3 = some (20, n_b0_3)) (K0 : (l2 < 0 → (Q l2 x)) ∧ (¬ l2 < 0 → ((l24 l1 n_b0_3) ∧ (mSI mX8_isKept [.ref b0, .int l1, .int ((nI (cpt (so (gi x b0_3) (l1 : Int32).toNatClampNeg 7))) - l2)] K x (fun r_4 y_3 => (¬ r_4 = 0 → (Q l2 y_3)) ∧ (r_4 = 0 → (GI mX8_spareOf 11 [some (.ref b0), some (.int l1), some (.int (l2 + (-1)))] [] K y_3 Q))))))) : GI mX8_spareOf 11 [some (.ref b0), some (.int l1), some (.int l2)] [] K x Q := by
  show mGM mX8_spareOf 11 [some (.ref b0), some (.int l1), some (.int l2)] [] (hp K x) (PI K Q)
  refine r_iload_n (pc := 11) dX8_spareOf_11 rfl ?_
  refine r_if_lt (pc := 12) (tgt := 41) dX8_spareOf_12 (by decide) (fun q => ?_) (fun q => ?_)
  · have K0 := K0.1 q
    refine r_iload_n (pc := 41) dX8_spareOf_41 rfl ?_
    exact s_iret rfl dX8_spareOf_42 K0
  · have K0 := K0.2 q
    refine r_aload_n (pc := 15) dX8_spareOf_15 rfl ?_
    refine r_iload_n (pc := 16) dX8_spareOf_16 rfl ?_
    refine r_aload_n (pc := 17) dX8_spareOf_17 rfl ?_
    refine r_iload_n (pc := 18) dX8_spareOf_18 rfl ?_
    refine r_bipush (pc := 19) (v := 7) dX8_spareOf_19 (by decide) ?_
    obtain ⟨p_2, K0⟩ := K0
    refine s_VI (pc := 21) mX8_one (ci := 8) (a := b0) (As := [.int l1, .int 7]) dX8_spareOf_21 lk_X8_67 in_X8_one mo_X8_one ⟨by decide, rfl⟩ ⟨by decide, by decide⟩ (Nat.le_of_ble_eq_true rfl) k_b0 (sr_X8_one k_b0 g_b0_3 k_b0_3 p_2 ⟨by decide, by decide⟩ ?_)
    refine s_SI (pc := 24) mX8_bits (As := [.int (so (gi x b0_3) (l1 : Int32).toNatClampNeg 7)]) dX8_spareOf_24 lk_X8_296 st_X8_bits mo_X8_bits ⟨by decide, by decide⟩ (Nat.le_of_ble_eq_true rfl) (sp_X8_bits  ?_)
    refine r_iload_n (pc := 27) dX8_spareOf_27 rfl ?_
    refine r_isub (pc := 28) dX8_spareOf_28 ?_
    refine s_VI (pc := 29) mX8_isKept (ci := 8) (a := b0) (As := [.int l1, .int ((nI (cpt (so (gi x b0_3) (l1 : Int32).toNatClampNeg 7))) - l2)]) dX8_spareOf_29 lk_X8_302 in_X8_isKept mo_X8_isKept ⟨by decide, rfl⟩ ⟨by decide, by decide⟩ (Nat.le_of_ble_eq_true rfl) k_b0 (mSI_mono K0 (fun r_4 y_3 K0 => ?_))
    refine r_if_ne (pc := 32) (tgt := 41) dX8_spareOf_32 (by decide) (fun q => ?_) (fun q => ?_)
    · have K0 := K0.1 q
      refine r_iload_n (pc := 41) dX8_spareOf_41 rfl ?_
      exact s_iret rfl dX8_spareOf_42 K0
    · have K0 := K0.2 q
      refine r_iinc (pc := 35) (v := l2 + (-1)) dX8_spareOf_35 rfl rfl (by decide) ?_
      refine r_goto (pc := 38) (L := [some (.ref b0), some (.int l1), some (.int (l2 + (-1)))]) (tgt := 11) dX8_spareOf_38 (by decide) ?_
      exact r_le (L' := [some (.ref b0), some (.int l1), some (.int (l2 + (-1)))]) ⟨rfl, ⟨rfl, ⟨rfl, trivial⟩⟩⟩ K0
section
theorem lp_X8_spareOf {x : Cn} {Q : Int32 → Cn → Prop} {t s : Nat} (M : MRf x t) (ht : kk KW t = some (20, 518)) (hs : s < 24) (q : Q (sprT (gi x t) s) x) : ∀ m : Nat, m ≤ cpt (so (gi x t) s 7) → (∀ j, m < j → j ≤ cpt (so (gi x t) s 7) → ¬ (0 < cpt (bas (gi x t) s) ∧ 4 * cpt (bas (gi x t) s) ≤ 5 * (cpt (so (gi x t) s 8 ||| so (gi x t) s 10) + (cpt (so (gi x t) s 7) - j)))) → GI mX8_spareOf 11 [some (.ref 717), some (.int (nI s)), some (.int (nI m))] [] KW x Q := by
  have b1 := cpt_le (bas (gi x t) s)
  have b2 := cpt_le (so (gi x t) s 8 ||| so (gi x t) s 10)
  have b3 := cpt_le (so (gi x t) s 7)
  intro m
  induction m with
  | zero =>
    intro hm hj
    refine v_X8_spareOf_11 km M.2.2.1 ht ⟨fun z => absurd z (by decide), fun _ => ⟨l24_nI hs rfl, ?_⟩⟩
    rw [nI_clamp (by omega), pk_sub (by omega)]
    refine sp_X8_isKept M ht hs ?_
    unfold sprT mlf at q
    unfold kw
    rw [nI_add]
    by_cases z : f_kw (nI (cpt (bas (gi x t) s))) (nI (cpt (so (gi x t) s 8 ||| so (gi x t) s 10) + (cpt (so (gi x t) s 7) - 0)))
    · rw [b2i_t z]
      refine ⟨fun _ => ?_, fun w => absurd w (by decide)⟩
      rw [kwN (by omega) (by omega)] at z
      rw [if_pos ⟨z.1, by simpa using z.2⟩] at q
      have : cpt (so (gi x t) s 7) = 0 ∨ cpt (so (gi x t) s 8 ||| so (gi x t) s 10) + cpt (so (gi x t) s 7) - (4 * cpt (bas (gi x t) s) + 4) / 5 = 0 := by
        by_cases c : cpt (so (gi x t) s 7) = 0
        · exact Or.inl c
        · have := hj 1 (by omega) (by omega)
          refine Or.inr ?_
          have hz := z.1
          omega
      rcases this with c | c
      · rwa [c, Nat.zero_min] at q
      · rwa [c, Nat.min_zero] at q
    · rw [b2i_f z]
      refine ⟨fun w => absurd rfl w, fun _ => ?_⟩
      rw [kwN (by omega) (by omega)] at z
      rw [if_neg (fun w => z ⟨w.1, by simpa using w.2⟩)] at q
      exact v_X8_spareOf_11 km M.2.2.1 ht ⟨fun _ => q, fun w => absurd (by decide) w⟩
  | succ m ih =>
    intro hm hj
    refine v_X8_spareOf_11 km M.2.2.1 ht ⟨fun z => absurd z (nI_pos (by omega)), fun _ => ⟨l24_nI hs rfl, ?_⟩⟩
    rw [nI_clamp (by omega), pk_sub (by omega)]
    refine sp_X8_isKept M ht hs ?_
    unfold kw
    rw [nI_add]
    by_cases z : f_kw (nI (cpt (bas (gi x t) s))) (nI (cpt (so (gi x t) s 8 ||| so (gi x t) s 10) + (cpt (so (gi x t) s 7) - (m + 1))))
    · rw [b2i_t z]
      refine ⟨fun _ => ?_, fun w => absurd w (by decide)⟩
      rw [kwN (by omega) (by omega)] at z
      unfold sprT mlf at q
      rw [if_pos ⟨z.1, by have := z.2; omega⟩] at q
      have : min (cpt (so (gi x t) s 7)) (cpt (so (gi x t) s 8 ||| so (gi x t) s 10) + cpt (so (gi x t) s 7) - (4 * cpt (bas (gi x t) s) + 4) / 5) = m + 1 := by
        have hz := z.1
        have hz2 := z.2
        by_cases c : cpt (so (gi x t) s 7) = m + 1
        · rw [Nat.min_eq_left (by omega)]; exact c
        · have := hj (m + 2) (by omega) (by omega)
          rw [Nat.min_eq_right (by omega)]
          omega
      rwa [this] at q
    · rw [b2i_f z]
      refine ⟨fun w => absurd rfl w, fun _ => ?_⟩
      rw [kwN (by omega) (by omega)] at z
      rw [pk_m1]
      refine ih (by omega) (fun j h1 h2 => ?_)
      by_cases c : j = m + 1
      · rw [c]; exact z
      · exact hj j (by omega) h2
theorem sp_X8_spareOf {x : Cn} {Q : Int32 → Cn → Prop} {t s : Nat} (M : MRf x t) (ht : kk KW t = some (20, 518)) (hs : s < 24) (q : Q (sprT (gi x t) s) x) : mSI mX8_spareOf [.ref 717, .int (nI s)] KW x Q := by
  refine v_X8_spareOf_0 km M.2.2.1 ht ⟨l24_nI hs rfl, ?_⟩
  rw [nI_clamp (by omega)]
  exact lp_X8_spareOf M ht hs q _ (Nat.le_refl _) (fun j h1 h2 => absurd h1 (by omega))
end
theorem eq_octet (a : Int32) : Both mX7_octet mX8_octet [.int a] := by
  intro x R
  obtain ⟨n, hn, h1, h2, h3⟩ := R.2.2.2.2.1
  have iN := inN' (v := a) (n := n) (by omega)
  have rf : mSI mX8_octet [.ref 717, .int a] KW x (fun r' z => (if 0 ≤ a ∧ a < nI n then gi x 176 a.toNatClampNeg else -1) = r' ∧ Rel z) := by
    refine v_X8_octet_0 km R.2.1.2.2.2.2.2.2.2.2 km725 ?_
    rw [h2, iN]
    refine ⟨fun z => ⟨if_neg z, R⟩, fun z => ?_⟩
    rw [if_pos z]
    obtain ⟨j, hj, rfl⟩ := inN (by omega) z
    rw [nI_clamp (by omega), h3 j hj]
    exact ⟨vp_in_nI (by omega) (by decide), rfl, R⟩
  refine v_X7_octet_0 k0 R.1.c10 (by decide) R.1.c175 k176 ?_
  rw [h1]
  refine ⟨fun z => by rwa [if_neg (fun w => Int32.not_lt.mpr w.1 z)] at rf, fun z => ⟨fun z2 => ?_, fun z2 => by rwa [if_neg (fun w => z2 w.2)] at rf⟩⟩
  rw [if_pos ⟨Int32.not_lt.mp z, z2⟩] at rf
  obtain ⟨j, hj, rfl⟩ := inN (by omega) ⟨Int32.not_lt.mp z, z2⟩
  exact ⟨vp_in_nI (by omega) (by decide), rf⟩
theorem eq_end (a : Int32) : Both mX7_end mX8_end [.int a] := by
  intro x R
  obtain ⟨n, hn, h1, h2, h3⟩ := R.2.2.2.1
  refine v_X7_end_0 k0 ?_
  rw [h1]
  have no : ¬ (0 ≤ a ∧ a ≤ nI n) → mSI mX8_end [.ref 717, .int a] KW x (fun r' z => -1 = r' ∧ Rel z) := by
    intro z
    refine v_X8_end_0 km ?_
    rw [h2]
    exact ⟨fun w => absurd w z, fun _ => ⟨rfl, R⟩⟩
  refine ⟨fun z => no (fun w => Int32.not_lt.mpr w.1 z), fun z => ⟨fun z2 => ?_, fun z2 => no (fun w => z2 w.2)⟩⟩
  refine v_X8_end_0 km ⟨fun _ => ⟨rfl, ?_⟩, fun w => absurd ⟨Int32.not_lt.mp z, by rw [gi_ui, if_neg (by decide), h2]; exact z2⟩ w⟩
  obtain ⟨j, hj, rfl⟩ := nI_of z
  have hjn : j ≤ n := (nI_leI hj (by omega)).mp z2
  obtain ⟨r1, r2, r3, -, r5, W, C, S, A, N, r6, r7, r8⟩ := R
  have e : ∀ b k, ¬ (b = 0 ∧ k = 1) → ¬ (b = 717 ∧ k = 5) → gi (ui (ui x 0 1 (nI j)) 717 5 (nI j)) b k = gi x b k := fun b k g1 g2 => by rw [gi_ui, if_neg g2, gi_ui, if_neg g1]
  have eT : gi (ui (ui x 0 1 (nI j)) 717 5 (nI j)) 718 = gi x 718 := by funext k; exact e 718 k (by omega) (by omega)
  refine ⟨r1.keep rfl, r2.keep rfl, ?_, ⟨j, by omega, rfl, rfl, fun i hi => ?_⟩, ?_, W, C, S, A, N, ?_, ?_, ?_⟩
  · exact r3
  · rw [e 1 i (by omega) (by omega), e 720 i (by omega) (by omega)]
    exact h3 i (by omega)
  · exact r5.keep (e _ _ (by omega) (by omega)) (e _ _ (by omega) (by omega)) (fun i => e _ _ (by omega) (by omega)) (fun i => e _ _ (by omega) (by omega))
  · rw [eT]
    exact r6.keep rfl (fun a k g1 g2 g3 => e a k (by omega) (by omega))
  · rw [eT]
    exact r7.keep (e _ _ (by omega) (by omega)) (fun i => e _ _ (by omega) (by omega)) (fun _ _ => rfl)
  · rw [eT]
    exact r8.keep r1 rfl (e _ _ (by omega) (by omega)) (e _ _ (by omega) (by omega)) (fun a k g1 g2 => e a k (by omega) (by omega)) (fun i => e _ _ (by omega) (by omega)) (fun _ _ => rfl)
theorem eq_letter (a b : Int32) : Both mX7_letter mX8_letter [.int a, .int b] := by
  intro x R
  obtain ⟨W, C, S, A, N, E, ⟨hc, hv⟩, -⟩ := R.sea
  have ht := Rel.t2 E
  have hC : C ≤ 8 := E.nums.2.2.2.2.2.1
  have iC := inN' (v := a) (n := C) (by omega)
  have rf : mSI mX8_letter [.ref 717, .int a, .int b] KW x (fun r' z => (if (0 ≤ a ∧ a < nI C) ∧ (0 ≤ b ∧ b ≤ 5) then gi x 57 (6 * a.toNatClampNeg + b.toNatClampNeg) else -2) = r' ∧ Rel z) := by
    refine v_X8_letter_0 km R.2.1.1 km1 ⟨v0 (k := 1) (by decide) rfl rfl, ?_⟩
    rw [ht.2.1, iC]
    refine ⟨fun z => ⟨if_neg (fun w => z w.1), R⟩, fun z => ⟨fun z2 => ⟨if_neg (fun w => z2 w.2), R⟩, fun z2 => ?_⟩⟩
    rw [if_pos ⟨z, z2⟩]
    obtain ⟨c, hc2, rfl⟩ := inN (by omega) z
    obtain ⟨i, hi, rfl⟩ := nI_of2 (M := 5) (n := 5) (by decide) (Int32.not_lt.mpr z2.1) z2.2
    obtain ⟨v, v1, v2, v3⟩ := hv c hc2
    rw [show (54 : Int32) = nI 54 by decide, nI_add, nI_clamp (by omega), nI_clamp (by omega), nI_clamp (by omega), v2]
    exact ⟨vp_in_nI (by omega) (by decide), sp_X8_letterOf (by omega) (by omega) ⟨v3 i (by omega), R⟩⟩
  refine v_X7_letter_0 k0 R.1.2.2.1 (by decide) ?_
  rw [hc]
  refine ⟨fun z => by rwa [if_neg (fun w => z w.1)] at rf, fun z => ⟨fun z2 => ?_, fun z2 => by rwa [if_neg (fun w => z2 w.2)] at rf⟩⟩
  rw [if_pos ⟨z, z2⟩] at rf
  obtain ⟨c, hc2, rfl⟩ := inN (by omega) z
  obtain ⟨i, hi, rfl⟩ := nI_of2 (M := 5) (n := 5) (by decide) (Int32.not_lt.mpr z2.1) z2.2
  rw [nI_clamp (show c < 2 ^ 31 by omega), nI_clamp (show i < 2 ^ 31 by omega)] at rf
  exact sp_X1_letterOf (nb := 56) (by decide) R.1.2.2.2.2.2.2.2.1 (by decide) (by omega) (by omega) rf
theorem eq_clash (a b : Int32) : Both mX7_clash mX8_clash [.int a, .int b] := by
  intro x R
  obtain ⟨W, C, S, A, N, E, -, -⟩ := R.sea
  have hn := E.nums
  have ht := Rel.t2 E
  have hA : A ≤ 24 := hn.2.2.2.2.2.2.2.1
  have hW : W ≤ 30 := hn.2.2.2.2.1
  have ia := inN' (v := a) (n := A) (by omega)
  have ib := inN' (v := b) (n := A) (by omega)
  let T := gi x 718
  let F : Int32 := if (0 ≤ a ∧ a < nI A) ∧ (0 ≤ b ∧ b < nI A) then (if ao T a.toNatClampNeg 1 = ao T b.toNatClampNeg 1 ∧ ao T a.toNatClampNeg 2 = ao T b.toNatClampNeg 2 then nI (cpt (f_span (ao T a.toNatClampNeg 4) (ao T a.toNatClampNeg 5) &&& f_span (ao T b.toNatClampNeg 4) (ao T b.toNatClampNeg 5))) else 0) else -2
  have rf : mSI mX8_clash [.ref 717, .int a, .int b] KW x (fun r' z => F = r' ∧ Rel z) := by
    refine v_X8_clash_0 km R.2.1.1 km1 R.2.1.2.2.1 km1 ⟨v0 (k := 3) (by decide) rfl rfl, ?_⟩
    rw [ht.2.2.2.1, ia, ib]
    refine ⟨fun z => ⟨if_neg (fun w => z w.1), R⟩, fun z => ⟨fun z2 => ?_, fun z2 => ⟨if_neg (fun w => z2 w.2), R⟩⟩⟩
    obtain ⟨i, hi, ei⟩ := inN (by omega) z
    obtain ⟨j, hj, ej⟩ := inN (by omega) z2
    have eF : F = (if ao T a.toNatClampNeg 1 = ao T b.toNatClampNeg 1 ∧ ao T a.toNatClampNeg 2 = ao T b.toNatClampNeg 2 then nI (cpt (f_span (ao T a.toNatClampNeg 4) (ao T a.toNatClampNeg 5) &&& f_span (ao T b.toNatClampNeg 4) (ao T b.toNatClampNeg 5))) else 0) := if_pos ⟨z, z2⟩
    rw [eF]
    refine ⟨by rw [ei]; exact l24_nI (by omega) rfl, by rw [ej]; exact l24_nI (by omega) rfl, fun w => ⟨if_neg (fun u => w u.1), R⟩, fun w => ⟨fun w2 => ⟨if_neg (fun u => w2 u.2), R⟩, fun w2 => ⟨if_pos ⟨w, w2⟩, R⟩⟩⟩
  refine v_X7_clash_0 k0 R.1.2.1 (ks0 E.1) E.2.1.2.2.2.1 (ks4 E.1) ?_
  rw [hn.2.2.2.1]
  refine ⟨fun z => ?_, fun z => ⟨fun z2 => ?_, fun z2 => ?_⟩⟩
  · have eF : F = -2 := if_neg (fun w => z w.1)
    rwa [eF] at rf
  · have eF : F = (if ao T a.toNatClampNeg 1 = ao T b.toNatClampNeg 1 ∧ ao T a.toNatClampNeg 2 = ao T b.toNatClampNeg 2 then nI (cpt (f_span (ao T a.toNatClampNeg 4) (ao T a.toNatClampNeg 5) &&& f_span (ao T b.toNatClampNeg 4) (ao T b.toNatClampNeg 5))) else 0) := if_pos ⟨z, z2⟩
    rw [eF] at rf
    obtain ⟨i, hi, ei⟩ := inN (by omega) z
    obtain ⟨j, hj, ej⟩ := inN (by omega) z2
    subst ei ej
    rw [nI_clamp (show i < 2 ^ 31 by omega), nI_clamp (show j < 2 ^ 31 by omega)] at rf ⊢
    obtain ⟨p, e1, e2, e3, -, -, -, -, ⟨f, l, f1, f2, f3, f4⟩, -⟩ := E.ask hi
    obtain ⟨p', e1', e2', e3', -, -, -, -, ⟨f', l', f1', f2', f3', f4'⟩, -⟩ := E.ask hj
    refine ⟨vp_in_nI (by omega) (by decide), p, e1, vp_in_nI (by omega) (by decide), p', e1', e2, e2', ?_⟩
    have c1 := e3 1 (by decide)
    have c2 := e3 2 (by decide)
    have c1' := e3' 1 (by decide)
    have c2' := e3' 2 (by decide)
    rw [c1, c2, c1', c2', e3 4 (by decide), e3 5 (by decide), e3' 4 (by decide), e3' 5 (by decide), f3, f4, f3', f4', sb_span (by omega) (by omega), sb_span (by omega) (by omega), ← f3, ← f4, ← f3', ← f4']
    refine ⟨fun w => by rwa [if_neg (fun u => w u.1)] at rf, fun w => ⟨fun w2 => by rwa [if_pos ⟨w, w2⟩] at rf, fun w2 => by rwa [if_neg (fun u => w2 u.2)] at rf⟩⟩
  · have eF : F = -2 := if_neg (fun w => z2 w.2)
    rwa [eF] at rf
theorem eq_spare (a : Int32) : Both mX7_spare mX8_spare [.int a] := by
  intro x R
  obtain ⟨W, C, S, A, N, E, -, -⟩ := R.sea
  have hn := E.nums
  have ht := Rel.t2 E
  have hS : S ≤ 24 := hn.2.2.2.2.2.2.1
  have iS := inN' (v := a) (n := S) (by omega)
  have rf : mSI mX8_spare [.ref 717, .int a] KW x (fun r' z => (if 0 ≤ a ∧ a < nI S then sprT (gi x 718) a.toNatClampNeg else -2) = r' ∧ Rel z) := by
    refine v_X8_spare_0 km R.2.1.1 km1 ⟨v0 (k := 2) (by decide) rfl rfl, ?_⟩
    rw [ht.2.2.1, iS]
    refine ⟨fun z => ⟨if_neg z, R⟩, fun z => ?_⟩
    rw [if_pos z]
    obtain ⟨s, hs, rfl⟩ := inN (by omega) z
    rw [nI_clamp (by omega)]
    exact sp_X8_spareOf R.2.1 km1 (by omega) ⟨rfl, R⟩
  refine v_X7_spare_0 k0 R.1.2.1 (ks0 E.1) E.2.1.2.2.1 (ks3 E.1) ?_
  rw [hn.2.2.1]
  refine ⟨fun z => ?_, fun z => by rwa [if_neg z] at rf⟩
  rw [if_pos z] at rf
  obtain ⟨s, hs, rfl⟩ := inN (by omega) z
  obtain ⟨p, e1, e2, e3, e4, -, e6⟩ := E.ser hs
  rw [nI_clamp (show s < 2 ^ 31 by omega)] at rf ⊢
  exact ⟨vp_in_nI (by omega) (by decide), p, e1, e2, sp_X5_missesLeft e2 e3 e6 rf⟩
end
/-! 39.pairs.lean.txt -/
section
abbrev pcr (T : TT) (wi : Int32) (s t : Nat) : Prop := so T t 0 = so T s 0 ∧ so T t 1 = so T s 1 ∧ so T t 3 = 1 ∧ (0 ≤ so T t 2 - so T s 2 ∧ so T t 2 - so T s 2 ≤ wi) ∧ ¬ (bas T t &&& bas T s) = 0
abbrev ppo (T : TT) (a b : Int32) (s : Nat) : Prop := so T s 0 = a ∧ so T s 1 = b ∧ so T s 3 = 0
theorem inc_off {c : Nat → Prop} [∀ s, Decidable (c s)] (a : Int32) : ∀ n, accT (inc c) n a = a + accT (inc c) n 0 := by
  intro n
  induction n with
  | zero => exact (Int32.add_zero a).symm
  | succ n ih =>
    simp only [accT]
    rw [ih]
    unfold inc
    by_cases h : c n
    · rw [if_pos h, if_pos h, Int32.add_assoc]
    · rw [if_neg h, if_neg h]
theorem inc_no {c : Nat → Prop} [∀ s, Decidable (c s)] (a : Int32) (h : ∀ s, ¬ c s) : ∀ n, accT (inc c) n a = a := by
  intro n
  induction n with
  | zero => rfl
  | succ n ih =>
    simp only [accT]
    rw [ih]
    exact if_neg (h n)
theorem inc_cg {c d : Nat → Prop} [∀ s, Decidable (c s)] [∀ s, Decidable (d s)] (a : Int32) (h : ∀ s, c s ↔ d s) (n : Nat) : accT (inc c) n a = accT (inc d) n a := accT_congr n (fun i b _ => by
  unfold inc
  by_cases z : c i
  · rw [if_pos z, if_pos ((h i).mp z)]
  · rw [if_neg z, if_neg (fun w => z ((h i).mpr w))])
def stP (T : TT) (S : Nat) (a b wi : Int32) : Nat → Int32 → Int32 := addS (ppo T a b) (fun s => accT (inc (pcr T wi s)) S 0)
set_option maxHeartbeats 2000000 in
theorem v_X7_departuresBehind_0 {K : Sh} {x : Cn} {Q : Int32 → Cn → Prop} {b0 : Nat} {b1 : Nat} {l2 : Int32}   (K0 : GI mX7_departuresBehind 5 [some (.ref b0), some (.ref b1), some (.int l2), some (.int 0), some (.int 0), none] [] K x Q) : mSI mX7_departuresBehind [.ref b0, .ref b1, .int l2] K x Q := by
  refine s_I (by decide) (by simp [Value.category]) (Nat.le_of_ble_eq_true rfl) ?_
  show mGM mX7_departuresBehind 0 [some (.ref b0), some (.ref b1), some (.int l2), none, none, none] [] (hp K x) (PI K Q)
  refine r_iconst (pc := 0) (v := 0) dX7_departuresBehind_0 (by decide) ?_
  refine r_istore_n (pc := 1) dX7_departuresBehind_1 (by decide) ?_
  refine r_iconst (pc := 2) (L := [some (.ref b0), some (.ref b1), some (.int l2), some (.int 0), none, none]) (v := 0) dX7_departuresBehind_2 (by decide) ?_
  refine r_istore (pc := 3) dX7_departuresBehind_3 (by decide) ?_
  exact r_le (L' := [some (.ref b0), some (.ref b1), some (.int l2), some (.int 0), some (.int 0), none]) ⟨rfl, ⟨rfl, ⟨rfl, ⟨rfl, ⟨rfl, trivial⟩⟩⟩⟩⟩ K0
set_option maxHeartbeats 2000000 in
theorem v_X7_departuresBehind_5 {K : Sh} {x : Cn} {Q : Int32 → Cn → Prop} {b0 : Nat} {b1 : Nat} {l2 : Int32} {l3 : Int32} {l4 : Int32} {b0_2 : Nat} {b0_2_7 : Nat} {n_b0_2_7 : Nat} (k_b0 : kk K b0 = some (7, 0)) (g_b0_2 : gr x b0 2 = some b0_2) (k_b0_2 : kk K b0_2 = some (4, 0)) (g_b0_2_7 : gr x b0_2 7 = some b0_2_7) (k_b0_2_7 : kk K b0_2_7 = some (23, n_b0_2_7)) (k_b1 : kk K b1 = some (5, 0)) (K0 : ((gi x b0_2 3) ≤ l4 → (Q l3 x)) ∧ (¬ (gi x b0_2 3) ≤ l4 → (vp_in l4 n_b0_2_7 ∧ (∃ c_3 : Nat, gr x b0_2_7 ((l4 : Int32).toNatClampNeg) = some c_3 ∧ (kk K c_3 = some (5, 0) ∧ ((¬ (gi x c_3 0 = (gi x b1 0) ∧ ((gi x b1 1) = -1 ∨ gi x c_3 1 = (gi x b1 1))) → (GI mX7_departuresBehind 5 [some (.ref b0), some (.ref b1), some (.int l2), some (.int l3), some (.int (l4 + 1)), none] [] K x Q)) ∧ ((gi x c_3 0 = (gi x b1 0) ∧ ((gi x b1 1) = -1 ∨ gi x c_3 1 = (gi x b1 1))) → ((¬ (gi x c_3 3) = 1 → (GI mX7_departuresBehind 5 [some (.ref b0), some (.ref b1), some (.int l2), some (.int l3), some (.int (l4 + 1)), none] [] K x Q)) ∧ ((gi x c_3 3) = 1 → ((¬ (0 ≤ ((gi x c_3 2) - (gi x b1 2)) ∧ ((gi x c_3 2) - (gi x b1 2)) ≤ l2) → (GI mX7_departuresBehind 5 [some (.ref b0), some (.ref b1), some (.int l2), some (.int l3), some (.int (l4 + 1)), none] [] K x Q)) ∧ ((0 ≤ ((gi x c_3 2) - (gi x b1 2)) ∧ ((gi x c_3 2) - (gi x b1 2)) ≤ l2) → ((((f_held x c_3) &&& (f_held x b1)) = 0 → (GI mX7_departuresBehind 5 [some (.ref b0), some (.ref b1), some (.int l2), some (.int l3), some (.int (l4 + 1)), none] [] K x Q)) ∧ (¬ ((f_held x c_3) &&& (f_held x b1)) = 0 → (GI mX7_departuresBehind 5 [some (.ref b0), some (.ref b1), some (.int l2), some (.int (l3 + 1)), some (.int (l4 + 1)), none] [] K x Q)))))))))))))) : GI mX7_departuresBehind 5 [some (.ref b0), some (.ref b1), some (.int l2), some (.int l3), some (.int l4), none] [] K x Q := by
  show mGM mX7_departuresBehind 5 [some (.ref b0), some (.ref b1), some (.int l2), some (.int l3), some (.int l4), none] [] (hp K x) (PI K Q)
  refine r_iload (pc := 5) dX7_departuresBehind_5 rfl ?_
  refine r_aload_n (pc := 7) dX7_departuresBehind_7 rfl ?_
  refine s_getR (pc := 8) dX7_departuresBehind_8 fl_X7_20 rfl k_b0 g_b0_2 ?_
  refine s_getI (pc := 11) dX7_departuresBehind_11 fl_X7_97 rfl k_b0_2 ?_
  refine r_icmp_ge (pc := 14) (tgt := 94) dX7_departuresBehind_14 (by decide) (fun q => ?_) (fun q => ?_)
  · have K0 := K0.1 q
    refine r_iload_n (pc := 94) dX7_departuresBehind_94 rfl ?_
    exact s_iret rfl dX7_departuresBehind_95 K0
  · have K0 := K0.2 q
    refine r_aload_n (pc := 17) dX7_departuresBehind_17 rfl ?_
    refine s_getR (pc := 18) dX7_departuresBehind_18 fl_X7_20 rfl k_b0 g_b0_2 ?_
    refine s_getR (pc := 21) dX7_departuresBehind_21 fl_X7_135 rfl k_b0_2 g_b0_2_7 ?_
    refine r_iload (pc := 24) dX7_departuresBehind_24 rfl ?_
    obtain ⟨i_2, K0⟩ := K0
    obtain ⟨c_3, g_4, K0⟩ := K0
    refine s_aald (pc := 26) dX7_departuresBehind_26 (by decide) rfl k_b0_2_7 i_2 g_4 ?_
    refine r_astore (pc := 27) dX7_departuresBehind_27 (by decide) ?_
    refine r_aload (pc := 29) (L := [some (.ref b0), some (.ref b1), some (.int l2), some (.int l3), some (.int l4), some (.ref c_3)]) dX7_departuresBehind_29 rfl ?_
    refine r_aload_n (pc := 31) dX7_departuresBehind_31 rfl ?_
    refine s_getI (pc := 32) dX7_departuresBehind_32 fl_X7_139 rfl k_b1 ?_
    refine r_aload_n (pc := 35) dX7_departuresBehind_35 rfl ?_
    refine s_getI (pc := 36) dX7_departuresBehind_36 fl_X7_144 rfl k_b1 ?_
    obtain ⟨e_5, K0⟩ := K0
    refine s_VI (pc := 39) mX5_isOf (ci := 5) (a := c_3) (As := [.int (gi x b1 0), .int (gi x b1 1)]) dX7_departuresBehind_39 lk_X7_248 in_X5_isOf mo_X5_isOf ⟨by decide, rfl⟩ ⟨by decide, by decide⟩ (Nat.le_of_ble_eq_true rfl) e_5 (sp_X5_isOf e_5 ?_)
    refine r_if_eq (pc := 42) (tgt := 88) dX7_departuresBehind_42 (by decide) (fun q => ?_) (fun q => ?_)
    · have q := (b2i_z _).mp q
      have K0 := K0.1 q
      refine r_iinc (pc := 88) (v := l4 + 1) dX7_departuresBehind_88 rfl rfl (by decide) ?_
      refine r_goto (pc := 91) (L := [some (.ref b0), some (.ref b1), some (.int l2), some (.int l3), some (.int (l4 + 1)), some (.ref c_3)]) (tgt := 5) dX7_departuresBehind_91 (by decide) ?_
      exact r_le (L' := [some (.ref b0), some (.ref b1), some (.int l2), some (.int l3), some (.int (l4 + 1)), none]) ⟨rfl, ⟨rfl, ⟨rfl, ⟨rfl, ⟨rfl, trivial⟩⟩⟩⟩⟩ K0
    · have q := b2i_nz q
      have K0 := K0.2 q
      refine r_aload (pc := 45) dX7_departuresBehind_45 rfl ?_
      refine s_getI (pc := 47) dX7_departuresBehind_47 fl_X7_150 rfl e_5 ?_
      refine r_iconst (pc := 50) (v := 1) dX7_departuresBehind_50 (by decide) ?_
      refine r_icmp_ne (pc := 51) (tgt := 88) dX7_departuresBehind_51 (by decide) (fun q => ?_) (fun q => ?_)
      · have K0 := K0.1 q
        refine r_iinc (pc := 88) (v := l4 + 1) dX7_departuresBehind_88 rfl rfl (by decide) ?_
        refine r_goto (pc := 91) (L := [some (.ref b0), some (.ref b1), some (.int l2), some (.int l3), some (.int (l4 + 1)), some (.ref c_3)]) (tgt := 5) dX7_departuresBehind_91 (by decide) ?_
        exact r_le (L' := [some (.ref b0), some (.ref b1), some (.int l2), some (.int l3), some (.int (l4 + 1)), none]) ⟨rfl, ⟨rfl, ⟨rfl, ⟨rfl, ⟨rfl, trivial⟩⟩⟩⟩⟩ K0
      · have K0 := K0.2 q
        refine r_aload (pc := 54) dX7_departuresBehind_54 rfl ?_
        refine s_getI (pc := 56) dX7_departuresBehind_56 fl_X7_147 rfl e_5 ?_
        refine r_aload_n (pc := 59) dX7_departuresBehind_59 rfl ?_
        refine s_getI (pc := 60) dX7_departuresBehind_60 fl_X7_147 rfl k_b1 ?_
        refine r_isub (pc := 63) dX7_departuresBehind_63 ?_
        refine r_iconst (pc := 64) (v := 0) dX7_departuresBehind_64 (by decide) ?_
        refine r_iload_n (pc := 65) dX7_departuresBehind_65 rfl ?_
        refine s_SI (pc := 66) mX7_isWithin (As := [.int ((gi x c_3 2) - (gi x b1 2)), .int 0, .int l2]) dX7_departuresBehind_66 lk_X7_113 st_X7_isWithin mo_X7_isWithin ⟨by decide, by decide⟩ (Nat.le_of_ble_eq_true rfl) (sp_X7_isWithin  ?_)
        refine r_if_eq (pc := 69) (tgt := 88) dX7_departuresBehind_69 (by decide) (fun q => ?_) (fun q => ?_)
        · have q := (b2i_z _).mp q
          have K0 := K0.1 q
          refine r_iinc (pc := 88) (v := l4 + 1) dX7_departuresBehind_88 rfl rfl (by decide) ?_
          refine r_goto (pc := 91) (L := [some (.ref b0), some (.ref b1), some (.int l2), some (.int l3), some (.int (l4 + 1)), some (.ref c_3)]) (tgt := 5) dX7_departuresBehind_91 (by decide) ?_
          exact r_le (L' := [some (.ref b0), some (.ref b1), some (.int l2), some (.int l3), some (.int (l4 + 1)), none]) ⟨rfl, ⟨rfl, ⟨rfl, ⟨rfl, ⟨rfl, trivial⟩⟩⟩⟩⟩ K0
        · have q := b2i_nz q
          have K0 := K0.2 q
          refine r_aload (pc := 72) dX7_departuresBehind_72 rfl ?_
          refine s_VI (pc := 74) mX5_heldBits (ci := 5) (a := c_3) (As := []) dX7_departuresBehind_74 lk_X7_272 in_X5_heldBits mo_X5_heldBits ⟨by decide, rfl⟩ ⟨by decide, by decide⟩ (Nat.le_of_ble_eq_true rfl) e_5 (sp_X5_heldBits e_5 ?_)
          refine r_aload_n (pc := 77) dX7_departuresBehind_77 rfl ?_
          refine s_VI (pc := 78) mX5_heldBits (ci := 5) (a := b1) (As := []) dX7_departuresBehind_78 lk_X7_272 in_X5_heldBits mo_X5_heldBits ⟨by decide, rfl⟩ ⟨by decide, by decide⟩ (Nat.le_of_ble_eq_true rfl) k_b1 (sp_X5_heldBits k_b1 ?_)
          refine r_iand (pc := 81) dX7_departuresBehind_81 ?_
          refine r_if_eq (pc := 82) (tgt := 88) dX7_departuresBehind_82 (by decide) (fun q => ?_) (fun q => ?_)
          · have K0 := K0.1 q
            refine r_iinc (pc := 88) (v := l4 + 1) dX7_departuresBehind_88 rfl rfl (by decide) ?_
            refine r_goto (pc := 91) (L := [some (.ref b0), some (.ref b1), some (.int l2), some (.int l3), some (.int (l4 + 1)), some (.ref c_3)]) (tgt := 5) dX7_departuresBehind_91 (by decide) ?_
            exact r_le (L' := [some (.ref b0), some (.ref b1), some (.int l2), some (.int l3), some (.int (l4 + 1)), none]) ⟨rfl, ⟨rfl, ⟨rfl, ⟨rfl, ⟨rfl, trivial⟩⟩⟩⟩⟩ K0
          · have K0 := K0.2 q
            refine r_iinc (pc := 85) (v := l3 + 1) dX7_departuresBehind_85 rfl rfl (by decide) ?_
            refine r_iinc (pc := 88) (L := [some (.ref b0), some (.ref b1), some (.int l2), some (.int (l3 + 1)), some (.int l4), some (.ref c_3)]) (v := l4 + 1) dX7_departuresBehind_88 rfl rfl (by decide) ?_
            refine r_goto (pc := 91) (L := [some (.ref b0), some (.ref b1), some (.int l2), some (.int (l3 + 1)), some (.int (l4 + 1)), some (.ref c_3)]) (tgt := 5) dX7_departuresBehind_91 (by decide) ?_
            exact r_le (L' := [some (.ref b0), some (.ref b1), some (.int l2), some (.int (l3 + 1)), some (.int (l4 + 1)), none]) ⟨rfl, ⟨rfl, ⟨rfl, ⟨rfl, ⟨rfl, trivial⟩⟩⟩⟩⟩ K0
section
theorem sp_X7_departuresBehind {x : Cn} {Q : Int32 → Cn → Prop} {T : TT} {W C S A N s p : Nat} {wi : Int32} (c1 : CRf x) (E : SEA x 2 T W C S A N) (hs : s < S) (hp : kk KW p = some (5, 0)) (hq : SER x p T s) (k : Q (accT (inc (pcr T wi s)) S 0) x) : mSI mX7_departuresBehind [.ref 0, .ref p, .int wi] KW x Q := by
  have hn := E.nums
  have hS : S ≤ 24 := hn.2.2.2.2.2.2.1
  obtain ⟨p', -, -, -, -, -, e9⟩ := E.ser hs
  have hh := hq.held e9
  have hd : ¬ so T s 1 = -1 := by
    obtain ⟨-, ⟨d, hd, ed⟩, -⟩ := e9
    rw [ed]
    intro z
    have := nI_pos (n := d) (by omega)
    rw [z] at this
    exact this (by decide)
  refine v_X7_departuresBehind_0 (lp_acc (inc (pcr T wi s)) (fun t c => GI mX7_departuresBehind 5 [some (.ref 0), some (.ref p), some (.int wi), some (.int c), some (.int (nI t)), none] [] KW x Q) S 0 ?_ (fun t c ht n1 => ?_))
  · exact v_X7_departuresBehind_5 k0 c1.2.1 (ks0 E.1) E.2.1.2.2.1 (ks3 E.1) hp ⟨fun _ => k, fun z => absurd (by rw [hn.2.2.1]; exact Int32.le_refl _) z⟩
  · obtain ⟨p2, e1, e2, e3, e4, -, e6⟩ := E.ser ht
    refine v_X7_departuresBehind_5 k0 c1.2.1 (ks0 E.1) E.2.1.2.2.1 (ks3 E.1) hp ⟨fun z => absurd (by rw [hn.2.2.1] at z; exact z) (nI_ge ht (by omega)), fun _ => ⟨vp_in_nI (by omega) (by decide), p2, by rw [nI_clamp (by omega)]; exact e1, e2, ?_⟩⟩
    rw [e3.1 0 (by decide) (by decide), e3.1 1 (by decide) (by decide), e3.1 2 (by decide) (by decide), e3.1 3 (by decide) (by decide), hq.1 0 (by decide) (by decide), hq.1 1 (by decide) (by decide), hq.1 2 (by decide) (by decide), e4, hh, nI_1]
    exact ⟨fun z => n1 _ (if_neg (fun w => z ⟨w.1, Or.inr w.2.1⟩)), fun z1 => ⟨fun z => n1 _ (if_neg (fun w => z w.2.2.1)), fun z2 => ⟨fun z => n1 _ (if_neg (fun w => z w.2.2.2.1)), fun z3 => ⟨fun z => n1 _ (if_neg (fun w => w.2.2.2.2 z)), fun z4 => n1 _ (if_pos ⟨z1.1, z1.2.resolve_left hd, z2, z3, z4⟩)⟩⟩⟩⟩
end
set_option maxHeartbeats 2000000 in
theorem v_X7_pairs_0 {K : Sh} {x : Cn} {Q : Int32 → Cn → Prop} {b0 : Nat} {l1 : Int32} {l2 : Int32} {l3 : Int32} {b0_3 : Nat} {b0_2 : Nat} (k_b0 : kk K b0 = some (7, 0)) (g_b0_3 : gr x b0 3 = some b0_3) (k_b0_3 : kk K b0_3 = some (1, 0)) (g_b0_2 : gr x b0 2 = some b0_2) (k_b0_2 : kk K b0_2 = some (4, 0)) (K0 : (¬ (0 ≤ l1 ∧ l1 < gi x b0_3 0) → (Q (-2) x)) ∧ ((0 ≤ l1 ∧ l1 < gi x b0_3 0) → ((¬ (0 < gi x b0_2 0 ∧ 0 ≤ l2 ∧ l2 < 7) → (Q (-2) x)) ∧ ((0 < gi x b0_2 0 ∧ 0 ≤ l2 ∧ l2 < 7) → (((0 ≤ l3 ∧ l3 ≤ 23) → (GI mX7_pairs 35 [some (.ref b0), some (.int l1), some (.int l2), some (.int l3), some (.int 0), some (.int 0), none] [] K x Q)) ∧ (¬ (0 ≤ l3 ∧ l3 ≤ 23) → (Q (-2) x))))))) : mSI mX7_pairs [.ref b0, .int l1, .int l2, .int l3] K x Q := by
  refine s_I (by decide) (by simp [Value.category]) (Nat.le_of_ble_eq_true rfl) ?_
  show mGM mX7_pairs 0 [some (.ref b0), some (.int l1), some (.int l2), some (.int l3), none, none, none] [] (hp K x) (PI K Q)
  refine r_aload_n (pc := 0) dX7_pairs_0 rfl ?_
  refine r_iload_n (pc := 1) dX7_pairs_1 rfl ?_
  refine s_VI (pc := 2) mX7_isCarrier (ci := 7) (a := b0) (As := [.int l1]) dX7_pairs_2 lk_X7_109 in_X7_isCarrier mo_X7_isCarrier ⟨by decide, rfl⟩ ⟨by decide, by decide⟩ (Nat.le_of_ble_eq_true rfl) k_b0 (sp_X7_isCarrier k_b0 g_b0_3 k_b0_3 ?_)
  refine r_if_eq (pc := 5) (tgt := 26) dX7_pairs_5 (by decide) (fun q => ?_) (fun q => ?_)
  · have q := (b2i_z _).mp q
    have K0 := K0.1 q
    refine r_bipush (pc := 26) (v := (-2)) dX7_pairs_26 (by decide) ?_
    exact s_iret rfl dX7_pairs_28 K0
  · have q := b2i_nz q
    have K0 := K0.2 q
    refine r_aload_n (pc := 8) dX7_pairs_8 rfl ?_
    refine r_iload_n (pc := 9) dX7_pairs_9 rfl ?_
    refine s_VI (pc := 10) mX7_isDay (ci := 7) (a := b0) (As := [.int l2]) dX7_pairs_10 lk_X7_245 in_X7_isDay mo_X7_isDay ⟨by decide, rfl⟩ ⟨by decide, by decide⟩ (Nat.le_of_ble_eq_true rfl) k_b0 (sp_X7_isDay k_b0 g_b0_2 k_b0_2 ?_)
    refine r_if_eq (pc := 13) (tgt := 26) dX7_pairs_13 (by decide) (fun q => ?_) (fun q => ?_)
    · have q := (b2i_z _).mp q
      have K0 := K0.1 q
      refine r_bipush (pc := 26) (v := (-2)) dX7_pairs_26 (by decide) ?_
      exact s_iret rfl dX7_pairs_28 K0
    · have q := b2i_nz q
      have K0 := K0.2 q
      refine r_iload_n (pc := 16) dX7_pairs_16 rfl ?_
      refine r_iconst (pc := 17) (v := 0) dX7_pairs_17 (by decide) ?_
      refine r_bipush (pc := 18) (v := 23) dX7_pairs_18 (by decide) ?_
      refine s_SI (pc := 20) mX7_isWithin (As := [.int l3, .int 0, .int 23]) dX7_pairs_20 lk_X7_113 st_X7_isWithin mo_X7_isWithin ⟨by decide, by decide⟩ (Nat.le_of_ble_eq_true rfl) (sp_X7_isWithin  ?_)
      refine r_if_ne (pc := 23) (tgt := 29) dX7_pairs_23 (by decide) (fun q => ?_) (fun q => ?_)
      · have q := b2i_nz q
        have K0 := K0.1 q
        refine r_iconst (pc := 29) (v := 0) dX7_pairs_29 (by decide) ?_
        refine r_istore (pc := 30) dX7_pairs_30 (by decide) ?_
        refine r_iconst (pc := 32) (L := [some (.ref b0), some (.int l1), some (.int l2), some (.int l3), some (.int 0), none, none]) (v := 0) dX7_pairs_32 (by decide) ?_
        refine r_istore (pc := 33) dX7_pairs_33 (by decide) ?_
        exact r_le (L' := [some (.ref b0), some (.int l1), some (.int l2), some (.int l3), some (.int 0), some (.int 0), none]) ⟨rfl, ⟨rfl, ⟨rfl, ⟨rfl, ⟨rfl, ⟨rfl, trivial⟩⟩⟩⟩⟩⟩ K0
      · have q := (b2i_z _).mp q
        have K0 := K0.2 q
        refine r_bipush (pc := 26) (v := (-2)) dX7_pairs_26 (by decide) ?_
        exact s_iret rfl dX7_pairs_28 K0
set_option maxHeartbeats 2000000 in
theorem v_X7_pairs_35 {K : Sh} {x : Cn} {Q : Int32 → Cn → Prop} {b0 : Nat} {l1 : Int32} {l2 : Int32} {l3 : Int32} {l4 : Int32} {l5 : Int32} {b0_2 : Nat} {b0_2_7 : Nat} {n_b0_2_7 : Nat} (k_b0 : kk K b0 = some (7, 0)) (g_b0_2 : gr x b0 2 = some b0_2) (k_b0_2 : kk K b0_2 = some (4, 0)) (g_b0_2_7 : gr x b0_2 7 = some b0_2_7) (k_b0_2_7 : kk K b0_2_7 = some (23, n_b0_2_7)) (K0 : ((gi x b0_2 3) ≤ l5 → (Q l4 x)) ∧ (¬ (gi x b0_2 3) ≤ l5 → (vp_in l5 n_b0_2_7 ∧ (∃ c_3 : Nat, gr x b0_2_7 ((l5 : Int32).toNatClampNeg) = some c_3 ∧ (kk K c_3 = some (5, 0) ∧ ((¬ (gi x c_3 0 = l1 ∧ (l2 = -1 ∨ gi x c_3 1 = l2)) → (GI mX7_pairs 35 [some (.ref b0), some (.int l1), some (.int l2), some (.int l3), some (.int l4), some (.int (l5 + 1)), none] [] K x Q)) ∧ ((gi x c_3 0 = l1 ∧ (l2 = -1 ∨ gi x c_3 1 = l2)) → ((¬ (gi x c_3 3) = 0 → (GI mX7_pairs 35 [some (.ref b0), some (.int l1), some (.int l2), some (.int l3), some (.int l4), some (.int (l5 + 1)), none] [] K x Q)) ∧ ((gi x c_3 3) = 0 → (mSI mX7_departuresBehind [.ref b0, .ref c_3, .int l3] K x (fun r_9 y_8 => GI mX7_pairs 35 [some (.ref b0), some (.int l1), some (.int l2), some (.int l3), some (.int (l4 + r_9)), some (.int (l5 + 1)), none] [] K y_8 Q))))))))))) : GI mX7_pairs 35 [some (.ref b0), some (.int l1), some (.int l2), some (.int l3), some (.int l4), some (.int l5), none] [] K x Q := by
  show mGM mX7_pairs 35 [some (.ref b0), some (.int l1), some (.int l2), some (.int l3), some (.int l4), some (.int l5), none] [] (hp K x) (PI K Q)
  refine r_iload (pc := 35) dX7_pairs_35 rfl ?_
  refine r_aload_n (pc := 37) dX7_pairs_37 rfl ?_
  refine s_getR (pc := 38) dX7_pairs_38 fl_X7_20 rfl k_b0 g_b0_2 ?_
  refine s_getI (pc := 41) dX7_pairs_41 fl_X7_97 rfl k_b0_2 ?_
  refine r_icmp_ge (pc := 44) (tgt := 95) dX7_pairs_44 (by decide) (fun q => ?_) (fun q => ?_)
  · have K0 := K0.1 q
    refine r_iload (pc := 95) dX7_pairs_95 rfl ?_
    exact s_iret rfl dX7_pairs_97 K0
  · have K0 := K0.2 q
    refine r_aload_n (pc := 47) dX7_pairs_47 rfl ?_
    refine s_getR (pc := 48) dX7_pairs_48 fl_X7_20 rfl k_b0 g_b0_2 ?_
    refine s_getR (pc := 51) dX7_pairs_51 fl_X7_135 rfl k_b0_2 g_b0_2_7 ?_
    refine r_iload (pc := 54) dX7_pairs_54 rfl ?_
    obtain ⟨i_2, K0⟩ := K0
    obtain ⟨c_3, g_4, K0⟩ := K0
    refine s_aald (pc := 56) dX7_pairs_56 (by decide) rfl k_b0_2_7 i_2 g_4 ?_
    refine r_astore (pc := 57) dX7_pairs_57 (by decide) ?_
    refine r_aload (pc := 59) (L := [some (.ref b0), some (.int l1), some (.int l2), some (.int l3), some (.int l4), some (.int l5), some (.ref c_3)]) dX7_pairs_59 rfl ?_
    refine r_iload_n (pc := 61) dX7_pairs_61 rfl ?_
    refine r_iload_n (pc := 62) dX7_pairs_62 rfl ?_
    obtain ⟨e_5, K0⟩ := K0
    refine s_VI (pc := 63) mX5_isOf (ci := 5) (a := c_3) (As := [.int l1, .int l2]) dX7_pairs_63 lk_X7_248 in_X5_isOf mo_X5_isOf ⟨by decide, rfl⟩ ⟨by decide, by decide⟩ (Nat.le_of_ble_eq_true rfl) e_5 (sp_X5_isOf e_5 ?_)
    refine r_if_eq (pc := 66) (tgt := 89) dX7_pairs_66 (by decide) (fun q => ?_) (fun q => ?_)
    · have q := (b2i_z _).mp q
      have K0 := K0.1 q
      refine r_iinc (pc := 89) (v := l5 + 1) dX7_pairs_89 rfl rfl (by decide) ?_
      refine r_goto (pc := 92) (L := [some (.ref b0), some (.int l1), some (.int l2), some (.int l3), some (.int l4), some (.int (l5 + 1)), some (.ref c_3)]) (tgt := 35) dX7_pairs_92 (by decide) ?_
      exact r_le (L' := [some (.ref b0), some (.int l1), some (.int l2), some (.int l3), some (.int l4), some (.int (l5 + 1)), none]) ⟨rfl, ⟨rfl, ⟨rfl, ⟨rfl, ⟨rfl, ⟨rfl, trivial⟩⟩⟩⟩⟩⟩ K0
    · have q := b2i_nz q
      have K0 := K0.2 q
      refine r_aload (pc := 69) dX7_pairs_69 rfl ?_
      refine s_getI (pc := 71) dX7_pairs_71 fl_X7_150 rfl e_5 ?_
      refine r_if_ne (pc := 74) (tgt := 89) dX7_pairs_74 (by decide) (fun q => ?_) (fun q => ?_)
      · have K0 := K0.1 q
        refine r_iinc (pc := 89) (v := l5 + 1) dX7_pairs_89 rfl rfl (by decide) ?_
        refine r_goto (pc := 92) (L := [some (.ref b0), some (.int l1), some (.int l2), some (.int l3), some (.int l4), some (.int (l5 + 1)), some (.ref c_3)]) (tgt := 35) dX7_pairs_92 (by decide) ?_
        exact r_le (L' := [some (.ref b0), some (.int l1), some (.int l2), some (.int l3), some (.int l4), some (.int (l5 + 1)), none]) ⟨rfl, ⟨rfl, ⟨rfl, ⟨rfl, ⟨rfl, ⟨rfl, trivial⟩⟩⟩⟩⟩⟩ K0
      · have K0 := K0.2 q
        refine r_iload (pc := 77) dX7_pairs_77 rfl ?_
        refine r_aload_n (pc := 79) dX7_pairs_79 rfl ?_
        refine r_aload (pc := 80) dX7_pairs_80 rfl ?_
        refine r_iload_n (pc := 82) dX7_pairs_82 rfl ?_
        refine s_VI (pc := 83) mX7_departuresBehind (ci := 7) (a := b0) (As := [.ref c_3, .int l3]) dX7_pairs_83 lk_X7_275 in_X7_departuresBehind mo_X7_departuresBehind ⟨by decide, rfl⟩ ⟨by decide, by decide⟩ (Nat.le_of_ble_eq_true rfl) k_b0 (mSI_mono K0 (fun r_9 y_8 K0 => ?_))
        refine r_iadd (pc := 86) dX7_pairs_86 ?_
        refine r_istore (pc := 87) dX7_pairs_87 (by decide) ?_
        refine r_iinc (pc := 89) (L := [some (.ref b0), some (.int l1), some (.int l2), some (.int l3), some (.int (l4 + r_9)), some (.int l5), some (.ref c_3)]) (v := l5 + 1) dX7_pairs_89 rfl rfl (by decide) ?_
        refine r_goto (pc := 92) (L := [some (.ref b0), some (.int l1), some (.int l2), some (.int l3), some (.int (l4 + r_9)), some (.int (l5 + 1)), some (.ref c_3)]) (tgt := 35) dX7_pairs_92 (by decide) ?_
        exact r_le (L' := [some (.ref b0), some (.int l1), some (.int l2), some (.int l3), some (.int (l4 + r_9)), some (.int (l5 + 1)), none]) ⟨rfl, ⟨rfl, ⟨rfl, ⟨rfl, ⟨rfl, ⟨rfl, trivial⟩⟩⟩⟩⟩⟩ K0
set_option maxHeartbeats 2000000 in
theorem v_X8_pairs_0 {K : Sh} {x : Cn} {Q : Int32 → Cn → Prop} {b0 : Nat} {l1 : Int32} {l2 : Int32} {l3 : Int32} {b0_1 : Nat} {n_b0_1 : Nat} (k_b0 : kk K b0 = some (8, 0)) (g_b0_1 : gr x b0 1 = some b0_1) (k_b0_1 : kk K b0_1 = some (20, n_b0_1)) (K0 : vp_in 1 n_b0_1 ∧ ((¬ (0 ≤ l1 ∧ l1 ≤ gi x b0_1 1 - 1) → (Q (-2) x)) ∧ ((0 ≤ l1 ∧ l1 ≤ gi x b0_1 1 - 1) → (vp_in 0 n_b0_1 ∧ ((¬ (0 < gi x b0_1 0 ∧ 0 ≤ l2 ∧ l2 ≤ 6) → (Q (-2) x)) ∧ ((0 < gi x b0_1 0 ∧ 0 ≤ l2 ∧ l2 ≤ 6) → (((0 ≤ l3 ∧ l3 ≤ 23) → (GI mX8_pairs 37 [some (.ref b0), some (.int l1), some (.int l2), some (.int l3), some (.int 0), some (.int 0), none, none, none] [] K x Q)) ∧ (¬ (0 ≤ l3 ∧ l3 ≤ 23) → (Q (-2) x))))))))) : mSI mX8_pairs [.ref b0, .int l1, .int l2, .int l3] K x Q := by
  refine s_I (by decide) (by simp [Value.category]) (Nat.le_of_ble_eq_true rfl) ?_
  show mGM mX8_pairs 0 [some (.ref b0), some (.int l1), some (.int l2), some (.int l3), none, none, none, none, none] [] (hp K x) (PI K Q)
  refine r_aload_n (pc := 0) dX8_pairs_0 rfl ?_
  refine r_iload_n (pc := 1) dX8_pairs_1 rfl ?_
  obtain ⟨i_1, K0⟩ := K0
  refine s_VI (pc := 2) mX8_isCarrier (ci := 8) (a := b0) (As := [.int l1]) dX8_pairs_2 lk_X8_265 in_X8_isCarrier mo_X8_isCarrier ⟨by decide, rfl⟩ ⟨by decide, by decide⟩ (Nat.le_of_ble_eq_true rfl) k_b0 (sp_X8_isCarrier k_b0 g_b0_1 k_b0_1 i_1 ?_)
  refine r_if_eq (pc := 5) (tgt := 28) dX8_pairs_5 (by decide) (fun q => ?_) (fun q => ?_)
  · have q := (b2i_z _).mp q
    have K0 := K0.1 q
    refine r_bipush (pc := 28) (v := (-2)) dX8_pairs_28 (by decide) ?_
    exact s_iret rfl dX8_pairs_30 K0
  · have q := b2i_nz q
    have K0 := K0.2 q
    refine r_aload_n (pc := 8) dX8_pairs_8 rfl ?_
    refine r_iload_n (pc := 9) dX8_pairs_9 rfl ?_
    obtain ⟨i_3, K0⟩ := K0
    refine s_VI (pc := 10) mX8_isDay (ci := 8) (a := b0) (As := [.int l2]) dX8_pairs_10 lk_X8_61 in_X8_isDay mo_X8_isDay ⟨by decide, rfl⟩ ⟨by decide, by decide⟩ (Nat.le_of_ble_eq_true rfl) k_b0 (sp_X8_isDay k_b0 g_b0_1 k_b0_1 i_3 ?_)
    refine r_if_eq (pc := 13) (tgt := 28) dX8_pairs_13 (by decide) (fun q => ?_) (fun q => ?_)
    · have q := (b2i_z _).mp q
      have K0 := K0.1 q
      refine r_bipush (pc := 28) (v := (-2)) dX8_pairs_28 (by decide) ?_
      exact s_iret rfl dX8_pairs_30 K0
    · have q := b2i_nz q
      have K0 := K0.2 q
      refine r_iload_n (pc := 16) dX8_pairs_16 rfl ?_
      refine r_i2l (pc := 17) dX8_pairs_17 ?_
      refine r_lconst (pc := 18) (v := 0) dX8_pairs_18 (by decide) ?_
      refine r_ldc2 (pc := 19) (v := 23) dX8_pairs_19 cn_X8_55 ?_
      refine s_SI (pc := 22) mX8_in (As := [.long ((l3 : Int32).toInt64), .long 0, .long 23]) dX8_pairs_22 lk_X8_45 st_X8_in mo_X8_in ⟨by decide, by decide⟩ (Nat.le_of_ble_eq_true rfl) (sq_X8_in (v := l3) (lo := 0) (hi := 23) rfl (by decide) (by decide) ?_)
      refine r_if_ne (pc := 25) (tgt := 31) dX8_pairs_25 (by decide) (fun q => ?_) (fun q => ?_)
      · have q := b2i_nz q
        have K0 := K0.1 q
        refine r_iconst (pc := 31) (v := 0) dX8_pairs_31 (by decide) ?_
        refine r_istore (pc := 32) dX8_pairs_32 (by decide) ?_
        refine r_iconst (pc := 34) (L := [some (.ref b0), some (.int l1), some (.int l2), some (.int l3), some (.int 0), none, none, none, none]) (v := 0) dX8_pairs_34 (by decide) ?_
        refine r_istore (pc := 35) dX8_pairs_35 (by decide) ?_
        exact r_le (L' := [some (.ref b0), some (.int l1), some (.int l2), some (.int l3), some (.int 0), some (.int 0), none, none, none]) ⟨rfl, ⟨rfl, ⟨rfl, ⟨rfl, ⟨rfl, ⟨rfl, trivial⟩⟩⟩⟩⟩⟩ K0
      · have q := (b2i_z _).mp q
        have K0 := K0.2 q
        refine r_bipush (pc := 28) (v := (-2)) dX8_pairs_28 (by decide) ?_
        exact s_iret rfl dX8_pairs_30 K0
set_option maxHeartbeats 2000000 in
theorem v_X8_pairs_37 {K : Sh} {x : Cn} {Q : Int32 → Cn → Prop} {b0 : Nat} {l1 : Int32} {l2 : Int32} {l3 : Int32} {l4 : Int32} {l5 : Int32} {b0_1 : Nat} {n_b0_1 : Nat} (k_b0 : kk K b0 = some (8, 0)) (g_b0_1 : gr x b0 1 = some b0_1) (k_b0_1 : kk K b0_1 = some (20, n_b0_1)) (K0 : vp_in 2 n_b0_1 ∧ (((gi x b0_1 2) ≤ l5 → (Q l4 x)) ∧ (¬ (gi x b0_1 2) ≤ l5 → (GI mX8_pairs 51 [some (.ref b0), some (.int l1), some (.int l2), some (.int l3), some (.int l4), some (.int l5), some (.int 0), none, none] [] K x Q)))) : GI mX8_pairs 37 [some (.ref b0), some (.int l1), some (.int l2), some (.int l3), some (.int l4), some (.int l5), none, none, none] [] K x Q := by
  show mGM mX8_pairs 37 [some (.ref b0), some (.int l1), some (.int l2), some (.int l3), some (.int l4), some (.int l5), none, none, none] [] (hp K x) (PI K Q)
  refine r_iload (pc := 37) dX8_pairs_37 rfl ?_
  refine r_aload_n (pc := 39) dX8_pairs_39 rfl ?_
  refine s_getR (pc := 40) dX8_pairs_40 fl_X8_9 rfl k_b0 g_b0_1 ?_
  refine r_iconst (pc := 43) (v := 2) dX8_pairs_43 (by decide) ?_
  obtain ⟨i_1, K0⟩ := K0
  refine s_iald (pc := 44) dX8_pairs_44 k_b0_1 i_1 ?_
  refine r_icmp_ge (pc := 45) (tgt := 214) dX8_pairs_45 (by decide) (fun q => ?_) (fun q => ?_)
  · have K0 := K0.1 q
    refine r_iload (pc := 214) dX8_pairs_214 rfl ?_
    exact s_iret rfl dX8_pairs_216 K0
  · have K0 := K0.2 q
    refine r_iconst (pc := 48) (v := 0) dX8_pairs_48 (by decide) ?_
    refine r_istore (pc := 49) dX8_pairs_49 (by decide) ?_
    exact r_le (L' := [some (.ref b0), some (.int l1), some (.int l2), some (.int l3), some (.int l4), some (.int l5), some (.int 0), none, none]) ⟨rfl, ⟨rfl, ⟨rfl, ⟨rfl, ⟨rfl, ⟨rfl, ⟨rfl, trivial⟩⟩⟩⟩⟩⟩⟩ K0
set_option maxHeartbeats 2000000 in
theorem v_X8_pairs_51 {K : Sh} {x : Cn} {Q : Int32 → Cn → Prop} {b0 : Nat} {l1 : Int32} {l2 : Int32} {l3 : Int32} {l4 : Int32} {l5 : Int32} {l6 : Int32} {b0_1 : Nat} {n_b0_1 : Nat} {b0_3 : Nat} {n_b0_3 : Nat} (k_b0 : kk K b0 = some (8, 0)) (g_b0_1 : gr x b0 1 = some b0_1) (k_b0_1 : kk K b0_1 = some (20, n_b0_1)) (g_b0_3 : gr x b0 3 = some b0_3) (k_b0_3 : kk K b0_3 = some (20, n_b0_3)) (K0 : vp_in 2 n_b0_1 ∧ (((gi x b0_1 2) ≤ l6 → (GI mX8_pairs 37 [some (.ref b0), some (.int l1), some (.int l2), some (.int l3), some (.int l4), some (.int (l5 + 1)), none, none, none] [] K x Q)) ∧ (¬ (gi x b0_1 2) ≤ l6 → ((l24 l5 n_b0_3) ∧ ((¬ (so (gi x b0_3) (l5 : Int32).toNatClampNeg 0) = l1 → (GI mX8_pairs 110 [some (.ref b0), some (.int l1), some (.int l2), some (.int l3), some (.int l4), some (.int l5), some (.int l6), none, none] [] K x Q)) ∧ ((so (gi x b0_3) (l5 : Int32).toNatClampNeg 0) = l1 → ((l24 l6 n_b0_3) ∧ ((¬ (so (gi x b0_3) (l6 : Int32).toNatClampNeg 0) = l1 → (GI mX8_pairs 110 [some (.ref b0), some (.int l1), some (.int l2), some (.int l3), some (.int l4), some (.int l5), some (.int l6), none, none] [] K x Q)) ∧ ((so (gi x b0_3) (l6 : Int32).toNatClampNeg 0) = l1 → ((¬ (so (gi x b0_3) (l5 : Int32).toNatClampNeg 1) = l2 → (GI mX8_pairs 110 [some (.ref b0), some (.int l1), some (.int l2), some (.int l3), some (.int l4), some (.int l5), some (.int l6), none, none] [] K x Q)) ∧ ((so (gi x b0_3) (l5 : Int32).toNatClampNeg 1) = l2 → ((¬ (so (gi x b0_3) (l6 : Int32).toNatClampNeg 1) = l2 → (GI mX8_pairs 110 [some (.ref b0), some (.int l1), some (.int l2), some (.int l3), some (.int l4), some (.int l5), some (.int l6), none, none] [] K x Q)) ∧ ((so (gi x b0_3) (l6 : Int32).toNatClampNeg 1) = l2 → ((¬ (so (gi x b0_3) (l5 : Int32).toNatClampNeg 3) = 0 → (GI mX8_pairs 163 [some (.ref b0), some (.int l1), some (.int l2), some (.int l3), some (.int l4), some (.int l5), some (.int l6), some (.int 1), none] [] K x Q)) ∧ ((so (gi x b0_3) (l5 : Int32).toNatClampNeg 3) = 0 → ((¬ (so (gi x b0_3) (l6 : Int32).toNatClampNeg 3) = 1 → (GI mX8_pairs 163 [some (.ref b0), some (.int l1), some (.int l2), some (.int l3), some (.int l4), some (.int l5), some (.int l6), some (.int 1), none] [] K x Q)) ∧ ((so (gi x b0_3) (l6 : Int32).toNatClampNeg 3) = 1 → ((¬ (0 ≤ ((so (gi x b0_3) (l6 : Int32).toNatClampNeg 2) - (so (gi x b0_3) (l5 : Int32).toNatClampNeg 2)) ∧ ((so (gi x b0_3) (l6 : Int32).toNatClampNeg 2) - (so (gi x b0_3) (l5 : Int32).toNatClampNeg 2)) ≤ l3) → (GI mX8_pairs 163 [some (.ref b0), some (.int l1), some (.int l2), some (.int l3), some (.int l4), some (.int l5), some (.int l6), some (.int 1), none] [] K x Q)) ∧ ((0 ≤ ((so (gi x b0_3) (l6 : Int32).toNatClampNeg 2) - (so (gi x b0_3) (l5 : Int32).toNatClampNeg 2)) ∧ ((so (gi x b0_3) (l6 : Int32).toNatClampNeg 2) - (so (gi x b0_3) (l5 : Int32).toNatClampNeg 2)) ≤ l3) → ((((bas (gi x b0_3) (l5 : Int32).toNatClampNeg) &&& (bas (gi x b0_3) (l6 : Int32).toNatClampNeg)) = 0 → (GI mX8_pairs 51 [some (.ref b0), some (.int l1), some (.int l2), some (.int l3), some (.int (l4 + 0)), some (.int l5), some (.int (l6 + 1)), none, none] [] K x Q)) ∧ (¬ ((bas (gi x b0_3) (l5 : Int32).toNatClampNeg) &&& (bas (gi x b0_3) (l6 : Int32).toNatClampNeg)) = 0 → (GI mX8_pairs 51 [some (.ref b0), some (.int l1), some (.int l2), some (.int l3), some (.int (l4 + 1)), some (.int l5), some (.int (l6 + 1)), none, none] [] K x Q)))))))))))))))))))))) : GI mX8_pairs 51 [some (.ref b0), some (.int l1), some (.int l2), some (.int l3), some (.int l4), some (.int l5), some (.int l6), none, none] [] K x Q := by
  show mGM mX8_pairs 51 [some (.ref b0), some (.int l1), some (.int l2), some (.int l3), some (.int l4), some (.int l5), some (.int l6), none, none] [] (hp K x) (PI K Q)
  refine r_iload (pc := 51) dX8_pairs_51 rfl ?_
  refine r_aload_n (pc := 53) dX8_pairs_53 rfl ?_
  refine s_getR (pc := 54) dX8_pairs_54 fl_X8_9 rfl k_b0 g_b0_1 ?_
  refine r_iconst (pc := 57) (v := 2) dX8_pairs_57 (by decide) ?_
  obtain ⟨i_1, K0⟩ := K0
  refine s_iald (pc := 58) dX8_pairs_58 k_b0_1 i_1 ?_
  refine r_icmp_ge (pc := 59) (tgt := 208) dX8_pairs_59 (by decide) (fun q => ?_) (fun q => ?_)
  · have K0 := K0.1 q
    refine r_iinc (pc := 208) (v := l5 + 1) dX8_pairs_208 rfl rfl (by decide) ?_
    refine r_goto (pc := 211) (L := [some (.ref b0), some (.int l1), some (.int l2), some (.int l3), some (.int l4), some (.int (l5 + 1)), some (.int l6), none, none]) (tgt := 37) dX8_pairs_211 (by decide) ?_
    exact r_le (L' := [some (.ref b0), some (.int l1), some (.int l2), some (.int l3), some (.int l4), some (.int (l5 + 1)), none, none, none]) ⟨rfl, ⟨rfl, ⟨rfl, ⟨rfl, ⟨rfl, ⟨rfl, trivial⟩⟩⟩⟩⟩⟩ K0
  · have K0 := K0.2 q
    refine r_aload_n (pc := 62) dX8_pairs_62 rfl ?_
    refine r_iload (pc := 63) dX8_pairs_63 rfl ?_
    refine r_iconst (pc := 65) (v := 0) dX8_pairs_65 (by decide) ?_
    obtain ⟨p_3, K0⟩ := K0
    refine s_VI (pc := 66) mX8_one (ci := 8) (a := b0) (As := [.int l5, .int 0]) dX8_pairs_66 lk_X8_67 in_X8_one mo_X8_one ⟨by decide, rfl⟩ ⟨by decide, by decide⟩ (Nat.le_of_ble_eq_true rfl) k_b0 (sr_X8_one k_b0 g_b0_3 k_b0_3 p_3 ⟨by decide, by decide⟩ ?_)
    refine r_iload_n (pc := 69) dX8_pairs_69 rfl ?_
    refine r_icmp_ne (pc := 70) (tgt := 110) dX8_pairs_70 (by decide) (fun q => ?_) (fun q => ?_)
    · have K0 := K0.1 q
      exact r_le (L' := [some (.ref b0), some (.int l1), some (.int l2), some (.int l3), some (.int l4), some (.int l5), some (.int l6), none, none]) ⟨rfl, ⟨rfl, ⟨rfl, ⟨rfl, ⟨rfl, ⟨rfl, ⟨rfl, trivial⟩⟩⟩⟩⟩⟩⟩ K0
    · have K0 := K0.2 q
      refine r_aload_n (pc := 73) dX8_pairs_73 rfl ?_
      refine r_iload (pc := 74) dX8_pairs_74 rfl ?_
      refine r_iconst (pc := 76) (v := 0) dX8_pairs_76 (by decide) ?_
      obtain ⟨p_5, K0⟩ := K0
      refine s_VI (pc := 77) mX8_one (ci := 8) (a := b0) (As := [.int l6, .int 0]) dX8_pairs_77 lk_X8_67 in_X8_one mo_X8_one ⟨by decide, rfl⟩ ⟨by decide, by decide⟩ (Nat.le_of_ble_eq_true rfl) k_b0 (sr_X8_one k_b0 g_b0_3 k_b0_3 p_5 ⟨by decide, by decide⟩ ?_)
      refine r_iload_n (pc := 80) dX8_pairs_80 rfl ?_
      refine r_icmp_ne (pc := 81) (tgt := 110) dX8_pairs_81 (by decide) (fun q => ?_) (fun q => ?_)
      · have K0 := K0.1 q
        exact r_le (L' := [some (.ref b0), some (.int l1), some (.int l2), some (.int l3), some (.int l4), some (.int l5), some (.int l6), none, none]) ⟨rfl, ⟨rfl, ⟨rfl, ⟨rfl, ⟨rfl, ⟨rfl, ⟨rfl, trivial⟩⟩⟩⟩⟩⟩⟩ K0
      · have K0 := K0.2 q
        refine r_aload_n (pc := 84) dX8_pairs_84 rfl ?_
        refine r_iload (pc := 85) dX8_pairs_85 rfl ?_
        refine r_iconst (pc := 87) (v := 1) dX8_pairs_87 (by decide) ?_
        refine s_VI (pc := 88) mX8_one (ci := 8) (a := b0) (As := [.int l5, .int 1]) dX8_pairs_88 lk_X8_67 in_X8_one mo_X8_one ⟨by decide, rfl⟩ ⟨by decide, by decide⟩ (Nat.le_of_ble_eq_true rfl) k_b0 (sr_X8_one k_b0 g_b0_3 k_b0_3 p_3 ⟨by decide, by decide⟩ ?_)
        refine r_iload_n (pc := 91) dX8_pairs_91 rfl ?_
        refine r_icmp_ne (pc := 92) (tgt := 110) dX8_pairs_92 (by decide) (fun q => ?_) (fun q => ?_)
        · have K0 := K0.1 q
          exact r_le (L' := [some (.ref b0), some (.int l1), some (.int l2), some (.int l3), some (.int l4), some (.int l5), some (.int l6), none, none]) ⟨rfl, ⟨rfl, ⟨rfl, ⟨rfl, ⟨rfl, ⟨rfl, ⟨rfl, trivial⟩⟩⟩⟩⟩⟩⟩ K0
        · have K0 := K0.2 q
          refine r_aload_n (pc := 95) dX8_pairs_95 rfl ?_
          refine r_iload (pc := 96) dX8_pairs_96 rfl ?_
          refine r_iconst (pc := 98) (v := 1) dX8_pairs_98 (by decide) ?_
          refine s_VI (pc := 99) mX8_one (ci := 8) (a := b0) (As := [.int l6, .int 1]) dX8_pairs_99 lk_X8_67 in_X8_one mo_X8_one ⟨by decide, rfl⟩ ⟨by decide, by decide⟩ (Nat.le_of_ble_eq_true rfl) k_b0 (sr_X8_one k_b0 g_b0_3 k_b0_3 p_5 ⟨by decide, by decide⟩ ?_)
          refine r_iload_n (pc := 102) dX8_pairs_102 rfl ?_
          refine r_icmp_ne (pc := 103) (tgt := 110) dX8_pairs_103 (by decide) (fun q => ?_) (fun q => ?_)
          · have K0 := K0.1 q
            exact r_le (L' := [some (.ref b0), some (.int l1), some (.int l2), some (.int l3), some (.int l4), some (.int l5), some (.int l6), none, none]) ⟨rfl, ⟨rfl, ⟨rfl, ⟨rfl, ⟨rfl, ⟨rfl, ⟨rfl, trivial⟩⟩⟩⟩⟩⟩⟩ K0
          · have K0 := K0.2 q
            refine r_iconst (pc := 106) (v := 1) dX8_pairs_106 (by decide) ?_
            refine r_goto (pc := 107) (tgt := 111) dX8_pairs_107 (by decide) ?_
            refine r_istore (pc := 111) dX8_pairs_111 (by decide) ?_
            refine r_aload_n (pc := 113) (L := [some (.ref b0), some (.int l1), some (.int l2), some (.int l3), some (.int l4), some (.int l5), some (.int l6), some (.int 1), none]) dX8_pairs_113 rfl ?_
            refine r_iload (pc := 114) dX8_pairs_114 rfl ?_
            refine r_iconst (pc := 116) (v := 3) dX8_pairs_116 (by decide) ?_
            refine s_VI (pc := 117) mX8_one (ci := 8) (a := b0) (As := [.int l5, .int 3]) dX8_pairs_117 lk_X8_67 in_X8_one mo_X8_one ⟨by decide, rfl⟩ ⟨by decide, by decide⟩ (Nat.le_of_ble_eq_true rfl) k_b0 (sr_X8_one k_b0 g_b0_3 k_b0_3 p_3 ⟨by decide, by decide⟩ ?_)
            refine r_if_ne (pc := 120) (tgt := 163) dX8_pairs_120 (by decide) (fun q => ?_) (fun q => ?_)
            · have K0 := K0.1 q
              exact r_le (L' := [some (.ref b0), some (.int l1), some (.int l2), some (.int l3), some (.int l4), some (.int l5), some (.int l6), some (.int 1), none]) ⟨rfl, ⟨rfl, ⟨rfl, ⟨rfl, ⟨rfl, ⟨rfl, ⟨rfl, ⟨rfl, trivial⟩⟩⟩⟩⟩⟩⟩⟩ K0
            · have K0 := K0.2 q
              refine r_aload_n (pc := 123) dX8_pairs_123 rfl ?_
              refine r_iload (pc := 124) dX8_pairs_124 rfl ?_
              refine r_iconst (pc := 126) (v := 3) dX8_pairs_126 (by decide) ?_
              refine s_VI (pc := 127) mX8_one (ci := 8) (a := b0) (As := [.int l6, .int 3]) dX8_pairs_127 lk_X8_67 in_X8_one mo_X8_one ⟨by decide, rfl⟩ ⟨by decide, by decide⟩ (Nat.le_of_ble_eq_true rfl) k_b0 (sr_X8_one k_b0 g_b0_3 k_b0_3 p_5 ⟨by decide, by decide⟩ ?_)
              refine r_iconst (pc := 130) (v := 1) dX8_pairs_130 (by decide) ?_
              refine r_icmp_ne (pc := 131) (tgt := 163) dX8_pairs_131 (by decide) (fun q => ?_) (fun q => ?_)
              · have K0 := K0.1 q
                exact r_le (L' := [some (.ref b0), some (.int l1), some (.int l2), some (.int l3), some (.int l4), some (.int l5), some (.int l6), some (.int 1), none]) ⟨rfl, ⟨rfl, ⟨rfl, ⟨rfl, ⟨rfl, ⟨rfl, ⟨rfl, ⟨rfl, trivial⟩⟩⟩⟩⟩⟩⟩⟩ K0
              · have K0 := K0.2 q
                refine r_aload_n (pc := 134) dX8_pairs_134 rfl ?_
                refine r_iload (pc := 135) dX8_pairs_135 rfl ?_
                refine r_iconst (pc := 137) (v := 2) dX8_pairs_137 (by decide) ?_
                refine s_VI (pc := 138) mX8_one (ci := 8) (a := b0) (As := [.int l6, .int 2]) dX8_pairs_138 lk_X8_67 in_X8_one mo_X8_one ⟨by decide, rfl⟩ ⟨by decide, by decide⟩ (Nat.le_of_ble_eq_true rfl) k_b0 (sr_X8_one k_b0 g_b0_3 k_b0_3 p_5 ⟨by decide, by decide⟩ ?_)
                refine r_aload_n (pc := 141) dX8_pairs_141 rfl ?_
                refine r_iload (pc := 142) dX8_pairs_142 rfl ?_
                refine r_iconst (pc := 144) (v := 2) dX8_pairs_144 (by decide) ?_
                refine s_VI (pc := 145) mX8_one (ci := 8) (a := b0) (As := [.int l5, .int 2]) dX8_pairs_145 lk_X8_67 in_X8_one mo_X8_one ⟨by decide, rfl⟩ ⟨by decide, by decide⟩ (Nat.le_of_ble_eq_true rfl) k_b0 (sr_X8_one k_b0 g_b0_3 k_b0_3 p_3 ⟨by decide, by decide⟩ ?_)
                refine r_isub (pc := 148) dX8_pairs_148 ?_
                refine r_i2l (pc := 149) dX8_pairs_149 ?_
                refine r_lconst (pc := 150) (v := 0) dX8_pairs_150 (by decide) ?_
                refine r_iload_n (pc := 151) dX8_pairs_151 rfl ?_
                refine r_i2l (pc := 152) dX8_pairs_152 ?_
                refine s_SI (pc := 153) mX8_in (As := [.long ((((so (gi x b0_3) (l6 : Int32).toNatClampNeg 2) - (so (gi x b0_3) (l5 : Int32).toNatClampNeg 2)) : Int32).toInt64), .long 0, .long ((l3 : Int32).toInt64)]) dX8_pairs_153 lk_X8_45 st_X8_in mo_X8_in ⟨by decide, by decide⟩ (Nat.le_of_ble_eq_true rfl) (sq_X8_in (v := ((so (gi x b0_3) (l6 : Int32).toNatClampNeg 2) - (so (gi x b0_3) (l5 : Int32).toNatClampNeg 2))) (lo := 0) (hi := l3) rfl (by decide) rfl ?_)
                refine r_if_eq (pc := 156) (tgt := 163) dX8_pairs_156 (by decide) (fun q => ?_) (fun q => ?_)
                · have q := (b2i_z _).mp q
                  have K0 := K0.1 q
                  exact r_le (L' := [some (.ref b0), some (.int l1), some (.int l2), some (.int l3), some (.int l4), some (.int l5), some (.int l6), some (.int 1), none]) ⟨rfl, ⟨rfl, ⟨rfl, ⟨rfl, ⟨rfl, ⟨rfl, ⟨rfl, ⟨rfl, trivial⟩⟩⟩⟩⟩⟩⟩⟩ K0
                · have q := b2i_nz q
                  have K0 := K0.2 q
                  refine r_iconst (pc := 159) (v := 1) dX8_pairs_159 (by decide) ?_
                  refine r_goto (pc := 160) (tgt := 164) dX8_pairs_160 (by decide) ?_
                  refine r_istore (pc := 164) dX8_pairs_164 (by decide) ?_
                  refine r_iload (pc := 166) (L := [some (.ref b0), some (.int l1), some (.int l2), some (.int l3), some (.int l4), some (.int l5), some (.int l6), some (.int 1), some (.int 1)]) dX8_pairs_166 rfl ?_
                  refine r_iload (pc := 168) dX8_pairs_168 rfl ?_
                  refine r_if_eq (pc := 170) (tgt := 198) dX8_pairs_170 (by decide) (fun q => by first | exact absurd q (by decide) | exact absurd (by decide) q) (fun _ => ?_)
                  refine r_iload (pc := 173) dX8_pairs_173 rfl ?_
                  refine r_if_eq (pc := 175) (tgt := 198) dX8_pairs_175 (by decide) (fun q => by first | exact absurd q (by decide) | exact absurd (by decide) q) (fun _ => ?_)
                  refine r_aload_n (pc := 178) dX8_pairs_178 rfl ?_
                  refine r_iload (pc := 179) dX8_pairs_179 rfl ?_
                  refine s_VI (pc := 181) mX8_basisOf (ci := 8) (a := b0) (As := [.int l5]) dX8_pairs_181 lk_X8_71 in_X8_basisOf mo_X8_basisOf ⟨by decide, rfl⟩ ⟨by decide, by decide⟩ (Nat.le_of_ble_eq_true rfl) k_b0 (sr_X8_basisOf k_b0 g_b0_3 k_b0_3 p_3 ?_)
                  refine r_aload_n (pc := 184) dX8_pairs_184 rfl ?_
                  refine r_iload (pc := 185) dX8_pairs_185 rfl ?_
                  refine s_VI (pc := 187) mX8_basisOf (ci := 8) (a := b0) (As := [.int l6]) dX8_pairs_187 lk_X8_71 in_X8_basisOf mo_X8_basisOf ⟨by decide, rfl⟩ ⟨by decide, by decide⟩ (Nat.le_of_ble_eq_true rfl) k_b0 (sr_X8_basisOf k_b0 g_b0_3 k_b0_3 p_5 ?_)
                  refine r_iand (pc := 190) dX8_pairs_190 ?_
                  refine r_if_eq (pc := 191) (tgt := 198) dX8_pairs_191 (by decide) (fun q => ?_) (fun q => ?_)
                  · have K0 := K0.1 q
                    refine r_iconst (pc := 198) (v := 0) dX8_pairs_198 (by decide) ?_
                    refine r_iadd (pc := 199) dX8_pairs_199 ?_
                    refine r_istore (pc := 200) dX8_pairs_200 (by decide) ?_
                    refine r_iinc (pc := 202) (L := [some (.ref b0), some (.int l1), some (.int l2), some (.int l3), some (.int (l4 + 0)), some (.int l5), some (.int l6), some (.int 1), some (.int 1)]) (v := l6 + 1) dX8_pairs_202 rfl rfl (by decide) ?_
                    refine r_goto (pc := 205) (L := [some (.ref b0), some (.int l1), some (.int l2), some (.int l3), some (.int (l4 + 0)), some (.int l5), some (.int (l6 + 1)), some (.int 1), some (.int 1)]) (tgt := 51) dX8_pairs_205 (by decide) ?_
                    exact r_le (L' := [some (.ref b0), some (.int l1), some (.int l2), some (.int l3), some (.int (l4 + 0)), some (.int l5), some (.int (l6 + 1)), none, none]) ⟨rfl, ⟨rfl, ⟨rfl, ⟨rfl, ⟨rfl, ⟨rfl, ⟨rfl, trivial⟩⟩⟩⟩⟩⟩⟩ K0
                  · have K0 := K0.2 q
                    refine r_iconst (pc := 194) (v := 1) dX8_pairs_194 (by decide) ?_
                    refine r_goto (pc := 195) (tgt := 199) dX8_pairs_195 (by decide) ?_
                    refine r_iadd (pc := 199) dX8_pairs_199 ?_
                    refine r_istore (pc := 200) dX8_pairs_200 (by decide) ?_
                    refine r_iinc (pc := 202) (L := [some (.ref b0), some (.int l1), some (.int l2), some (.int l3), some (.int (l4 + 1)), some (.int l5), some (.int l6), some (.int 1), some (.int 1)]) (v := l6 + 1) dX8_pairs_202 rfl rfl (by decide) ?_
                    refine r_goto (pc := 205) (L := [some (.ref b0), some (.int l1), some (.int l2), some (.int l3), some (.int (l4 + 1)), some (.int l5), some (.int (l6 + 1)), some (.int 1), some (.int 1)]) (tgt := 51) dX8_pairs_205 (by decide) ?_
                    exact r_le (L' := [some (.ref b0), some (.int l1), some (.int l2), some (.int l3), some (.int (l4 + 1)), some (.int l5), some (.int (l6 + 1)), none, none]) ⟨rfl, ⟨rfl, ⟨rfl, ⟨rfl, ⟨rfl, ⟨rfl, ⟨rfl, trivial⟩⟩⟩⟩⟩⟩⟩ K0
set_option maxHeartbeats 2000000 in
theorem v_X8_pairs_110 {K : Sh} {x : Cn} {Q : Int32 → Cn → Prop} {b0 : Nat} {l1 : Int32} {l2 : Int32} {l3 : Int32} {l4 : Int32} {l5 : Int32} {l6 : Int32} {b0_3 : Nat} {n_b0_3 : Nat} (k_b0 : kk K b0 = some (8, 0)) (g_b0_3 : gr x b0 3 = some b0_3) (k_b0_3 : kk K b0_3 = some (20, n_b0_3)) (K0 : (l24 l5 n_b0_3) ∧ ((¬ (so (gi x b0_3) (l5 : Int32).toNatClampNeg 3) = 0 → (GI mX8_pairs 163 [some (.ref b0), some (.int l1), some (.int l2), some (.int l3), some (.int l4), some (.int l5), some (.int l6), some (.int 0), none] [] K x Q)) ∧ ((so (gi x b0_3) (l5 : Int32).toNatClampNeg 3) = 0 → ((l24 l6 n_b0_3) ∧ ((¬ (so (gi x b0_3) (l6 : Int32).toNatClampNeg 3) = 1 → (GI mX8_pairs 163 [some (.ref b0), some (.int l1), some (.int l2), some (.int l3), some (.int l4), some (.int l5), some (.int l6), some (.int 0), none] [] K x Q)) ∧ ((so (gi x b0_3) (l6 : Int32).toNatClampNeg 3) = 1 → ((¬ (0 ≤ ((so (gi x b0_3) (l6 : Int32).toNatClampNeg 2) - (so (gi x b0_3) (l5 : Int32).toNatClampNeg 2)) ∧ ((so (gi x b0_3) (l6 : Int32).toNatClampNeg 2) - (so (gi x b0_3) (l5 : Int32).toNatClampNeg 2)) ≤ l3) → (GI mX8_pairs 163 [some (.ref b0), some (.int l1), some (.int l2), some (.int l3), some (.int l4), some (.int l5), some (.int l6), some (.int 0), none] [] K x Q)) ∧ ((0 ≤ ((so (gi x b0_3) (l6 : Int32).toNatClampNeg 2) - (so (gi x b0_3) (l5 : Int32).toNatClampNeg 2)) ∧ ((so (gi x b0_3) (l6 : Int32).toNatClampNeg 2) - (so (gi x b0_3) (l5 : Int32).toNatClampNeg 2)) ≤ l3) → (GI mX8_pairs 51 [some (.ref b0), some (.int l1), some (.int l2), some (.int l3), some (.int (l4 + 0)), some (.int l5), some (.int (l6 + 1)), none, none] [] K x Q))))))))) : GI mX8_pairs 110 [some (.ref b0), some (.int l1), some (.int l2), some (.int l3), some (.int l4), some (.int l5), some (.int l6), none, none] [] K x Q := by
  show mGM mX8_pairs 110 [some (.ref b0), some (.int l1), some (.int l2), some (.int l3), some (.int l4), some (.int l5), some (.int l6), none, none] [] (hp K x) (PI K Q)
  refine r_iconst (pc := 110) (v := 0) dX8_pairs_110 (by decide) ?_
  refine r_istore (pc := 111) dX8_pairs_111 (by decide) ?_
  refine r_aload_n (pc := 113) (L := [some (.ref b0), some (.int l1), some (.int l2), some (.int l3), some (.int l4), some (.int l5), some (.int l6), some (.int 0), none]) dX8_pairs_113 rfl ?_
  refine r_iload (pc := 114) dX8_pairs_114 rfl ?_
  refine r_iconst (pc := 116) (v := 3) dX8_pairs_116 (by decide) ?_
  obtain ⟨p_1, K0⟩ := K0
  refine s_VI (pc := 117) mX8_one (ci := 8) (a := b0) (As := [.int l5, .int 3]) dX8_pairs_117 lk_X8_67 in_X8_one mo_X8_one ⟨by decide, rfl⟩ ⟨by decide, by decide⟩ (Nat.le_of_ble_eq_true rfl) k_b0 (sr_X8_one k_b0 g_b0_3 k_b0_3 p_1 ⟨by decide, by decide⟩ ?_)
  refine r_if_ne (pc := 120) (tgt := 163) dX8_pairs_120 (by decide) (fun q => ?_) (fun q => ?_)
  · have K0 := K0.1 q
    exact r_le (L' := [some (.ref b0), some (.int l1), some (.int l2), some (.int l3), some (.int l4), some (.int l5), some (.int l6), some (.int 0), none]) ⟨rfl, ⟨rfl, ⟨rfl, ⟨rfl, ⟨rfl, ⟨rfl, ⟨rfl, ⟨rfl, trivial⟩⟩⟩⟩⟩⟩⟩⟩ K0
  · have K0 := K0.2 q
    refine r_aload_n (pc := 123) dX8_pairs_123 rfl ?_
    refine r_iload (pc := 124) dX8_pairs_124 rfl ?_
    refine r_iconst (pc := 126) (v := 3) dX8_pairs_126 (by decide) ?_
    obtain ⟨p_3, K0⟩ := K0
    refine s_VI (pc := 127) mX8_one (ci := 8) (a := b0) (As := [.int l6, .int 3]) dX8_pairs_127 lk_X8_67 in_X8_one mo_X8_one ⟨by decide, rfl⟩ ⟨by decide, by decide⟩ (Nat.le_of_ble_eq_true rfl) k_b0 (sr_X8_one k_b0 g_b0_3 k_b0_3 p_3 ⟨by decide, by decide⟩ ?_)
    refine r_iconst (pc := 130) (v := 1) dX8_pairs_130 (by decide) ?_
    refine r_icmp_ne (pc := 131) (tgt := 163) dX8_pairs_131 (by decide) (fun q => ?_) (fun q => ?_)
    · have K0 := K0.1 q
      exact r_le (L' := [some (.ref b0), some (.int l1), some (.int l2), some (.int l3), some (.int l4), some (.int l5), some (.int l6), some (.int 0), none]) ⟨rfl, ⟨rfl, ⟨rfl, ⟨rfl, ⟨rfl, ⟨rfl, ⟨rfl, ⟨rfl, trivial⟩⟩⟩⟩⟩⟩⟩⟩ K0
    · have K0 := K0.2 q
      refine r_aload_n (pc := 134) dX8_pairs_134 rfl ?_
      refine r_iload (pc := 135) dX8_pairs_135 rfl ?_
      refine r_iconst (pc := 137) (v := 2) dX8_pairs_137 (by decide) ?_
      refine s_VI (pc := 138) mX8_one (ci := 8) (a := b0) (As := [.int l6, .int 2]) dX8_pairs_138 lk_X8_67 in_X8_one mo_X8_one ⟨by decide, rfl⟩ ⟨by decide, by decide⟩ (Nat.le_of_ble_eq_true rfl) k_b0 (sr_X8_one k_b0 g_b0_3 k_b0_3 p_3 ⟨by decide, by decide⟩ ?_)
      refine r_aload_n (pc := 141) dX8_pairs_141 rfl ?_
      refine r_iload (pc := 142) dX8_pairs_142 rfl ?_
      refine r_iconst (pc := 144) (v := 2) dX8_pairs_144 (by decide) ?_
      refine s_VI (pc := 145) mX8_one (ci := 8) (a := b0) (As := [.int l5, .int 2]) dX8_pairs_145 lk_X8_67 in_X8_one mo_X8_one ⟨by decide, rfl⟩ ⟨by decide, by decide⟩ (Nat.le_of_ble_eq_true rfl) k_b0 (sr_X8_one k_b0 g_b0_3 k_b0_3 p_1 ⟨by decide, by decide⟩ ?_)
      refine r_isub (pc := 148) dX8_pairs_148 ?_
      refine r_i2l (pc := 149) dX8_pairs_149 ?_
      refine r_lconst (pc := 150) (v := 0) dX8_pairs_150 (by decide) ?_
      refine r_iload_n (pc := 151) dX8_pairs_151 rfl ?_
      refine r_i2l (pc := 152) dX8_pairs_152 ?_
      refine s_SI (pc := 153) mX8_in (As := [.long ((((so (gi x b0_3) (l6 : Int32).toNatClampNeg 2) - (so (gi x b0_3) (l5 : Int32).toNatClampNeg 2)) : Int32).toInt64), .long 0, .long ((l3 : Int32).toInt64)]) dX8_pairs_153 lk_X8_45 st_X8_in mo_X8_in ⟨by decide, by decide⟩ (Nat.le_of_ble_eq_true rfl) (sq_X8_in (v := ((so (gi x b0_3) (l6 : Int32).toNatClampNeg 2) - (so (gi x b0_3) (l5 : Int32).toNatClampNeg 2))) (lo := 0) (hi := l3) rfl (by decide) rfl ?_)
      refine r_if_eq (pc := 156) (tgt := 163) dX8_pairs_156 (by decide) (fun q => ?_) (fun q => ?_)
      · have q := (b2i_z _).mp q
        have K0 := K0.1 q
        exact r_le (L' := [some (.ref b0), some (.int l1), some (.int l2), some (.int l3), some (.int l4), some (.int l5), some (.int l6), some (.int 0), none]) ⟨rfl, ⟨rfl, ⟨rfl, ⟨rfl, ⟨rfl, ⟨rfl, ⟨rfl, ⟨rfl, trivial⟩⟩⟩⟩⟩⟩⟩⟩ K0
      · have q := b2i_nz q
        have K0 := K0.2 q
        refine r_iconst (pc := 159) (v := 1) dX8_pairs_159 (by decide) ?_
        refine r_goto (pc := 160) (tgt := 164) dX8_pairs_160 (by decide) ?_
        refine r_istore (pc := 164) dX8_pairs_164 (by decide) ?_
        refine r_iload (pc := 166) (L := [some (.ref b0), some (.int l1), some (.int l2), some (.int l3), some (.int l4), some (.int l5), some (.int l6), some (.int 0), some (.int 1)]) dX8_pairs_166 rfl ?_
        refine r_iload (pc := 168) dX8_pairs_168 rfl ?_
        refine r_if_eq (pc := 170) (tgt := 198) dX8_pairs_170 (by decide) (fun _ => ?_) (fun q => by first | exact absurd q (by decide) | exact absurd (by decide) q)
        refine r_iconst (pc := 198) (v := 0) dX8_pairs_198 (by decide) ?_
        refine r_iadd (pc := 199) dX8_pairs_199 ?_
        refine r_istore (pc := 200) dX8_pairs_200 (by decide) ?_
        refine r_iinc (pc := 202) (L := [some (.ref b0), some (.int l1), some (.int l2), some (.int l3), some (.int (l4 + 0)), some (.int l5), some (.int l6), some (.int 0), some (.int 1)]) (v := l6 + 1) dX8_pairs_202 rfl rfl (by decide) ?_
        refine r_goto (pc := 205) (L := [some (.ref b0), some (.int l1), some (.int l2), some (.int l3), some (.int (l4 + 0)), some (.int l5), some (.int (l6 + 1)), some (.int 0), some (.int 1)]) (tgt := 51) dX8_pairs_205 (by decide) ?_
        exact r_le (L' := [some (.ref b0), some (.int l1), some (.int l2), some (.int l3), some (.int (l4 + 0)), some (.int l5), some (.int (l6 + 1)), none, none]) ⟨rfl, ⟨rfl, ⟨rfl, ⟨rfl, ⟨rfl, ⟨rfl, ⟨rfl, trivial⟩⟩⟩⟩⟩⟩⟩ K0
set_option maxHeartbeats 2000000 in
theorem v_X8_pairs_163 {K : Sh} {x : Cn} {Q : Int32 → Cn → Prop} {b0 : Nat} {l1 : Int32} {l2 : Int32} {l3 : Int32} {l4 : Int32} {l5 : Int32} {l6 : Int32} {l7 : Int32}   (K0 : (l7 = 0 → (GI mX8_pairs 51 [some (.ref b0), some (.int l1), some (.int l2), some (.int l3), some (.int (l4 + 0)), some (.int l5), some (.int (l6 + 1)), none, none] [] K x Q)) ∧ (¬ l7 = 0 → (GI mX8_pairs 51 [some (.ref b0), some (.int l1), some (.int l2), some (.int l3), some (.int (l4 + 0)), some (.int l5), some (.int (l6 + 1)), none, none] [] K x Q))) : GI mX8_pairs 163 [some (.ref b0), some (.int l1), some (.int l2), some (.int l3), some (.int l4), some (.int l5), some (.int l6), some (.int l7), none] [] K x Q := by
  show mGM mX8_pairs 163 [some (.ref b0), some (.int l1), some (.int l2), some (.int l3), some (.int l4), some (.int l5), some (.int l6), some (.int l7), none] [] (hp K x) (PI K Q)
  refine r_iconst (pc := 163) (v := 0) dX8_pairs_163 (by decide) ?_
  refine r_istore (pc := 164) dX8_pairs_164 (by decide) ?_
  refine r_iload (pc := 166) (L := [some (.ref b0), some (.int l1), some (.int l2), some (.int l3), some (.int l4), some (.int l5), some (.int l6), some (.int l7), some (.int 0)]) dX8_pairs_166 rfl ?_
  refine r_iload (pc := 168) dX8_pairs_168 rfl ?_
  refine r_if_eq (pc := 170) (tgt := 198) dX8_pairs_170 (by decide) (fun q => ?_) (fun q => ?_)
  · have K0 := K0.1 q
    refine r_iconst (pc := 198) (v := 0) dX8_pairs_198 (by decide) ?_
    refine r_iadd (pc := 199) dX8_pairs_199 ?_
    refine r_istore (pc := 200) dX8_pairs_200 (by decide) ?_
    refine r_iinc (pc := 202) (L := [some (.ref b0), some (.int l1), some (.int l2), some (.int l3), some (.int (l4 + 0)), some (.int l5), some (.int l6), some (.int l7), some (.int 0)]) (v := l6 + 1) dX8_pairs_202 rfl rfl (by decide) ?_
    refine r_goto (pc := 205) (L := [some (.ref b0), some (.int l1), some (.int l2), some (.int l3), some (.int (l4 + 0)), some (.int l5), some (.int (l6 + 1)), some (.int l7), some (.int 0)]) (tgt := 51) dX8_pairs_205 (by decide) ?_
    exact r_le (L' := [some (.ref b0), some (.int l1), some (.int l2), some (.int l3), some (.int (l4 + 0)), some (.int l5), some (.int (l6 + 1)), none, none]) ⟨rfl, ⟨rfl, ⟨rfl, ⟨rfl, ⟨rfl, ⟨rfl, ⟨rfl, trivial⟩⟩⟩⟩⟩⟩⟩ K0
  · have K0 := K0.2 q
    refine r_iload (pc := 173) dX8_pairs_173 rfl ?_
    refine r_if_eq (pc := 175) (tgt := 198) dX8_pairs_175 (by decide) (fun _ => ?_) (fun q => by first | exact absurd q (by decide) | exact absurd (by decide) q)
    refine r_iconst (pc := 198) (v := 0) dX8_pairs_198 (by decide) ?_
    refine r_iadd (pc := 199) dX8_pairs_199 ?_
    refine r_istore (pc := 200) dX8_pairs_200 (by decide) ?_
    refine r_iinc (pc := 202) (L := [some (.ref b0), some (.int l1), some (.int l2), some (.int l3), some (.int (l4 + 0)), some (.int l5), some (.int l6), some (.int l7), some (.int 0)]) (v := l6 + 1) dX8_pairs_202 rfl rfl (by decide) ?_
    refine r_goto (pc := 205) (L := [some (.ref b0), some (.int l1), some (.int l2), some (.int l3), some (.int (l4 + 0)), some (.int l5), some (.int (l6 + 1)), some (.int l7), some (.int 0)]) (tgt := 51) dX8_pairs_205 (by decide) ?_
    exact r_le (L' := [some (.ref b0), some (.int l1), some (.int l2), some (.int l3), some (.int (l4 + 0)), some (.int l5), some (.int (l6 + 1)), none, none]) ⟨rfl, ⟨rfl, ⟨rfl, ⟨rfl, ⟨rfl, ⟨rfl, ⟨rfl, trivial⟩⟩⟩⟩⟩⟩⟩ K0
theorem eq_pairs (a b c : Int32) : Both mX7_pairs mX8_pairs [.int a, .int b, .int c] := by
  intro x R
  obtain ⟨W, C, S, A, N, E, ⟨hc, -⟩, -⟩ := R.sea
  have hn := E.nums
  have ht := Rel.t2 E
  have hS : S ≤ 24 := hn.2.2.2.2.2.2.1
  have hC : C ≤ 8 := hn.2.2.2.2.2.1
  have iC := inN' (v := a) (n := C) (by omega)
  have rf : mSI mX8_pairs [.ref 717, .int a, .int b, .int c] KW x (fun r' z => (if (0 ≤ a ∧ a < nI C) ∧ (0 < nI W ∧ 0 ≤ b ∧ b < 7) ∧ (0 ≤ c ∧ c ≤ 23) then accT (stP (gi x 718) S a b c) S 0 else -2) = r' ∧ Rel z) := by
    refine v_X8_pairs_0 km R.2.1.1 km1 ⟨v0 (k := 1) (by decide) rfl rfl, ?_⟩
    rw [ht.2.1, iC, ht.1, d7]
    refine ⟨fun z => ⟨if_neg (fun w => z w.1), R⟩, fun z => ⟨v0 (k := 0) (by decide) rfl rfl, fun z2 => ⟨if_neg (fun w => z2 w.2.1), R⟩, fun z2 => ⟨fun z3 => ?_, fun z3 => ⟨if_neg (fun w => z3 w.2.2), R⟩⟩⟩⟩
    rw [if_pos ⟨z, z2, z3⟩]
    refine lp_acc (stP (gi x 718) S a b c) (fun s n => GI mX8_pairs 37 [some (.ref 717), some (.int a), some (.int b), some (.int c), some (.int n), some (.int (nI s)), none, none, none] [] KW x _) S 0 ?_ (fun s n hs n1 => ?_)
    · exact v_X8_pairs_37 km R.2.1.1 km1 ⟨v0 (k := 2) (by decide) rfl rfl, fun _ => ⟨rfl, R⟩, fun z => absurd (by rw [ht.2.2.1]; exact Int32.le_refl _) z⟩
    · refine v_X8_pairs_37 km R.2.1.1 km1 ⟨v0 (k := 2) (by decide) rfl rfl, fun z => absurd (by rw [ht.2.2.1] at z; exact z) (nI_ge hs (by omega)), fun _ => ?_⟩
      refine lp_acc (inc (fun t => ppo (gi x 718) a b s ∧ pcr (gi x 718) c s t)) (fun t n => GI mX8_pairs 51 [some (.ref 717), some (.int a), some (.int b), some (.int c), some (.int n), some (.int (nI s)), some (.int (nI t)), none, none] [] KW x _) S n ?_ (fun t n ht2 m1 => ?_)
      · refine v_X8_pairs_51 km R.2.1.1 km1 R.2.1.2.2.1 km1 ⟨v0 (k := 2) (by decide) rfl rfl, fun _ => ?_, fun z => absurd (by rw [ht.2.2.1]; exact Int32.le_refl _) z⟩
        rw [nI_1]
        refine n1 _ ?_
        unfold stP addS
        by_cases h : ppo (gi x 718) a b s
        · rw [if_pos h, inc_cg (d := pcr (gi x 718) c s) n (fun t => ⟨fun z => z.2, fun z => ⟨h, z⟩⟩)]
          exact (inc_off n S).symm
        · rw [if_neg h]
          exact (inc_no n (fun t z => h z.1) S).symm
      · have l1 : l24 (nI s) 518 := l24_nI (by omega) rfl
        have l2 : l24 (nI t) 518 := l24_nI (by omega) rfl
        have m2 : ¬ (ppo (gi x 718) a b s ∧ pcr (gi x 718) c s t) → GI mX8_pairs 51 [some (.ref 717), some (.int a), some (.int b), some (.int c), some (.int (n + 0)), some (.int (nI s)), some (.int (nI t + 1)), none, none] [] KW x (fun r' z => accT (stP (gi x 718) S a b c) S 0 = r' ∧ Rel z) := fun z => by rw [Int32.add_zero, nI_1]; exact m1 _ (if_neg z)
        have m163 : ∀ v : Int32, ¬ (ppo (gi x 718) a b s ∧ pcr (gi x 718) c s t) → GI mX8_pairs 163 [some (.ref 717), some (.int a), some (.int b), some (.int c), some (.int n), some (.int (nI s)), some (.int (nI t)), some (.int v), none] [] KW x (fun r' z => accT (stP (gi x 718) S a b c) S 0 = r' ∧ Rel z) := fun v z => v_X8_pairs_163 ⟨fun _ => m2 z, fun _ => m2 z⟩
        have m110 : ¬ (ppo (gi x 718) a b s ∧ pcr (gi x 718) c s t) → GI mX8_pairs 110 [some (.ref 717), some (.int a), some (.int b), some (.int c), some (.int n), some (.int (nI s)), some (.int (nI t)), none, none] [] KW x (fun r' z => accT (stP (gi x 718) S a b c) S 0 = r' ∧ Rel z) := fun z => v_X8_pairs_110 km R.2.1.2.2.1 km1 ⟨l1, fun _ => m163 _ z, fun _ => ⟨l2, fun _ => m163 _ z, fun _ => ⟨fun _ => m163 _ z, fun _ => m2 z⟩⟩⟩
        refine v_X8_pairs_51 km R.2.1.1 km1 R.2.1.2.2.1 km1 ⟨v0 (k := 2) (by decide) rfl rfl, fun z => absurd (by rw [ht.2.2.1] at z; exact z) (nI_ge ht2 (by omega)), fun _ => ⟨l1, ?_⟩⟩
        rw [nI_clamp (show s < 2 ^ 31 by omega), nI_clamp (show t < 2 ^ 31 by omega)]
        refine ⟨fun z => m110 (fun w => z w.1.1), fun z1 => ⟨l2, fun z => m110 (fun w => z (w.2.1.trans w.1.1)), fun z2 => ⟨fun z => m110 (fun w => z w.1.2.1), fun z3 => ⟨fun z => m110 (fun w => z (w.2.2.1.trans w.1.2.1)), fun z4 => ⟨fun z => m163 _ (fun w => z w.1.2.2), fun z5 => ⟨fun z => m163 _ (fun w => z w.2.2.2.1), fun z6 => ⟨fun z => m163 _ (fun w => z w.2.2.2.2.1), fun z7 => ⟨fun z => m2 (fun w => w.2.2.2.2.2 (by rw [Int32.and_comm]; exact z)), fun z8 => ?_⟩⟩⟩⟩⟩⟩⟩⟩
        rw [nI_1]
        exact m1 _ (if_pos ⟨⟨z1, z3, z5⟩, z2.trans z1.symm, z4.trans z3.symm, z6, z7, fun z => z8 (by rw [Int32.and_comm]; exact z)⟩)
  refine v_X7_pairs_0 k0 R.1.2.2.1 (by decide) R.1.2.1 (ks0 E.1) ?_
  rw [hc, hn.1]
  refine ⟨fun z => by rwa [if_neg (fun w => z w.1)] at rf, fun z => ⟨fun z2 => by rwa [if_neg (fun w => z2 w.2.1)] at rf, fun z2 => ⟨fun z3 => ?_, fun z3 => by rwa [if_neg (fun w => z3 w.2.2)] at rf⟩⟩⟩
  rw [if_pos ⟨z, z2, z3⟩] at rf
  have hb : ¬ b = -1 := by
    intro e
    rw [e] at z2
    exact absurd z2.2.1 (by decide)
  refine lp_acc (stP (gi x 718) S a b c) (fun s n => GI mX7_pairs 35 [some (.ref 0), some (.int a), some (.int b), some (.int c), some (.int n), some (.int (nI s)), none] [] KW x _) S 0 ?_ (fun s n hs n1 => ?_)
  · exact v_X7_pairs_35 k0 R.1.2.1 (ks0 E.1) E.2.1.2.2.1 (ks3 E.1) ⟨fun _ => rf, fun z => absurd (by rw [hn.2.2.1]; exact Int32.le_refl _) z⟩
  · obtain ⟨p, e1, e2, e3, e4, -, e6⟩ := E.ser hs
    refine v_X7_pairs_35 k0 R.1.2.1 (ks0 E.1) E.2.1.2.2.1 (ks3 E.1) ⟨fun z => absurd (by rw [hn.2.2.1] at z; exact z) (nI_ge hs (by omega)), fun _ => ⟨vp_in_nI (by omega) (by decide), p, by rw [nI_clamp (by omega)]; exact e1, e2, ?_⟩⟩
    rw [e3.1 0 (by decide) (by decide), e3.1 1 (by decide) (by decide), e3.1 3 (by decide) (by decide), nI_1]
    refine ⟨fun z => n1 _ (if_neg (fun w => z ⟨w.1, Or.inr w.2.1⟩)), fun z4 => ⟨fun z => n1 _ (if_neg (fun w => z w.2.2)), fun z5 => ?_⟩⟩
    exact sp_X7_departuresBehind R.1 E hs e2 e3 (n1 _ (if_pos ⟨z4.1, z4.2.resolve_left hb, z5⟩))
end
/-! 40.fits.lean.txt -/
section
theorem ldB_nW0 {T : TT} {w : Nat} {d h b wo : Int32} (hwo : ∀ s, s < 24 → (tb wo s = true ↔ nI s = b)) : ∀ S, S ≤ 24 → ldB T S w d h 0 b = nI (nW T S w d h 0 wo) := by
  intro S
  induction S with
  | zero => intro _; rfl
  | succ S ih =>
    intro hS
    have i1 := ih (by omega)
    have hw := hwo S (by omega)
    unfold nW at i1 ⊢
    simp only [cnt]
    by_cases z : cB T S w d h 0 b
    · rw [ldB_t z, i1, if_pos (by unfold cW; simp [z.2.1, z.2.2.1, z.2.2.2.2, show tb wo S = false from Bool.eq_false_iff.mpr (fun e => z.1 (hw.mp e))]), nI_1]
    · rw [ldB_f z, i1, if_neg, Nat.add_zero]
      intro g
      unfold cW at g
      simp only [Bool.and_eq_true, decide_eq_true_eq] at g
      exact z ⟨fun e => g.1.2.2.1 (hw.mpr e), g.1.1, g.1.2.1, Or.inl (by decide), g.2⟩
theorem ldB_nW1 {T : TT} {w : Nat} {d h b wo : Int32} (hwo : ∀ s, s < 24 → (tb wo s = true ↔ nI s = b)) : ∀ S, S ≤ 24 → ldB T S w d h 1 b = nI (nW T S w d h 1 wo) := by
  intro S
  induction S with
  | zero => intro _; rfl
  | succ S ih =>
    intro hS
    have i1 := ih (by omega)
    have hw := hwo S (by omega)
    unfold nW at i1 ⊢
    simp only [cnt]
    by_cases z : cB T S w d h 1 b
    · have z3 : so T S 3 = 0 := z.2.2.2.1.resolve_left (by decide)
      rw [ldB_t z, i1, if_pos (by unfold cW; simp [z.2.1, z.2.2.1, z.2.2.2.2, z3, show tb wo S = false from Bool.eq_false_iff.mpr (fun e => z.1 (hw.mp e))]), nI_1]
    · rw [ldB_f z, i1, if_neg, Nat.add_zero]
      intro g
      unfold cW at g
      simp only [Bool.and_eq_true, decide_eq_true_eq] at g
      exact z ⟨fun e => g.1.2.2.1 (hw.mpr e), g.1.1, g.1.2.1, Or.inr (g.1.2.2.2.resolve_right (by decide)), g.2⟩
theorem wo_0 : ∀ s, s < 24 → (tb 0 s = true ↔ nI s = -1) := fun s hs => by
  rw [tb_0]
  constructor
  · intro z; cases z
  · intro z
    have := nI_pos (n := s) (by omega)
    rw [z] at this
    exact absurd (by decide) this
theorem wo_1 {t : Nat} (ht : t < 24) : ∀ s, s < 24 → (tb ((1 : Int32) <<< (nI t &&& 31)) s = true ↔ nI s = nI t) := fun s hs => by
  rw [tb_one t (by omega) s (by omega), decide_eq_true_eq, nI_eq (by omega) (by omega)]
theorem fitC_bits {T : TT} {S N : Nat} {d : Int32} {h : Nat} {way b1 b2 wo : Int32} (g : ∀ i, i < 32 → N ≤ i → tb b1 i = tb b2 i) : fitC T S N d h way b1 wo ↔ fitC T S N d h way b2 wo :=
  ⟨fun f i hi h1 h2 => f i hi (by rw [g i hi h2]; exact h1) h2, fun f i hi h1 h2 => f i hi (by rw [← g i hi h2]; exact h1) h2⟩
theorem tb_fn {W N i : Nat} (hW : W ≤ 30) (hN : N ≤ W) (hi : i < 32) (h0 : 0 < W) : tb (f_span (nI N) (nI W - 1)) i = decide (N ≤ i ∧ i < W) := by
  obtain ⟨w, rfl⟩ : ∃ w, W = w + 1 := ⟨W - 1, by omega⟩
  rw [nI_pred, tb_span0 N (by omega) w (by omega) i hi]
  apply decide_eq_decide.mpr
  omega
set_option maxHeartbeats 2000000 in
theorem v_X8_canBe_0 {K : Sh} {x : Cn} {Q : Int32 → Cn → Prop} {b0 : Nat} {l1 : Int32} {l2 : Int32} {l3 : Int32} {l4 : Int32} {l5 : Int32}   (K0 : GI mX8_canBe 3 [some (.ref b0), some (.int l1), some (.int l2), some (.int l3), some (.int l4), some (.int l5), some (.int 0)] [] K x Q) : mSI mX8_canBe [.ref b0, .int l1, .int l2, .int l3, .int l4, .int l5] K x Q := by
  refine s_I (by decide) (by simp [Value.category]) (Nat.le_of_ble_eq_true rfl) ?_
  show mGM mX8_canBe 0 [some (.ref b0), some (.int l1), some (.int l2), some (.int l3), some (.int l4), some (.int l5), none] [] (hp K x) (PI K Q)
  refine r_iconst (pc := 0) (v := 0) dX8_canBe_0 (by decide) ?_
  refine r_istore (pc := 1) dX8_canBe_1 (by decide) ?_
  exact r_le (L' := [some (.ref b0), some (.int l1), some (.int l2), some (.int l3), some (.int l4), some (.int l5), some (.int 0)]) ⟨rfl, ⟨rfl, ⟨rfl, ⟨rfl, ⟨rfl, ⟨rfl, ⟨rfl, trivial⟩⟩⟩⟩⟩⟩⟩ K0
set_option maxHeartbeats 2000000 in
theorem v_X8_canBe_3 {K : Sh} {x : Cn} {Q : Int32 → Cn → Prop} {b0 : Nat} {l1 : Int32} {l2 : Int32} {l3 : Int32} {l4 : Int32} {l5 : Int32} {l6 : Int32} {b0_3 : Nat} {n_b0_3 : Nat} (k_b0 : kk K b0 = some (8, 0)) (g_b0_3 : gr x b0 3 = some b0_3) (k_b0_3 : kk K b0_3 = some (20, n_b0_3)) (K0 : vp_in 0 n_b0_3 ∧ (((gi x b0_3 0) ≤ l6 → (Q 1 x)) ∧ (¬ (gi x b0_3 0) ≤ l6 → (vp_in 4 n_b0_3 ∧ (((f_has (l1 &&& (f_span (gi x b0_3 4) (gi x b0_3 0 - 1))) l6) → (mSI mX8_loadBut [.ref b0, .int l6, .int l2, .int l3, .int 0, .int l5] K x (fun r_6 y_5 => gr y_5 b0 3 = some b0_3 ∧ (vp_in (6 + (2 * l3)) n_b0_3 ∧ ((r_6 < (gi y_5 b0_3 ((6 + (2 * l3)) : Int32).toNatClampNeg) → ((¬ l4 = 0 → (GI mX8_canBe 3 [some (.ref b0), some (.int l1), some (.int l2), some (.int l3), some (.int l4), some (.int l5), some (.int (l6 + 1))] [] K y_5 Q)) ∧ (l4 = 0 → (mSI mX8_loadBut [.ref b0, .int l6, .int l2, .int l3, .int 1, .int l5] K y_5 (fun r_12 y_11 => gr y_11 b0 3 = some b0_3 ∧ (vp_in ((6 + (2 * l3)) + 1) n_b0_3 ∧ ((r_12 < (gi y_11 b0_3 (((6 + (2 * l3)) + 1) : Int32).toNatClampNeg) → (GI mX8_canBe 3 [some (.ref b0), some (.int l1), some (.int l2), some (.int l3), some (.int l4), some (.int l5), some (.int (l6 + 1))] [] K y_11 Q)) ∧ (¬ r_12 < (gi y_11 b0_3 (((6 + (2 * l3)) + 1) : Int32).toNatClampNeg) → (Q 0 y_11))))))))) ∧ (¬ r_6 < (gi y_5 b0_3 ((6 + (2 * l3)) : Int32).toNatClampNeg) → (Q 0 y_5))))))) ∧ (¬ (f_has (l1 &&& (f_span (gi x b0_3 4) (gi x b0_3 0 - 1))) l6) → (GI mX8_canBe 3 [some (.ref b0), some (.int l1), some (.int l2), some (.int l3), some (.int l4), some (.int l5), some (.int (l6 + 1))] [] K x Q))))))) : GI mX8_canBe 3 [some (.ref b0), some (.int l1), some (.int l2), some (.int l3), some (.int l4), some (.int l5), some (.int l6)] [] K x Q := by
  show mGM mX8_canBe 3 [some (.ref b0), some (.int l1), some (.int l2), some (.int l3), some (.int l4), some (.int l5), some (.int l6)] [] (hp K x) (PI K Q)
  refine r_iload (pc := 3) dX8_canBe_3 rfl ?_
  refine r_aload_n (pc := 5) dX8_canBe_5 rfl ?_
  refine s_getR (pc := 6) dX8_canBe_6 fl_X8_16 rfl k_b0 g_b0_3 ?_
  refine r_iconst (pc := 9) (v := 0) dX8_canBe_9 (by decide) ?_
  obtain ⟨i_1, K0⟩ := K0
  refine s_iald (pc := 10) dX8_canBe_10 k_b0_3 i_1 ?_
  refine r_icmp_ge (pc := 11) (tgt := 98) dX8_canBe_11 (by decide) (fun q => ?_) (fun q => ?_)
  · have K0 := K0.1 q
    refine r_iconst (pc := 98) (v := 1) dX8_canBe_98 (by decide) ?_
    exact s_zret rfl (by decide) dX8_canBe_99 K0
  · have K0 := K0.2 q
    refine r_iload_n (pc := 14) dX8_canBe_14 rfl ?_
    refine r_aload_n (pc := 15) dX8_canBe_15 rfl ?_
    obtain ⟨i_3, K0⟩ := K0
    refine s_VI (pc := 16) mX8_fromNow (ci := 8) (a := b0) (As := []) dX8_canBe_16 lk_X8_82 in_X8_fromNow mo_X8_fromNow ⟨by decide, rfl⟩ ⟨by decide, by decide⟩ (Nat.le_of_ble_eq_true rfl) k_b0 (sp_X8_fromNow k_b0 g_b0_3 k_b0_3 i_3 i_1 ?_)
    refine r_iand (pc := 19) dX8_canBe_19 ?_
    refine r_iload (pc := 20) dX8_canBe_20 rfl ?_
    refine s_SI (pc := 22) mX8_has (As := [.int (l1 &&& (f_span (gi x b0_3 4) (gi x b0_3 0 - 1))), .int l6]) dX8_canBe_22 lk_X8_75 st_X8_has mo_X8_has ⟨by decide, by decide⟩ (Nat.le_of_ble_eq_true rfl) (sp_X8_has  ?_)
    refine r_if_ne (pc := 25) (tgt := 31) dX8_canBe_25 (by decide) (fun q => ?_) (fun q => ?_)
    · have q := b2i_nz q
      have K0 := K0.1 q
      refine r_aload_n (pc := 31) dX8_canBe_31 rfl ?_
      refine r_iload (pc := 32) dX8_canBe_32 rfl ?_
      refine r_iload_n (pc := 34) dX8_canBe_34 rfl ?_
      refine r_iload_n (pc := 35) dX8_canBe_35 rfl ?_
      refine r_iconst (pc := 36) (v := 0) dX8_canBe_36 (by decide) ?_
      refine r_iload (pc := 37) dX8_canBe_37 rfl ?_
      refine s_VI (pc := 39) mX8_loadBut (ci := 8) (a := b0) (As := [.int l6, .int l2, .int l3, .int 0, .int l5]) dX8_canBe_39 lk_X8_86 in_X8_loadBut mo_X8_loadBut ⟨by decide, rfl⟩ ⟨by decide, by decide⟩ (Nat.le_of_ble_eq_true rfl) k_b0 (mSI_mono K0 (fun r_6 y_5 K0 => ?_))
      refine r_aload_n (pc := 42) dX8_canBe_42 rfl ?_
      obtain ⟨g_7, K0⟩ := K0
      refine s_getR (pc := 43) dX8_canBe_43 fl_X8_16 rfl k_b0 g_7 ?_
      refine r_bipush (pc := 46) (v := 6) dX8_canBe_46 (by decide) ?_
      refine r_iconst (pc := 48) (v := 2) dX8_canBe_48 (by decide) ?_
      refine r_iload_n (pc := 49) dX8_canBe_49 rfl ?_
      refine r_imul (pc := 50) dX8_canBe_50 ?_
      refine r_iadd (pc := 51) dX8_canBe_51 ?_
      obtain ⟨i_8, K0⟩ := K0
      refine s_iald (pc := 52) dX8_canBe_52 k_b0_3 i_8 ?_
      refine r_icmp_lt (pc := 53) (tgt := 58) dX8_canBe_53 (by decide) (fun q => ?_) (fun q => ?_)
      · have K0 := K0.1 q
        refine r_iload (pc := 58) dX8_canBe_58 rfl ?_
        refine r_if_ne (pc := 60) (tgt := 92) dX8_canBe_60 (by decide) (fun q => ?_) (fun q => ?_)
        · have K0 := K0.1 q
          refine r_iinc (pc := 92) (v := l6 + 1) dX8_canBe_92 rfl rfl (by decide) ?_
          refine r_goto (pc := 95) (L := [some (.ref b0), some (.int l1), some (.int l2), some (.int l3), some (.int l4), some (.int l5), some (.int (l6 + 1))]) (tgt := 3) dX8_canBe_95 (by decide) ?_
          exact r_le (L' := [some (.ref b0), some (.int l1), some (.int l2), some (.int l3), some (.int l4), some (.int l5), some (.int (l6 + 1))]) ⟨rfl, ⟨rfl, ⟨rfl, ⟨rfl, ⟨rfl, ⟨rfl, ⟨rfl, trivial⟩⟩⟩⟩⟩⟩⟩ K0
        · have K0 := K0.2 q
          refine r_aload_n (pc := 63) dX8_canBe_63 rfl ?_
          refine r_iload (pc := 64) dX8_canBe_64 rfl ?_
          refine r_iload_n (pc := 66) dX8_canBe_66 rfl ?_
          refine r_iload_n (pc := 67) dX8_canBe_67 rfl ?_
          refine r_iconst (pc := 68) (v := 1) dX8_canBe_68 (by decide) ?_
          refine r_iload (pc := 69) dX8_canBe_69 rfl ?_
          refine s_VI (pc := 71) mX8_loadBut (ci := 8) (a := b0) (As := [.int l6, .int l2, .int l3, .int 1, .int l5]) dX8_canBe_71 lk_X8_86 in_X8_loadBut mo_X8_loadBut ⟨by decide, rfl⟩ ⟨by decide, by decide⟩ (Nat.le_of_ble_eq_true rfl) k_b0 (mSI_mono K0 (fun r_12 y_11 K0 => ?_))
          refine r_aload_n (pc := 74) dX8_canBe_74 rfl ?_
          obtain ⟨g_13, K0⟩ := K0
          refine s_getR (pc := 75) dX8_canBe_75 fl_X8_16 rfl k_b0 g_13 ?_
          refine r_bipush (pc := 78) (v := 6) dX8_canBe_78 (by decide) ?_
          refine r_iconst (pc := 80) (v := 2) dX8_canBe_80 (by decide) ?_
          refine r_iload_n (pc := 81) dX8_canBe_81 rfl ?_
          refine r_imul (pc := 82) dX8_canBe_82 ?_
          refine r_iadd (pc := 83) dX8_canBe_83 ?_
          refine r_iconst (pc := 84) (v := 1) dX8_canBe_84 (by decide) ?_
          refine r_iadd (pc := 85) dX8_canBe_85 ?_
          obtain ⟨i_14, K0⟩ := K0
          refine s_iald (pc := 86) dX8_canBe_86 k_b0_3 i_14 ?_
          refine r_icmp_lt (pc := 87) (tgt := 92) dX8_canBe_87 (by decide) (fun q => ?_) (fun q => ?_)
          · have K0 := K0.1 q
            refine r_iinc (pc := 92) (v := l6 + 1) dX8_canBe_92 rfl rfl (by decide) ?_
            refine r_goto (pc := 95) (L := [some (.ref b0), some (.int l1), some (.int l2), some (.int l3), some (.int l4), some (.int l5), some (.int (l6 + 1))]) (tgt := 3) dX8_canBe_95 (by decide) ?_
            exact r_le (L' := [some (.ref b0), some (.int l1), some (.int l2), some (.int l3), some (.int l4), some (.int l5), some (.int (l6 + 1))]) ⟨rfl, ⟨rfl, ⟨rfl, ⟨rfl, ⟨rfl, ⟨rfl, ⟨rfl, trivial⟩⟩⟩⟩⟩⟩⟩ K0
          · have K0 := K0.2 q
            refine r_iconst (pc := 90) (v := 0) dX8_canBe_90 (by decide) ?_
            exact s_zret rfl (by decide) dX8_canBe_91 K0
      · have K0 := K0.2 q
        refine r_iconst (pc := 56) (v := 0) dX8_canBe_56 (by decide) ?_
        exact s_zret rfl (by decide) dX8_canBe_57 K0
    · have q := (b2i_z _).mp q
      have K0 := K0.2 q
      refine r_goto (pc := 28) (tgt := 92) dX8_canBe_28 (by decide) ?_
      refine r_iinc (pc := 92) (v := l6 + 1) dX8_canBe_92 rfl rfl (by decide) ?_
      refine r_goto (pc := 95) (L := [some (.ref b0), some (.int l1), some (.int l2), some (.int l3), some (.int l4), some (.int l5), some (.int (l6 + 1))]) (tgt := 3) dX8_canBe_95 (by decide) ?_
      exact r_le (L' := [some (.ref b0), some (.int l1), some (.int l2), some (.int l3), some (.int l4), some (.int l5), some (.int (l6 + 1))]) ⟨rfl, ⟨rfl, ⟨rfl, ⟨rfl, ⟨rfl, ⟨rfl, ⟨rfl, trivial⟩⟩⟩⟩⟩⟩⟩ K0
section
variable {x : Cn} {Q : Int32 → Cn → Prop}
theorem sp_X8_canBe {t : Nat} (M : MRf x t) (ht : kk KW t = some (20, 518)) {W C S A N : Nat} (F : WF (gi x t) W C S A N) {d way bits b wo : Int32} {h : Nat} (hh : h < 24) (hw : way = 0 ∨ way = 1) (hb : ∀ i, i < 32 → tb bits i = true → N ≤ i → i < W) (hwo : ∀ s, s < 24 → (tb wo s = true ↔ nI s = b)) (k : Q (bP (fitC (gi x t) S N d h way bits wo)) x) : mSI mX8_canBe [.ref 717, .int bits, .int d, .int (nI h), .int way, .int b] KW x Q := by
  obtain ⟨t0, t1, hW, t2, t3, t4, hS, t6, t7, t8, hN, hl, -, -⟩ := F
  have key : ∀ n w, w + n = W → (∀ i, i < w → tb bits i = true → N ≤ i → ¬ gi x t (6 + 2 * h) ≤ nI (nW (gi x t) S i d (nI h) 0 wo) ∧ (¬ way = 1 → ¬ gi x t (7 + 2 * h) ≤ nI (nW (gi x t) S i d (nI h) 1 wo))) → GI mX8_canBe 3 [some (.ref 717), some (.int bits), some (.int d), some (.int (nI h)), some (.int way), some (.int b), some (.int (nI w))] [] KW x Q := by
    intro n
    induction n with
    | zero =>
      intro w hw2 g
      refine v_X8_canBe_3 km M.2.2.1 ht ⟨v0 (k := 0) (by decide) rfl rfl, fun _ => ?_, fun z => absurd (by rw [t0]; exact nI_le (by omega) (by omega)) z⟩
      exact (bP_k k).1 (fun i hi h1 h2 => g i (by have := hb i hi h1 h2; omega) h1 h2)
    | succ n ih =>
      intro w hw2 g
      have nx : (tb bits w = true → N ≤ w → ¬ gi x t (6 + 2 * h) ≤ nI (nW (gi x t) S w d (nI h) 0 wo) ∧ (¬ way = 1 → ¬ gi x t (7 + 2 * h) ≤ nI (nW (gi x t) S w d (nI h) 1 wo))) → GI mX8_canBe 3 [some (.ref 717), some (.int bits), some (.int d), some (.int (nI h)), some (.int way), some (.int b), some (.int (nI w + 1))] [] KW x Q := by
        intro gg
        rw [nI_1]
        refine ih (w + 1) (by omega) (fun i hi => ?_)
        by_cases c : i = w
        · rw [c]; exact gg
        · exact g i (by omega)
      refine v_X8_canBe_3 km M.2.2.1 ht ⟨v0 (k := 0) (by decide) rfl rfl, fun z => absurd (by rw [t0] at z; exact z) (nI_ge (by omega) (by omega)), fun _ => ⟨v0 (k := 4) (by decide) rfl rfl, ?_⟩⟩
      rw [f_has_tb _ (by omega), tb_and, t8, t0, tb_fn hW hN (by omega) (by omega)]
      refine ⟨fun z => ?_, fun z => nx (fun z1 z2 => absurd (by rw [z1, decide_eq_true (by omega)]; rfl) z)⟩
      simp only [Bool.and_eq_true, decide_eq_true_eq] at z
      refine sp_X8_loadBut M ht t4 hS (by omega) ⟨M.2.2.1, ?_⟩
      rw [ixh1, ixh, nI_clamp (show 6 + 2 * h < 2 ^ 31 by omega), nI_clamp (show 7 + 2 * h < 2 ^ 31 by omega), ldB_nW0 hwo S hS]
      refine ⟨vp_in_nI (by omega) (by decide), fun z2 => ⟨fun z3 => nx (fun _ _ => ⟨Int32.not_le.mpr z2, fun u => absurd (hw.resolve_left z3) u⟩), fun z3 => ?_⟩, fun z2 => ?_⟩
      · refine sp_X8_loadBut M ht t4 hS (by omega) ⟨M.2.2.1, vp_in_nI (by omega) (by decide), ?_⟩
        rw [ldB_nW1 hwo S hS]
        refine ⟨fun z4 => nx (fun _ _ => ⟨Int32.not_le.mpr z2, fun _ => Int32.not_le.mpr z4⟩), fun z4 => ?_⟩
        exact (bP_k k).2 (fun f => (f w (by omega) z.1 z.2.1).2 (by rw [z3]; decide) (Int32.not_lt.mp z4))
      · exact (bP_k k).2 (fun f => (f w (by omega) z.1 z.2.1).1 (Int32.not_lt.mp z2))
  exact v_X8_canBe_0 (key W 0 (by omega) (fun i hi => absurd hi (by omega)))
/-- an ask fits -/
abbrev fitA (T : TT) (S N a h : Nat) (wo : Int32) : Prop := fitC T S N (ao T a 1) h (ao T a 3) (f_sb (ao T a 4) (ao T a 5)) wo
end
set_option maxHeartbeats 2000000 in
theorem v_X8_canAsk_0 {K : Sh} {x : Cn} {Q : Int32 → Cn → Prop} {b0 : Nat} {l1 : Int32} {l2 : Int32} {l3 : Int32} {b0_3 : Nat} {n_b0_3 : Nat} (k_b0 : kk K b0 = some (8, 0)) (g_b0_3 : gr x b0 3 = some b0_3) (k_b0_3 : kk K b0_3 = some (20, n_b0_3)) (K0 : (l24 l1 n_b0_3) ∧ (mSI mX8_canBe [.ref b0, .int (f_span (ao (gi x b0_3) (l1 : Int32).toNatClampNeg 4) (ao (gi x b0_3) (l1 : Int32).toNatClampNeg 5) &&& f_span (gi x b0_3 4) (gi x b0_3 0 - 1)), .int (ao (gi x b0_3) (l1 : Int32).toNatClampNeg 1), .int l2, .int (ao (gi x b0_3) (l1 : Int32).toNatClampNeg 3), .int l3] K x (fun r_3 y_2 => (r_3 = 0 ∨ r_3 = 1) ∧ (Q r_3 y_2)))) : mSI mX8_canAsk [.ref b0, .int l1, .int l2, .int l3] K x Q := by
  refine s_I (by decide) (by simp [Value.category]) (Nat.le_of_ble_eq_true rfl) ?_
  show mGM mX8_canAsk 0 [some (.ref b0), some (.int l1), some (.int l2), some (.int l3)] [] (hp K x) (PI K Q)
  refine r_aload_n (pc := 0) dX8_canAsk_0 rfl ?_
  refine r_aload_n (pc := 1) dX8_canAsk_1 rfl ?_
  refine r_iload_n (pc := 2) dX8_canAsk_2 rfl ?_
  obtain ⟨p_1, K0⟩ := K0
  refine s_VI (pc := 3) mX8_weeksOf (ci := 8) (a := b0) (As := [.int l1]) dX8_canAsk_3 lk_X8_326 in_X8_weeksOf mo_X8_weeksOf ⟨by decide, rfl⟩ ⟨by decide, by decide⟩ (Nat.le_of_ble_eq_true rfl) k_b0 (sr_X8_weeksOf k_b0 g_b0_3 k_b0_3 p_1 ?_)
  refine r_aload_n (pc := 6) dX8_canAsk_6 rfl ?_
  refine r_iload_n (pc := 7) dX8_canAsk_7 rfl ?_
  refine r_iconst (pc := 8) (v := 1) dX8_canAsk_8 (by decide) ?_
  refine s_VI (pc := 9) mX8_ask0 (ci := 8) (a := b0) (As := [.int l1, .int 1]) dX8_canAsk_9 lk_X8_284 in_X8_ask0 mo_X8_ask0 ⟨by decide, rfl⟩ ⟨by decide, by decide⟩ (Nat.le_of_ble_eq_true rfl) k_b0 (sr_X8_ask0 k_b0 g_b0_3 k_b0_3 p_1 ⟨by decide, by decide⟩ ?_)
  refine r_iload_n (pc := 12) dX8_canAsk_12 rfl ?_
  refine r_aload_n (pc := 13) dX8_canAsk_13 rfl ?_
  refine r_iload_n (pc := 14) dX8_canAsk_14 rfl ?_
  refine r_iconst (pc := 15) (v := 3) dX8_canAsk_15 (by decide) ?_
  refine s_VI (pc := 16) mX8_ask0 (ci := 8) (a := b0) (As := [.int l1, .int 3]) dX8_canAsk_16 lk_X8_284 in_X8_ask0 mo_X8_ask0 ⟨by decide, rfl⟩ ⟨by decide, by decide⟩ (Nat.le_of_ble_eq_true rfl) k_b0 (sr_X8_ask0 k_b0 g_b0_3 k_b0_3 p_1 ⟨by decide, by decide⟩ ?_)
  refine r_iload_n (pc := 19) dX8_canAsk_19 rfl ?_
  refine s_VI (pc := 20) mX8_canBe (ci := 8) (a := b0) (As := [.int (f_span (ao (gi x b0_3) (l1 : Int32).toNatClampNeg 4) (ao (gi x b0_3) (l1 : Int32).toNatClampNeg 5) &&& f_span (gi x b0_3 4) (gi x b0_3 0 - 1)), .int (ao (gi x b0_3) (l1 : Int32).toNatClampNeg 1), .int l2, .int (ao (gi x b0_3) (l1 : Int32).toNatClampNeg 3), .int l3]) dX8_canAsk_20 lk_X8_90 in_X8_canBe mo_X8_canBe ⟨by decide, rfl⟩ ⟨by decide, by decide⟩ (Nat.le_of_ble_eq_true rfl) k_b0 (mSI_mono K0 (fun r_3 y_2 K0 => ?_))
  obtain ⟨p_4, K0⟩ := K0
  exact s_zret rfl p_4 dX8_canAsk_23 K0
section
variable {x : Cn} {Q : Int32 → Cn → Prop}
theorem sp_X8_canAsk {t : Nat} (M : MRf x t) (ht : kk KW t = some (20, 518)) {W C S A N : Nat} (F : WF (gi x t) W C S A N) {b wo : Int32} {a h : Nat} (ha : a < A) (hh : h < 24) (hwo : ∀ s, s < 24 → (tb wo s = true ↔ nI s = b)) (k : Q (bP (fitA (gi x t) S N a h wo)) x) : mSI mX8_canAsk [.ref 717, .int (nI a), .int (nI h), .int b] KW x Q := by
  have hA : A ≤ 24 := F.2.2.2.2.2.2.2.2.1
  have hW : W ≤ 30 := F.2.2.1
  have hN : N ≤ W := F.2.2.2.2.2.2.2.2.2.2.1
  obtain ⟨-, -, -, a3, ⟨f, l, f1, f2, f3, f4⟩, -⟩ := F.2.2.2.2.2.2.2.2.2.2.2.2.2 a ha
  refine v_X8_canAsk_0 km M.2.2.1 ht ⟨l24_nI (by omega) rfl, ?_⟩
  rw [nI_clamp (by omega), F.1, F.2.2.2.2.2.2.2.2.2.1]
  refine sp_X8_canBe M ht F hh a3 ?_ hwo ⟨bP_01 _, ?_⟩
  · intro i hi z1 z2
    rw [tb_and, Bool.and_eq_true, tb_fn hW hN hi (by omega)] at z1
    exact (of_decide_eq_true z1.2).2
  · rw [bP_congr (fitC_bits (b2 := f_sb (ao (gi x t) a 4) (ao (gi x t) a 5)) (fun i hi h2 => ?_))]
    · exact k
    · rw [tb_and, tb_fn hW hN hi (by omega), f3, f4, sb_span (by omega) (by omega), tb_span0 f (by omega) l (by omega) i hi]
      by_cases c : f ≤ i ∧ i ≤ l
      · rw [decide_eq_true c, decide_eq_true (show N ≤ i ∧ i < W by omega)]; rfl
      · rw [decide_eq_false c]; rfl
end
set_option maxHeartbeats 2000000 in
theorem v_X4_hasPlaceFor_0 {K : Sh} {x : Cn} {Q : Int32 → Cn → Prop} {b0 : Nat} {b1 : Nat} {l2 : Int32} {l3 : Int32}  (k_b1 : kk K b1 = some (0, 0)) (k_b0 : kk K b0 = some (4, 0)) (K0 : mSI mX4_hasPlace [.ref b0, .int (gi x b1 1), .int l2, .int (gi x b1 3), .int (f_sb (gi x b1 4) (gi x b1 5)), .int l3] K x (fun r_2 y_1 => (r_2 = 0 ∨ r_2 = 1) ∧ (Q r_2 y_1))) : mSI mX4_hasPlaceFor [.ref b0, .ref b1, .int l2, .int l3] K x Q := by
  refine s_I (by decide) (by simp [Value.category]) (Nat.le_of_ble_eq_true rfl) ?_
  show mGM mX4_hasPlaceFor 0 [some (.ref b0), some (.ref b1), some (.int l2), some (.int l3)] [] (hp K x) (PI K Q)
  refine r_aload_n (pc := 0) dX4_hasPlaceFor_0 rfl ?_
  refine r_aload_n (pc := 1) dX4_hasPlaceFor_1 rfl ?_
  refine s_getI (pc := 2) dX4_hasPlaceFor_2 fl_X4_100 rfl k_b1 ?_
  refine r_iload_n (pc := 5) dX4_hasPlaceFor_5 rfl ?_
  refine r_aload_n (pc := 6) dX4_hasPlaceFor_6 rfl ?_
  refine s_getI (pc := 7) dX4_hasPlaceFor_7 fl_X4_101 rfl k_b1 ?_
  refine r_aload_n (pc := 10) dX4_hasPlaceFor_10 rfl ?_
  refine s_VI (pc := 11) mX0_wantedBits (ci := 0) (a := b1) (As := []) dX4_hasPlaceFor_11 lk_X4_102 in_X0_wantedBits mo_X0_wantedBits ⟨by decide, rfl⟩ ⟨by decide, by decide⟩ (Nat.le_of_ble_eq_true rfl) k_b1 (sp_X0_wantedBits k_b1 ?_)
  refine r_iload_n (pc := 14) dX4_hasPlaceFor_14 rfl ?_
  refine s_VI (pc := 15) mX4_hasPlace (ci := 4) (a := b0) (As := [.int (gi x b1 1), .int l2, .int (gi x b1 3), .int (f_sb (gi x b1 4) (gi x b1 5)), .int l3]) dX4_hasPlaceFor_15 lk_X4_105 in_X4_hasPlace mo_X4_hasPlace ⟨by decide, rfl⟩ ⟨by decide, by decide⟩ (Nat.le_of_ble_eq_true rfl) k_b0 (mSI_mono K0 (fun r_2 y_1 K0 => ?_))
  obtain ⟨p_3, K0⟩ := K0
  exact s_zret rfl p_3 dX4_hasPlaceFor_18 K0
section
variable {x : Cn} {Q : Int32 → Cn → Prop}
theorem sp_X4_hasPlaceFor {q : Nat} {T : TT} {W C S A N : Nat} (E : SEA x q T W C S A N) {a p h : Nat} {wo : Int32} (hp : kk KW p = some (0, 0)) (hq : ASR x p T a) (hh : h < 24) (k : ∀ y, EQx x y (q + 5) → Q (bP (fitA T S N a h wo)) y) : mSI mX4_hasPlaceFor [.ref q, .ref p, .int (nI h), .int wo] KW x Q := by
  refine v_X4_hasPlaceFor_0 hp (ks0 E.1) ?_
  rw [hq 1 (by decide), hq 3 (by decide), hq 4 (by decide), hq 5 (by decide)]
  exact sp_X4_hasPlace E hh (fun y hy => ⟨bP_01 _, k y hy⟩)
theorem span_and0 {f l N W : Nat} (h1 : f ≤ l) (h2 : l < W) (h3 : W ≤ 30) (h4 : N ≤ W) : (f_span (nI f) (nI l) &&& f_span (nI N) (nI W - 1)) = 0 ↔ l < N := by
  constructor
  · intro z
    by_cases c : l < N
    · exact c
    · have : tb (f_span (nI f) (nI l) &&& f_span (nI N) (nI W - 1)) l = true := by
        rw [tb_and, tb_span0 f (by omega) l (by omega) l (by omega), tb_fn h3 h4 (by omega) (by omega), decide_eq_true (by omega), decide_eq_true (by omega)]; rfl
      rw [z, tb_0] at this
      cases this
  · intro z
    apply tb_ext
    intro i hi
    rw [tb_and, tb_span0 f (by omega) l (by omega) i hi, tb_fn h3 h4 hi (by omega), tb_0]
    by_cases c : f ≤ i ∧ i ≤ l
    · rw [decide_eq_false (show ¬ (N ≤ i ∧ i < W) by omega), Bool.and_false]
    · rw [decide_eq_false c, Bool.false_and]
/-- the row of all is kept by what hasPlace writes -/
theorem Rel.e7 {x y : Cn} (R : Rel x) (h : EQx x y 7) : Rel y ∧ gi y 718 = gi x 718 := ⟨R.keep (Kp.of h (fun _ => Or.inl rfl)), by funext k; exact h.2 718 k (by decide)⟩
def orP (c : Nat → Int32) : Nat → Int32 → Int32 := fun s a => if c s = 0 then a else a ||| (1 <<< (nI s &&& 31))
theorem Rel.wf {x : Cn} {W C S A N : Nat} (E : SEA x 2 (gi x 718) W C S A N) : WF (gi x 718) W C S A N := E.2.2.2
end
set_option maxHeartbeats 2000000 in
theorem v_X7_fits_0 {K : Sh} {x : Cn} {Q : Int32 → Cn → Prop} {b0 : Nat} {l1 : Int32} {b0_2 : Nat} {b0_2_8 : Nat} {n_b0_2_8 : Nat} (k_b0 : kk K b0 = some (7, 0)) (g_b0_2 : gr x b0 2 = some b0_2) (k_b0_2 : kk K b0_2 = some (4, 0)) (g_b0_2_8 : gr x b0_2 8 = some b0_2_8) (k_b0_2_8 : kk K b0_2_8 = some (24, n_b0_2_8)) (K0 : ((0 ≤ l1 ∧ l1 < gi x b0_2 4) → (vp_in l1 n_b0_2_8 ∧ (∃ c_3 : Nat, gr x b0_2_8 ((l1 : Int32).toNatClampNeg) = some c_3 ∧ (kk K c_3 = some (0, 0) ∧ (((gi x b0_2 1) ≤ (gi x c_3 5) → (mSI mX4_hasPlaceFor [.ref b0_2, .ref c_3, .int (gi x c_3 2), .int 0] K x (fun r_8 y_7 => (r_8 = 0 → (Q 0 y_7)) ∧ (¬ r_8 = 0 → (Q 1 y_7))))) ∧ (¬ (gi x b0_2 1) ≤ (gi x c_3 5) → (Q (-1) x))))))) ∧ (¬ (0 ≤ l1 ∧ l1 < gi x b0_2 4) → (Q (-2) x))) : mSI mX7_fits [.ref b0, .int l1] K x Q := by
  refine s_I (by decide) (by simp [Value.category]) (Nat.le_of_ble_eq_true rfl) ?_
  show mGM mX7_fits 0 [some (.ref b0), some (.int l1), none] [] (hp K x) (PI K Q)
  refine r_aload_n (pc := 0) dX7_fits_0 rfl ?_
  refine r_iload_n (pc := 1) dX7_fits_1 rfl ?_
  refine s_VI (pc := 2) mX7_isAsk (ci := 7) (a := b0) (As := [.int l1]) dX7_fits_2 lk_X7_173 in_X7_isAsk mo_X7_isAsk ⟨by decide, rfl⟩ ⟨by decide, by decide⟩ (Nat.le_of_ble_eq_true rfl) k_b0 (sp_X7_isAsk k_b0 g_b0_2 k_b0_2 ?_)
  refine r_if_ne (pc := 5) (tgt := 11) dX7_fits_5 (by decide) (fun q => ?_) (fun q => ?_)
  · have q := b2i_nz q
    have K0 := K0.1 q
    refine r_aload_n (pc := 11) dX7_fits_11 rfl ?_
    refine s_getR (pc := 12) dX7_fits_12 fl_X7_20 rfl k_b0 g_b0_2 ?_
    refine s_getR (pc := 15) dX7_fits_15 fl_X7_176 rfl k_b0_2 g_b0_2_8 ?_
    refine r_iload_n (pc := 18) dX7_fits_18 rfl ?_
    obtain ⟨i_2, K0⟩ := K0
    obtain ⟨c_3, g_4, K0⟩ := K0
    refine s_aald (pc := 19) dX7_fits_19 (by decide) rfl k_b0_2_8 i_2 g_4 ?_
    refine r_astore_n (pc := 20) dX7_fits_20 (by decide) ?_
    refine r_aload_n (pc := 21) (L := [some (.ref b0), some (.int l1), some (.ref c_3)]) dX7_fits_21 rfl ?_
    obtain ⟨e_5, K0⟩ := K0
    refine s_getI (pc := 22) dX7_fits_22 fl_X7_189 rfl e_5 ?_
    refine r_aload_n (pc := 25) dX7_fits_25 rfl ?_
    refine s_getR (pc := 26) dX7_fits_26 fl_X7_20 rfl k_b0 g_b0_2 ?_
    refine s_getI (pc := 29) dX7_fits_29 fl_X7_103 rfl k_b0_2 ?_
    refine r_icmp_ge (pc := 32) (tgt := 37) dX7_fits_32 (by decide) (fun q => ?_) (fun q => ?_)
    · have K0 := K0.1 q
      refine r_aload_n (pc := 37) dX7_fits_37 rfl ?_
      refine s_getR (pc := 38) dX7_fits_38 fl_X7_20 rfl k_b0 g_b0_2 ?_
      refine r_aload_n (pc := 41) dX7_fits_41 rfl ?_
      refine r_aload_n (pc := 42) dX7_fits_42 rfl ?_
      refine s_getI (pc := 43) dX7_fits_43 fl_X7_184 rfl e_5 ?_
      refine r_iconst (pc := 46) (v := 0) dX7_fits_46 (by decide) ?_
      refine s_VI (pc := 47) mX4_hasPlaceFor (ci := 4) (a := b0_2) (As := [.ref c_3, .int (gi x c_3 2), .int 0]) dX7_fits_47 lk_X7_299 in_X4_hasPlaceFor mo_X4_hasPlaceFor ⟨by decide, rfl⟩ ⟨by decide, by decide⟩ (Nat.le_of_ble_eq_true rfl) k_b0_2 (mSI_mono K0 (fun r_8 y_7 K0 => ?_))
      refine r_if_eq (pc := 50) (tgt := 57) dX7_fits_50 (by decide) (fun q => ?_) (fun q => ?_)
      · have K0 := K0.1 q
        refine r_iconst (pc := 57) (v := 0) dX7_fits_57 (by decide) ?_
        exact s_iret rfl dX7_fits_58 K0
      · have K0 := K0.2 q
        refine r_iconst (pc := 53) (v := 1) dX7_fits_53 (by decide) ?_
        refine r_goto (pc := 54) (tgt := 58) dX7_fits_54 (by decide) ?_
        exact s_iret rfl dX7_fits_58 K0
    · have K0 := K0.2 q
      refine r_iconst (pc := 35) (v := (-1)) dX7_fits_35 (by decide) ?_
      exact s_iret rfl dX7_fits_36 K0
  · have q := (b2i_z _).mp q
    have K0 := K0.2 q
    refine r_bipush (pc := 8) (v := (-2)) dX7_fits_8 (by decide) ?_
    exact s_iret rfl dX7_fits_10 K0
set_option maxHeartbeats 2000000 in
theorem v_X8_fits_0 {K : Sh} {x : Cn} {Q : Int32 → Cn → Prop} {b0 : Nat} {l1 : Int32} {b0_1 : Nat} {n_b0_1 : Nat} {b0_3 : Nat} {n_b0_3 : Nat} (k_b0 : kk K b0 = some (8, 0)) (g_b0_1 : gr x b0 1 = some b0_1) (k_b0_1 : kk K b0_1 = some (20, n_b0_1)) (g_b0_3 : gr x b0 3 = some b0_3) (k_b0_3 : kk K b0_3 = some (20, n_b0_3)) (K0 : vp_in 3 n_b0_1 ∧ (((0 ≤ l1 ∧ l1 ≤ gi x b0_1 3 - 1) → ((l24 l1 n_b0_3) ∧ ((¬ (f_span (ao (gi x b0_3) (l1 : Int32).toNatClampNeg 4) (ao (gi x b0_3) (l1 : Int32).toNatClampNeg 5) &&& f_span (gi x b0_3 4) (gi x b0_3 0 - 1)) = 0 → (mSI mX8_canAsk [.ref b0, .int l1, .int (ao (gi x b0_3) (l1 : Int32).toNatClampNeg 2), .int (-1)] K x (fun r_6 y_5 => (r_6 = 0 → (Q 0 y_5)) ∧ (¬ r_6 = 0 → (Q 1 y_5))))) ∧ ((f_span (ao (gi x b0_3) (l1 : Int32).toNatClampNeg 4) (ao (gi x b0_3) (l1 : Int32).toNatClampNeg 5) &&& f_span (gi x b0_3 4) (gi x b0_3 0 - 1)) = 0 → (Q (-1) x))))) ∧ (¬ (0 ≤ l1 ∧ l1 ≤ gi x b0_1 3 - 1) → (Q (-2) x)))) : mSI mX8_fits [.ref b0, .int l1] K x Q := by
  refine s_I (by decide) (by simp [Value.category]) (Nat.le_of_ble_eq_true rfl) ?_
  show mGM mX8_fits 0 [some (.ref b0), some (.int l1)] [] (hp K x) (PI K Q)
  refine r_aload_n (pc := 0) dX8_fits_0 rfl ?_
  refine r_iload_n (pc := 1) dX8_fits_1 rfl ?_
  obtain ⟨i_1, K0⟩ := K0
  refine s_VI (pc := 2) mX8_isAsk (ci := 8) (a := b0) (As := [.int l1]) dX8_fits_2 lk_X8_281 in_X8_isAsk mo_X8_isAsk ⟨by decide, rfl⟩ ⟨by decide, by decide⟩ (Nat.le_of_ble_eq_true rfl) k_b0 (sp_X8_isAsk k_b0 g_b0_1 k_b0_1 i_1 ?_)
  refine r_if_ne (pc := 5) (tgt := 11) dX8_fits_5 (by decide) (fun q => ?_) (fun q => ?_)
  · have q := b2i_nz q
    have K0 := K0.1 q
    refine r_aload_n (pc := 11) dX8_fits_11 rfl ?_
    refine r_iload_n (pc := 12) dX8_fits_12 rfl ?_
    obtain ⟨p_3, K0⟩ := K0
    refine s_VI (pc := 13) mX8_weeksOf (ci := 8) (a := b0) (As := [.int l1]) dX8_fits_13 lk_X8_326 in_X8_weeksOf mo_X8_weeksOf ⟨by decide, rfl⟩ ⟨by decide, by decide⟩ (Nat.le_of_ble_eq_true rfl) k_b0 (sr_X8_weeksOf k_b0 g_b0_3 k_b0_3 p_3 ?_)
    refine r_if_ne (pc := 16) (tgt := 23) dX8_fits_16 (by decide) (fun q => ?_) (fun q => ?_)
    · have K0 := K0.1 q
      refine r_aload_n (pc := 23) dX8_fits_23 rfl ?_
      refine r_iload_n (pc := 24) dX8_fits_24 rfl ?_
      refine r_aload_n (pc := 25) dX8_fits_25 rfl ?_
      refine r_iload_n (pc := 26) dX8_fits_26 rfl ?_
      refine r_iconst (pc := 27) (v := 2) dX8_fits_27 (by decide) ?_
      refine s_VI (pc := 28) mX8_ask0 (ci := 8) (a := b0) (As := [.int l1, .int 2]) dX8_fits_28 lk_X8_284 in_X8_ask0 mo_X8_ask0 ⟨by decide, rfl⟩ ⟨by decide, by decide⟩ (Nat.le_of_ble_eq_true rfl) k_b0 (sr_X8_ask0 k_b0 g_b0_3 k_b0_3 p_3 ⟨by decide, by decide⟩ ?_)
      refine r_iconst (pc := 31) (v := (-1)) dX8_fits_31 (by decide) ?_
      refine s_VI (pc := 32) mX8_canAsk (ci := 8) (a := b0) (As := [.int l1, .int (ao (gi x b0_3) (l1 : Int32).toNatClampNeg 2), .int (-1)]) dX8_fits_32 lk_X8_329 in_X8_canAsk mo_X8_canAsk ⟨by decide, rfl⟩ ⟨by decide, by decide⟩ (Nat.le_of_ble_eq_true rfl) k_b0 (mSI_mono K0 (fun r_6 y_5 K0 => ?_))
      refine r_if_eq (pc := 35) (tgt := 42) dX8_fits_35 (by decide) (fun q => ?_) (fun q => ?_)
      · have K0 := K0.1 q
        refine r_iconst (pc := 42) (v := 0) dX8_fits_42 (by decide) ?_
        exact s_iret rfl dX8_fits_43 K0
      · have K0 := K0.2 q
        refine r_iconst (pc := 38) (v := 1) dX8_fits_38 (by decide) ?_
        refine r_goto (pc := 39) (tgt := 43) dX8_fits_39 (by decide) ?_
        exact s_iret rfl dX8_fits_43 K0
    · have K0 := K0.2 q
      refine r_iconst (pc := 19) (v := (-1)) dX8_fits_19 (by decide) ?_
      refine r_goto (pc := 20) (tgt := 43) dX8_fits_20 (by decide) ?_
      exact s_iret rfl dX8_fits_43 K0
  · have q := (b2i_z _).mp q
    have K0 := K0.2 q
    refine r_bipush (pc := 8) (v := (-2)) dX8_fits_8 (by decide) ?_
    exact s_iret rfl dX8_fits_10 K0
set_option maxHeartbeats 2000000 in
theorem v_X7_fitting_0 {K : Sh} {x : Cn} {Q : Int32 → Cn → Prop} {b0 : Nat} {l1 : Int32} {l2 : Int32} {l3 : Int32} {l4 : Int32} {b0_2 : Nat} (k_b0 : kk K b0 = some (7, 0)) (g_b0_2 : gr x b0 2 = some b0_2) (k_b0_2 : kk K b0_2 = some (4, 0)) (K0 : (¬ (0 < gi x b0_2 0 ∧ 0 ≤ l1 ∧ l1 < 7) → (Q (-2) x)) ∧ ((0 < gi x b0_2 0 ∧ 0 ≤ l1 ∧ l1 < 7) → ((¬ (l2 = 0 ∨ l2 = 1) → (Q (-2) x)) ∧ ((l2 = 0 ∨ l2 = 1) → ((¬ (0 ≤ l3 ∧ l3 < gi x b0_2 0) → (Q (-2) x)) ∧ ((0 ≤ l3 ∧ l3 < gi x b0_2 0) → ((¬ (0 ≤ l4 ∧ l4 < gi x b0_2 0) → (Q (-2) x)) ∧ ((0 ≤ l4 ∧ l4 < gi x b0_2 0) → ((l3 ≤ l4 → (GI mX7_fitting 55 [some (.ref b0), some (.int l1), some (.int l2), some (.int l3), some (.int l4), some (.int (f_sb l3 l4)), some (.int 0), some (.int 0)] [] K x Q)) ∧ (¬ l3 ≤ l4 → (Q (-2) x))))))))))) : mSI mX7_fitting [.ref b0, .int l1, .int l2, .int l3, .int l4] K x Q := by
  refine s_I (by decide) (by simp [Value.category]) (Nat.le_of_ble_eq_true rfl) ?_
  show mGM mX7_fitting 0 [some (.ref b0), some (.int l1), some (.int l2), some (.int l3), some (.int l4), none, none, none] [] (hp K x) (PI K Q)
  refine r_aload_n (pc := 0) dX7_fitting_0 rfl ?_
  refine r_iload_n (pc := 1) dX7_fitting_1 rfl ?_
  refine s_VI (pc := 2) mX7_isDay (ci := 7) (a := b0) (As := [.int l1]) dX7_fitting_2 lk_X7_245 in_X7_isDay mo_X7_isDay ⟨by decide, rfl⟩ ⟨by decide, by decide⟩ (Nat.le_of_ble_eq_true rfl) k_b0 (sp_X7_isDay k_b0 g_b0_2 k_b0_2 ?_)
  refine r_if_eq (pc := 5) (tgt := 38) dX7_fitting_5 (by decide) (fun q => ?_) (fun q => ?_)
  · have q := (b2i_z _).mp q
    have K0 := K0.1 q
    refine r_bipush (pc := 38) (v := (-2)) dX7_fitting_38 (by decide) ?_
    exact s_iret rfl dX7_fitting_40 K0
  · have q := b2i_nz q
    have K0 := K0.2 q
    refine r_iload_n (pc := 8) dX7_fitting_8 rfl ?_
    refine s_SI (pc := 9) mX7_isWay (As := [.int l2]) dX7_fitting_9 lk_X7_218 st_X7_isWay mo_X7_isWay ⟨by decide, by decide⟩ (Nat.le_of_ble_eq_true rfl) (sp_X7_isWay  ?_)
    refine r_if_eq (pc := 12) (tgt := 38) dX7_fitting_12 (by decide) (fun q => ?_) (fun q => ?_)
    · have q := (b2i_z _).mp q
      have K0 := K0.1 q
      refine r_bipush (pc := 38) (v := (-2)) dX7_fitting_38 (by decide) ?_
      exact s_iret rfl dX7_fitting_40 K0
    · have q := b2i_nz q
      have K0 := K0.2 q
      refine r_aload_n (pc := 15) dX7_fitting_15 rfl ?_
      refine r_iload_n (pc := 16) dX7_fitting_16 rfl ?_
      refine s_VI (pc := 17) mX7_isWeek (ci := 7) (a := b0) (As := [.int l3]) dX7_fitting_17 lk_X7_167 in_X7_isWeek mo_X7_isWeek ⟨by decide, rfl⟩ ⟨by decide, by decide⟩ (Nat.le_of_ble_eq_true rfl) k_b0 (sp_X7_isWeek k_b0 g_b0_2 k_b0_2 ?_)
      refine r_if_eq (pc := 20) (tgt := 38) dX7_fitting_20 (by decide) (fun q => ?_) (fun q => ?_)
      · have q := (b2i_z _).mp q
        have K0 := K0.1 q
        refine r_bipush (pc := 38) (v := (-2)) dX7_fitting_38 (by decide) ?_
        exact s_iret rfl dX7_fitting_40 K0
      · have q := b2i_nz q
        have K0 := K0.2 q
        refine r_aload_n (pc := 23) dX7_fitting_23 rfl ?_
        refine r_iload (pc := 24) dX7_fitting_24 rfl ?_
        refine s_VI (pc := 26) mX7_isWeek (ci := 7) (a := b0) (As := [.int l4]) dX7_fitting_26 lk_X7_167 in_X7_isWeek mo_X7_isWeek ⟨by decide, rfl⟩ ⟨by decide, by decide⟩ (Nat.le_of_ble_eq_true rfl) k_b0 (sp_X7_isWeek k_b0 g_b0_2 k_b0_2 ?_)
        refine r_if_eq (pc := 29) (tgt := 38) dX7_fitting_29 (by decide) (fun q => ?_) (fun q => ?_)
        · have q := (b2i_z _).mp q
          have K0 := K0.1 q
          refine r_bipush (pc := 38) (v := (-2)) dX7_fitting_38 (by decide) ?_
          exact s_iret rfl dX7_fitting_40 K0
        · have q := b2i_nz q
          have K0 := K0.2 q
          refine r_iload (pc := 32) dX7_fitting_32 rfl ?_
          refine r_iload_n (pc := 34) dX7_fitting_34 rfl ?_
          refine r_icmp_ge (pc := 35) (tgt := 41) dX7_fitting_35 (by decide) (fun q => ?_) (fun q => ?_)
          · have K0 := K0.1 q
            refine r_iload_n (pc := 41) dX7_fitting_41 rfl ?_
            refine r_iload (pc := 42) dX7_fitting_42 rfl ?_
            refine s_SI (pc := 44) mX7_spanBits (As := [.int l3, .int l4]) dX7_fitting_44 lk_X7_292 st_X7_spanBits mo_X7_spanBits ⟨by decide, by decide⟩ (Nat.le_of_ble_eq_true rfl) (sp_X7_spanBits  ?_)
            refine r_istore (pc := 47) dX7_fitting_47 (by decide) ?_
            refine r_iconst (pc := 49) (L := [some (.ref b0), some (.int l1), some (.int l2), some (.int l3), some (.int l4), some (.int (f_sb l3 l4)), none, none]) (v := 0) dX7_fitting_49 (by decide) ?_
            refine r_istore (pc := 50) dX7_fitting_50 (by decide) ?_
            refine r_iconst (pc := 52) (L := [some (.ref b0), some (.int l1), some (.int l2), some (.int l3), some (.int l4), some (.int (f_sb l3 l4)), some (.int 0), none]) (v := 0) dX7_fitting_52 (by decide) ?_
            refine r_istore (pc := 53) dX7_fitting_53 (by decide) ?_
            exact r_le (L' := [some (.ref b0), some (.int l1), some (.int l2), some (.int l3), some (.int l4), some (.int (f_sb l3 l4)), some (.int 0), some (.int 0)]) ⟨rfl, ⟨rfl, ⟨rfl, ⟨rfl, ⟨rfl, ⟨rfl, ⟨rfl, ⟨rfl, trivial⟩⟩⟩⟩⟩⟩⟩⟩ K0
          · have K0 := K0.2 q
            refine r_bipush (pc := 38) (v := (-2)) dX7_fitting_38 (by decide) ?_
            exact s_iret rfl dX7_fitting_40 K0
set_option maxHeartbeats 2000000 in
theorem v_X7_fitting_55 {K : Sh} {x : Cn} {Q : Int32 → Cn → Prop} {b0 : Nat} {l1 : Int32} {l2 : Int32} {l3 : Int32} {l4 : Int32} {l5 : Int32} {l6 : Int32} {l7 : Int32} {b0_2 : Nat} (k_b0 : kk K b0 = some (7, 0)) (g_b0_2 : gr x b0 2 = some b0_2) (k_b0_2 : kk K b0_2 = some (4, 0)) (K0 : (24 ≤ l7 → (Q l6 x)) ∧ (¬ 24 ≤ l7 → (mSI mX4_hasPlace [.ref b0_2, .int l1, .int l7, .int l2, .int l5, .int 0] K x (fun r_3 y_2 => (r_3 = 0 → (GI mX7_fitting 55 [some (.ref b0), some (.int l1), some (.int l2), some (.int l3), some (.int l4), some (.int l5), some (.int l6), some (.int (l7 + 1))] [] K y_2 Q)) ∧ (¬ r_3 = 0 → (GI mX7_fitting 55 [some (.ref b0), some (.int l1), some (.int l2), some (.int l3), some (.int l4), some (.int l5), some (.int (l6 ||| (1 <<< (l7 &&& 31)))), some (.int (l7 + 1))] [] K y_2 Q)))))) : GI mX7_fitting 55 [some (.ref b0), some (.int l1), some (.int l2), some (.int l3), some (.int l4), some (.int l5), some (.int l6), some (.int l7)] [] K x Q := by
  show mGM mX7_fitting 55 [some (.ref b0), some (.int l1), some (.int l2), some (.int l3), some (.int l4), some (.int l5), some (.int l6), some (.int l7)] [] (hp K x) (PI K Q)
  refine r_iload (pc := 55) dX7_fitting_55 rfl ?_
  refine r_bipush (pc := 57) (v := 24) dX7_fitting_57 (by decide) ?_
  refine r_icmp_ge (pc := 59) (tgt := 94) dX7_fitting_59 (by decide) (fun q => ?_) (fun q => ?_)
  · have K0 := K0.1 q
    refine r_iload (pc := 94) dX7_fitting_94 rfl ?_
    exact s_iret rfl dX7_fitting_96 K0
  · have K0 := K0.2 q
    refine r_aload_n (pc := 62) dX7_fitting_62 rfl ?_
    refine s_getR (pc := 63) dX7_fitting_63 fl_X7_20 rfl k_b0 g_b0_2 ?_
    refine r_iload_n (pc := 66) dX7_fitting_66 rfl ?_
    refine r_iload (pc := 67) dX7_fitting_67 rfl ?_
    refine r_iload_n (pc := 69) dX7_fitting_69 rfl ?_
    refine r_iload (pc := 70) dX7_fitting_70 rfl ?_
    refine r_iconst (pc := 72) (v := 0) dX7_fitting_72 (by decide) ?_
    refine s_VI (pc := 73) mX4_hasPlace (ci := 4) (a := b0_2) (As := [.int l1, .int l7, .int l2, .int l5, .int 0]) dX7_fitting_73 lk_X7_295 in_X4_hasPlace mo_X4_hasPlace ⟨by decide, rfl⟩ ⟨by decide, by decide⟩ (Nat.le_of_ble_eq_true rfl) k_b0_2 (mSI_mono K0 (fun r_3 y_2 K0 => ?_))
    refine r_if_eq (pc := 76) (tgt := 88) dX7_fitting_76 (by decide) (fun q => ?_) (fun q => ?_)
    · have K0 := K0.1 q
      refine r_iinc (pc := 88) (v := l7 + 1) dX7_fitting_88 rfl rfl (by decide) ?_
      refine r_goto (pc := 91) (L := [some (.ref b0), some (.int l1), some (.int l2), some (.int l3), some (.int l4), some (.int l5), some (.int l6), some (.int (l7 + 1))]) (tgt := 55) dX7_fitting_91 (by decide) ?_
      exact r_le (L' := [some (.ref b0), some (.int l1), some (.int l2), some (.int l3), some (.int l4), some (.int l5), some (.int l6), some (.int (l7 + 1))]) ⟨rfl, ⟨rfl, ⟨rfl, ⟨rfl, ⟨rfl, ⟨rfl, ⟨rfl, ⟨rfl, trivial⟩⟩⟩⟩⟩⟩⟩⟩ K0
    · have K0 := K0.2 q
      refine r_iload (pc := 79) dX7_fitting_79 rfl ?_
      refine r_iconst (pc := 81) (v := 1) dX7_fitting_81 (by decide) ?_
      refine r_iload (pc := 82) dX7_fitting_82 rfl ?_
      refine r_ishl (pc := 84) dX7_fitting_84 ?_
      refine r_ior (pc := 85) dX7_fitting_85 ?_
      refine r_istore (pc := 86) dX7_fitting_86 (by decide) ?_
      refine r_iinc (pc := 88) (L := [some (.ref b0), some (.int l1), some (.int l2), some (.int l3), some (.int l4), some (.int l5), some (.int (l6 ||| (1 <<< (l7 &&& 31)))), some (.int l7)]) (v := l7 + 1) dX7_fitting_88 rfl rfl (by decide) ?_
      refine r_goto (pc := 91) (L := [some (.ref b0), some (.int l1), some (.int l2), some (.int l3), some (.int l4), some (.int l5), some (.int (l6 ||| (1 <<< (l7 &&& 31)))), some (.int (l7 + 1))]) (tgt := 55) dX7_fitting_91 (by decide) ?_
      exact r_le (L' := [some (.ref b0), some (.int l1), some (.int l2), some (.int l3), some (.int l4), some (.int l5), some (.int (l6 ||| (1 <<< (l7 &&& 31)))), some (.int (l7 + 1))]) ⟨rfl, ⟨rfl, ⟨rfl, ⟨rfl, ⟨rfl, ⟨rfl, ⟨rfl, ⟨rfl, trivial⟩⟩⟩⟩⟩⟩⟩⟩ K0
set_option maxHeartbeats 2000000 in
theorem v_X8_fitting_0 {K : Sh} {x : Cn} {Q : Int32 → Cn → Prop} {b0 : Nat} {l1 : Int32} {l2 : Int32} {l3 : Int32} {l4 : Int32} {b0_1 : Nat} {n_b0_1 : Nat} (k_b0 : kk K b0 = some (8, 0)) (g_b0_1 : gr x b0 1 = some b0_1) (k_b0_1 : kk K b0_1 = some (20, n_b0_1)) (K0 : vp_in 0 n_b0_1 ∧ ((¬ (0 < gi x b0_1 0 ∧ 0 ≤ l1 ∧ l1 ≤ 6) → (Q (-2) x)) ∧ ((0 < gi x b0_1 0 ∧ 0 ≤ l1 ∧ l1 ≤ 6) → ((¬ (0 ≤ l2 ∧ l2 ≤ 1) → (Q (-2) x)) ∧ ((0 ≤ l2 ∧ l2 ≤ 1) → ((¬ (0 ≤ l3 ∧ l3 ≤ gi x b0_1 0 - 1) → (Q (-2) x)) ∧ ((0 ≤ l3 ∧ l3 ≤ gi x b0_1 0 - 1) → ((¬ (0 ≤ l4 ∧ l4 ≤ gi x b0_1 0 - 1) → (Q (-2) x)) ∧ ((0 ≤ l4 ∧ l4 ≤ gi x b0_1 0 - 1) → ((l3 ≤ l4 → (GI mX8_fitting 50 [some (.ref b0), some (.int l1), some (.int l2), some (.int l3), some (.int l4), some (.int 0), some (.int 0)] [] K x Q)) ∧ (¬ l3 ≤ l4 → (Q (-2) x)))))))))))) : mSI mX8_fitting [.ref b0, .int l1, .int l2, .int l3, .int l4] K x Q := by
  refine s_I (by decide) (by simp [Value.category]) (Nat.le_of_ble_eq_true rfl) ?_
  show mGM mX8_fitting 0 [some (.ref b0), some (.int l1), some (.int l2), some (.int l3), some (.int l4), none, none] [] (hp K x) (PI K Q)
  refine r_aload_n (pc := 0) dX8_fitting_0 rfl ?_
  refine r_iload_n (pc := 1) dX8_fitting_1 rfl ?_
  obtain ⟨i_1, K0⟩ := K0
  refine s_VI (pc := 2) mX8_isDay (ci := 8) (a := b0) (As := [.int l1]) dX8_fitting_2 lk_X8_61 in_X8_isDay mo_X8_isDay ⟨by decide, rfl⟩ ⟨by decide, by decide⟩ (Nat.le_of_ble_eq_true rfl) k_b0 (sp_X8_isDay k_b0 g_b0_1 k_b0_1 i_1 ?_)
  refine r_if_eq (pc := 5) (tgt := 41) dX8_fitting_5 (by decide) (fun q => ?_) (fun q => ?_)
  · have q := (b2i_z _).mp q
    have K0 := K0.1 q
    refine r_bipush (pc := 41) (v := (-2)) dX8_fitting_41 (by decide) ?_
    exact s_iret rfl dX8_fitting_43 K0
  · have q := b2i_nz q
    have K0 := K0.2 q
    refine r_iload_n (pc := 8) dX8_fitting_8 rfl ?_
    refine r_i2l (pc := 9) dX8_fitting_9 ?_
    refine r_lconst (pc := 10) (v := 0) dX8_fitting_10 (by decide) ?_
    refine r_lconst (pc := 11) (v := 1) dX8_fitting_11 (by decide) ?_
    refine s_SI (pc := 12) mX8_in (As := [.long ((l2 : Int32).toInt64), .long 0, .long 1]) dX8_fitting_12 lk_X8_45 st_X8_in mo_X8_in ⟨by decide, by decide⟩ (Nat.le_of_ble_eq_true rfl) (sq_X8_in (v := l2) (lo := 0) (hi := 1) rfl (by decide) (by decide) ?_)
    refine r_if_eq (pc := 15) (tgt := 41) dX8_fitting_15 (by decide) (fun q => ?_) (fun q => ?_)
    · have q := (b2i_z _).mp q
      have K0 := K0.1 q
      refine r_bipush (pc := 41) (v := (-2)) dX8_fitting_41 (by decide) ?_
      exact s_iret rfl dX8_fitting_43 K0
    · have q := b2i_nz q
      have K0 := K0.2 q
      refine r_aload_n (pc := 18) dX8_fitting_18 rfl ?_
      refine r_iload_n (pc := 19) dX8_fitting_19 rfl ?_
      refine s_VI (pc := 20) mX8_isWeek (ci := 8) (a := b0) (As := [.int l3]) dX8_fitting_20 lk_X8_57 in_X8_isWeek mo_X8_isWeek ⟨by decide, rfl⟩ ⟨by decide, by decide⟩ (Nat.le_of_ble_eq_true rfl) k_b0 (sp_X8_isWeek k_b0 g_b0_1 k_b0_1 i_1 ?_)
      refine r_if_eq (pc := 23) (tgt := 41) dX8_fitting_23 (by decide) (fun q => ?_) (fun q => ?_)
      · have q := (b2i_z _).mp q
        have K0 := K0.1 q
        refine r_bipush (pc := 41) (v := (-2)) dX8_fitting_41 (by decide) ?_
        exact s_iret rfl dX8_fitting_43 K0
      · have q := b2i_nz q
        have K0 := K0.2 q
        refine r_aload_n (pc := 26) dX8_fitting_26 rfl ?_
        refine r_iload (pc := 27) dX8_fitting_27 rfl ?_
        refine s_VI (pc := 29) mX8_isWeek (ci := 8) (a := b0) (As := [.int l4]) dX8_fitting_29 lk_X8_57 in_X8_isWeek mo_X8_isWeek ⟨by decide, rfl⟩ ⟨by decide, by decide⟩ (Nat.le_of_ble_eq_true rfl) k_b0 (sp_X8_isWeek k_b0 g_b0_1 k_b0_1 i_1 ?_)
        refine r_if_eq (pc := 32) (tgt := 41) dX8_fitting_32 (by decide) (fun q => ?_) (fun q => ?_)
        · have q := (b2i_z _).mp q
          have K0 := K0.1 q
          refine r_bipush (pc := 41) (v := (-2)) dX8_fitting_41 (by decide) ?_
          exact s_iret rfl dX8_fitting_43 K0
        · have q := b2i_nz q
          have K0 := K0.2 q
          refine r_iload (pc := 35) dX8_fitting_35 rfl ?_
          refine r_iload_n (pc := 37) dX8_fitting_37 rfl ?_
          refine r_icmp_ge (pc := 38) (tgt := 44) dX8_fitting_38 (by decide) (fun q => ?_) (fun q => ?_)
          · have K0 := K0.1 q
            refine r_iconst (pc := 44) (v := 0) dX8_fitting_44 (by decide) ?_
            refine r_istore (pc := 45) dX8_fitting_45 (by decide) ?_
            refine r_iconst (pc := 47) (L := [some (.ref b0), some (.int l1), some (.int l2), some (.int l3), some (.int l4), some (.int 0), none]) (v := 0) dX8_fitting_47 (by decide) ?_
            refine r_istore (pc := 48) dX8_fitting_48 (by decide) ?_
            exact r_le (L' := [some (.ref b0), some (.int l1), some (.int l2), some (.int l3), some (.int l4), some (.int 0), some (.int 0)]) ⟨rfl, ⟨rfl, ⟨rfl, ⟨rfl, ⟨rfl, ⟨rfl, ⟨rfl, trivial⟩⟩⟩⟩⟩⟩⟩ K0
          · have K0 := K0.2 q
            refine r_bipush (pc := 41) (v := (-2)) dX8_fitting_41 (by decide) ?_
            exact s_iret rfl dX8_fitting_43 K0
set_option maxHeartbeats 2000000 in
theorem v_X8_fitting_50 {K : Sh} {x : Cn} {Q : Int32 → Cn → Prop} {b0 : Nat} {l1 : Int32} {l2 : Int32} {l3 : Int32} {l4 : Int32} {l5 : Int32} {l6 : Int32}  (k_b0 : kk K b0 = some (8, 0)) (K0 : (24 ≤ l6 → (Q l5 x)) ∧ (¬ 24 ≤ l6 → (mSI mX8_canBe [.ref b0, .int (f_span l3 l4), .int l1, .int l6, .int l2, .int (-1)] K x (fun r_3 y_2 => (r_3 = 0 → (GI mX8_fitting 50 [some (.ref b0), some (.int l1), some (.int l2), some (.int l3), some (.int l4), some (.int (l5 ||| 0)), some (.int (l6 + 1))] [] K y_2 Q)) ∧ (¬ r_3 = 0 → (GI mX8_fitting 50 [some (.ref b0), some (.int l1), some (.int l2), some (.int l3), some (.int l4), some (.int (l5 ||| (1 <<< (l6 &&& 31)))), some (.int (l6 + 1))] [] K y_2 Q)))))) : GI mX8_fitting 50 [some (.ref b0), some (.int l1), some (.int l2), some (.int l3), some (.int l4), some (.int l5), some (.int l6)] [] K x Q := by
  show mGM mX8_fitting 50 [some (.ref b0), some (.int l1), some (.int l2), some (.int l3), some (.int l4), some (.int l5), some (.int l6)] [] (hp K x) (PI K Q)
  refine r_iload (pc := 50) dX8_fitting_50 rfl ?_
  refine r_bipush (pc := 52) (v := 24) dX8_fitting_52 (by decide) ?_
  refine r_icmp_ge (pc := 54) (tgt := 94) dX8_fitting_54 (by decide) (fun q => ?_) (fun q => ?_)
  · have K0 := K0.1 q
    refine r_iload (pc := 94) dX8_fitting_94 rfl ?_
    exact s_iret rfl dX8_fitting_96 K0
  · have K0 := K0.2 q
    refine r_iload (pc := 57) dX8_fitting_57 rfl ?_
    refine r_aload_n (pc := 59) dX8_fitting_59 rfl ?_
    refine r_iload_n (pc := 60) dX8_fitting_60 rfl ?_
    refine r_iload (pc := 61) dX8_fitting_61 rfl ?_
    refine s_SI (pc := 63) mX8_span (As := [.int l3, .int l4]) dX8_fitting_63 lk_X8_79 st_X8_span mo_X8_span ⟨by decide, by decide⟩ (Nat.le_of_ble_eq_true rfl) (sp_X8_span  ?_)
    refine r_iload_n (pc := 66) dX8_fitting_66 rfl ?_
    refine r_iload (pc := 67) dX8_fitting_67 rfl ?_
    refine r_iload_n (pc := 69) dX8_fitting_69 rfl ?_
    refine r_iconst (pc := 70) (v := (-1)) dX8_fitting_70 (by decide) ?_
    refine s_VI (pc := 71) mX8_canBe (ci := 8) (a := b0) (As := [.int (f_span l3 l4), .int l1, .int l6, .int l2, .int (-1)]) dX8_fitting_71 lk_X8_90 in_X8_canBe mo_X8_canBe ⟨by decide, rfl⟩ ⟨by decide, by decide⟩ (Nat.le_of_ble_eq_true rfl) k_b0 (mSI_mono K0 (fun r_3 y_2 K0 => ?_))
    refine r_if_eq (pc := 74) (tgt := 84) dX8_fitting_74 (by decide) (fun q => ?_) (fun q => ?_)
    · have K0 := K0.1 q
      refine r_iconst (pc := 84) (v := 0) dX8_fitting_84 (by decide) ?_
      refine r_ior (pc := 85) dX8_fitting_85 ?_
      refine r_istore (pc := 86) dX8_fitting_86 (by decide) ?_
      refine r_iinc (pc := 88) (L := [some (.ref b0), some (.int l1), some (.int l2), some (.int l3), some (.int l4), some (.int (l5 ||| 0)), some (.int l6)]) (v := l6 + 1) dX8_fitting_88 rfl rfl (by decide) ?_
      refine r_goto (pc := 91) (L := [some (.ref b0), some (.int l1), some (.int l2), some (.int l3), some (.int l4), some (.int (l5 ||| 0)), some (.int (l6 + 1))]) (tgt := 50) dX8_fitting_91 (by decide) ?_
      exact r_le (L' := [some (.ref b0), some (.int l1), some (.int l2), some (.int l3), some (.int l4), some (.int (l5 ||| 0)), some (.int (l6 + 1))]) ⟨rfl, ⟨rfl, ⟨rfl, ⟨rfl, ⟨rfl, ⟨rfl, ⟨rfl, trivial⟩⟩⟩⟩⟩⟩⟩ K0
    · have K0 := K0.2 q
      refine r_iconst (pc := 77) (v := 1) dX8_fitting_77 (by decide) ?_
      refine r_iload (pc := 78) dX8_fitting_78 rfl ?_
      refine r_ishl (pc := 80) dX8_fitting_80 ?_
      refine r_goto (pc := 81) (tgt := 85) dX8_fitting_81 (by decide) ?_
      refine r_ior (pc := 85) dX8_fitting_85 ?_
      refine r_istore (pc := 86) dX8_fitting_86 (by decide) ?_
      refine r_iinc (pc := 88) (L := [some (.ref b0), some (.int l1), some (.int l2), some (.int l3), some (.int l4), some (.int (l5 ||| (1 <<< (l6 &&& 31)))), some (.int l6)]) (v := l6 + 1) dX8_fitting_88 rfl rfl (by decide) ?_
      refine r_goto (pc := 91) (L := [some (.ref b0), some (.int l1), some (.int l2), some (.int l3), some (.int l4), some (.int (l5 ||| (1 <<< (l6 &&& 31)))), some (.int (l6 + 1))]) (tgt := 50) dX8_fitting_91 (by decide) ?_
      exact r_le (L' := [some (.ref b0), some (.int l1), some (.int l2), some (.int l3), some (.int l4), some (.int (l5 ||| (1 <<< (l6 &&& 31)))), some (.int (l6 + 1))]) ⟨rfl, ⟨rfl, ⟨rfl, ⟨rfl, ⟨rfl, ⟨rfl, ⟨rfl, trivial⟩⟩⟩⟩⟩⟩⟩ K0
set_option maxHeartbeats 2000000 in
theorem v_X7_blocked_0 {K : Sh} {x : Cn} {Q : Int32 → Cn → Prop} {b0 : Nat} {l1 : Int32} {b0_2 : Nat} {b0_2_8 : Nat} {n_b0_2_8 : Nat} (k_b0 : kk K b0 = some (7, 0)) (g_b0_2 : gr x b0 2 = some b0_2) (k_b0_2 : kk K b0_2 = some (4, 0)) (g_b0_2_8 : gr x b0_2 8 = some b0_2_8) (k_b0_2_8 : kk K b0_2_8 = some (24, n_b0_2_8)) (K0 : ((0 ≤ l1 ∧ l1 < gi x b0_2 4) → (vp_in l1 n_b0_2_8 ∧ (∃ c_3 : Nat, gr x b0_2_8 ((l1 : Int32).toNatClampNeg) = some c_3 ∧ (kk K c_3 = some (0, 0) ∧ (mSI mX4_hasPlaceFor [.ref b0_2, .ref c_3, .int (gi x c_3 2), .int 0] K x (fun r_7 y_6 => (r_7 = 0 → (GI mX7_blocked 44 [some (.ref b0), some (.int l1), some (.ref c_3), some (.int 0), some (.int 0)] [] K y_6 Q)) ∧ (¬ r_7 = 0 → (Q 0 y_6)))))))) ∧ (¬ (0 ≤ l1 ∧ l1 < gi x b0_2 4) → (Q (-2) x))) : mSI mX7_blocked [.ref b0, .int l1] K x Q := by
  refine s_I (by decide) (by simp [Value.category]) (Nat.le_of_ble_eq_true rfl) ?_
  show mGM mX7_blocked 0 [some (.ref b0), some (.int l1), none, none, none] [] (hp K x) (PI K Q)
  refine r_aload_n (pc := 0) dX7_blocked_0 rfl ?_
  refine r_iload_n (pc := 1) dX7_blocked_1 rfl ?_
  refine s_VI (pc := 2) mX7_isAsk (ci := 7) (a := b0) (As := [.int l1]) dX7_blocked_2 lk_X7_173 in_X7_isAsk mo_X7_isAsk ⟨by decide, rfl⟩ ⟨by decide, by decide⟩ (Nat.le_of_ble_eq_true rfl) k_b0 (sp_X7_isAsk k_b0 g_b0_2 k_b0_2 ?_)
  refine r_if_ne (pc := 5) (tgt := 11) dX7_blocked_5 (by decide) (fun q => ?_) (fun q => ?_)
  · have q := b2i_nz q
    have K0 := K0.1 q
    refine r_aload_n (pc := 11) dX7_blocked_11 rfl ?_
    refine s_getR (pc := 12) dX7_blocked_12 fl_X7_20 rfl k_b0 g_b0_2 ?_
    refine s_getR (pc := 15) dX7_blocked_15 fl_X7_176 rfl k_b0_2 g_b0_2_8 ?_
    refine r_iload_n (pc := 18) dX7_blocked_18 rfl ?_
    obtain ⟨i_2, K0⟩ := K0
    obtain ⟨c_3, g_4, K0⟩ := K0
    refine s_aald (pc := 19) dX7_blocked_19 (by decide) rfl k_b0_2_8 i_2 g_4 ?_
    refine r_astore_n (pc := 20) dX7_blocked_20 (by decide) ?_
    refine r_aload_n (pc := 21) (L := [some (.ref b0), some (.int l1), some (.ref c_3), none, none]) dX7_blocked_21 rfl ?_
    refine s_getR (pc := 22) dX7_blocked_22 fl_X7_20 rfl k_b0 g_b0_2 ?_
    refine r_aload_n (pc := 25) dX7_blocked_25 rfl ?_
    refine r_aload_n (pc := 26) dX7_blocked_26 rfl ?_
    obtain ⟨e_5, K0⟩ := K0
    refine s_getI (pc := 27) dX7_blocked_27 fl_X7_184 rfl e_5 ?_
    refine r_iconst (pc := 30) (v := 0) dX7_blocked_30 (by decide) ?_
    refine s_VI (pc := 31) mX4_hasPlaceFor (ci := 4) (a := b0_2) (As := [.ref c_3, .int (gi x c_3 2), .int 0]) dX7_blocked_31 lk_X7_299 in_X4_hasPlaceFor mo_X4_hasPlaceFor ⟨by decide, rfl⟩ ⟨by decide, by decide⟩ (Nat.le_of_ble_eq_true rfl) k_b0_2 (mSI_mono K0 (fun r_7 y_6 K0 => ?_))
    refine r_if_eq (pc := 34) (tgt := 39) dX7_blocked_34 (by decide) (fun q => ?_) (fun q => ?_)
    · have K0 := K0.1 q
      refine r_iconst (pc := 39) (v := 0) dX7_blocked_39 (by decide) ?_
      refine r_istore_n (pc := 40) dX7_blocked_40 (by decide) ?_
      refine r_iconst (pc := 41) (L := [some (.ref b0), some (.int l1), some (.ref c_3), some (.int 0), none]) (v := 0) dX7_blocked_41 (by decide) ?_
      refine r_istore (pc := 42) dX7_blocked_42 (by decide) ?_
      exact r_le (L' := [some (.ref b0), some (.int l1), some (.ref c_3), some (.int 0), some (.int 0)]) ⟨rfl, ⟨rfl, ⟨rfl, ⟨rfl, ⟨rfl, trivial⟩⟩⟩⟩⟩ K0
    · have K0 := K0.2 q
      refine r_iconst (pc := 37) (v := 0) dX7_blocked_37 (by decide) ?_
      exact s_iret rfl dX7_blocked_38 K0
  · have q := (b2i_z _).mp q
    have K0 := K0.2 q
    refine r_bipush (pc := 8) (v := (-2)) dX7_blocked_8 (by decide) ?_
    exact s_iret rfl dX7_blocked_10 K0
set_option maxHeartbeats 2000000 in
theorem v_X7_blocked_44 {K : Sh} {x : Cn} {Q : Int32 → Cn → Prop} {b0 : Nat} {l1 : Int32} {b2 : Nat} {l3 : Int32} {l4 : Int32} {b0_2 : Nat} (k_b0 : kk K b0 = some (7, 0)) (g_b0_2 : gr x b0 2 = some b0_2) (k_b0_2 : kk K b0_2 = some (4, 0)) (k_b2 : kk K b2 = some (0, 0)) (K0 : ((gi x b0_2 3) ≤ l4 → (Q l3 x)) ∧ (¬ (gi x b0_2 3) ≤ l4 → (mSI mX4_hasPlaceFor [.ref b0_2, .ref b2, .int (gi x b2 2), .int (1 <<< (l4 &&& 31))] K x (fun r_3 y_2 => (r_3 = 0 → (GI mX7_blocked 44 [some (.ref b0), some (.int l1), some (.ref b2), some (.int l3), some (.int (l4 + 1))] [] K y_2 Q)) ∧ (¬ r_3 = 0 → (GI mX7_blocked 44 [some (.ref b0), some (.int l1), some (.ref b2), some (.int (l3 ||| (1 <<< (l4 &&& 31)))), some (.int (l4 + 1))] [] K y_2 Q)))))) : GI mX7_blocked 44 [some (.ref b0), some (.int l1), some (.ref b2), some (.int l3), some (.int l4)] [] K x Q := by
  show mGM mX7_blocked 44 [some (.ref b0), some (.int l1), some (.ref b2), some (.int l3), some (.int l4)] [] (hp K x) (PI K Q)
  refine r_iload (pc := 44) dX7_blocked_44 rfl ?_
  refine r_aload_n (pc := 46) dX7_blocked_46 rfl ?_
  refine s_getR (pc := 47) dX7_blocked_47 fl_X7_20 rfl k_b0 g_b0_2 ?_
  refine s_getI (pc := 50) dX7_blocked_50 fl_X7_97 rfl k_b0_2 ?_
  refine r_icmp_ge (pc := 53) (tgt := 88) dX7_blocked_53 (by decide) (fun q => ?_) (fun q => ?_)
  · have K0 := K0.1 q
    refine r_iload_n (pc := 88) dX7_blocked_88 rfl ?_
    exact s_iret rfl dX7_blocked_89 K0
  · have K0 := K0.2 q
    refine r_aload_n (pc := 56) dX7_blocked_56 rfl ?_
    refine s_getR (pc := 57) dX7_blocked_57 fl_X7_20 rfl k_b0 g_b0_2 ?_
    refine r_aload_n (pc := 60) dX7_blocked_60 rfl ?_
    refine r_aload_n (pc := 61) dX7_blocked_61 rfl ?_
    refine s_getI (pc := 62) dX7_blocked_62 fl_X7_184 rfl k_b2 ?_
    refine r_iconst (pc := 65) (v := 1) dX7_blocked_65 (by decide) ?_
    refine r_iload (pc := 66) dX7_blocked_66 rfl ?_
    refine r_ishl (pc := 68) dX7_blocked_68 ?_
    refine s_VI (pc := 69) mX4_hasPlaceFor (ci := 4) (a := b0_2) (As := [.ref b2, .int (gi x b2 2), .int (1 <<< (l4 &&& 31))]) dX7_blocked_69 lk_X7_299 in_X4_hasPlaceFor mo_X4_hasPlaceFor ⟨by decide, rfl⟩ ⟨by decide, by decide⟩ (Nat.le_of_ble_eq_true rfl) k_b0_2 (mSI_mono K0 (fun r_3 y_2 K0 => ?_))
    refine r_if_eq (pc := 72) (tgt := 82) dX7_blocked_72 (by decide) (fun q => ?_) (fun q => ?_)
    · have K0 := K0.1 q
      refine r_iinc (pc := 82) (v := l4 + 1) dX7_blocked_82 rfl rfl (by decide) ?_
      refine r_goto (pc := 85) (L := [some (.ref b0), some (.int l1), some (.ref b2), some (.int l3), some (.int (l4 + 1))]) (tgt := 44) dX7_blocked_85 (by decide) ?_
      exact r_le (L' := [some (.ref b0), some (.int l1), some (.ref b2), some (.int l3), some (.int (l4 + 1))]) ⟨rfl, ⟨rfl, ⟨rfl, ⟨rfl, ⟨rfl, trivial⟩⟩⟩⟩⟩ K0
    · have K0 := K0.2 q
      refine r_iload_n (pc := 75) dX7_blocked_75 rfl ?_
      refine r_iconst (pc := 76) (v := 1) dX7_blocked_76 (by decide) ?_
      refine r_iload (pc := 77) dX7_blocked_77 rfl ?_
      refine r_ishl (pc := 79) dX7_blocked_79 ?_
      refine r_ior (pc := 80) dX7_blocked_80 ?_
      refine r_istore_n (pc := 81) dX7_blocked_81 (by decide) ?_
      refine r_iinc (pc := 82) (L := [some (.ref b0), some (.int l1), some (.ref b2), some (.int (l3 ||| (1 <<< (l4 &&& 31)))), some (.int l4)]) (v := l4 + 1) dX7_blocked_82 rfl rfl (by decide) ?_
      refine r_goto (pc := 85) (L := [some (.ref b0), some (.int l1), some (.ref b2), some (.int (l3 ||| (1 <<< (l4 &&& 31)))), some (.int (l4 + 1))]) (tgt := 44) dX7_blocked_85 (by decide) ?_
      exact r_le (L' := [some (.ref b0), some (.int l1), some (.ref b2), some (.int (l3 ||| (1 <<< (l4 &&& 31)))), some (.int (l4 + 1))]) ⟨rfl, ⟨rfl, ⟨rfl, ⟨rfl, ⟨rfl, trivial⟩⟩⟩⟩⟩ K0
set_option maxHeartbeats 2000000 in
theorem v_X8_blocked_0 {K : Sh} {x : Cn} {Q : Int32 → Cn → Prop} {b0 : Nat} {l1 : Int32} {b0_1 : Nat} {n_b0_1 : Nat} {b0_3 : Nat} {n_b0_3 : Nat} (k_b0 : kk K b0 = some (8, 0)) (g_b0_1 : gr x b0 1 = some b0_1) (k_b0_1 : kk K b0_1 = some (20, n_b0_1)) (g_b0_3 : gr x b0 3 = some b0_3) (k_b0_3 : kk K b0_3 = some (20, n_b0_3)) (K0 : vp_in 3 n_b0_1 ∧ (((0 ≤ l1 ∧ l1 ≤ gi x b0_1 3 - 1) → ((l24 l1 n_b0_3) ∧ (((f_span (ao (gi x b0_3) (l1 : Int32).toNatClampNeg 4) (ao (gi x b0_3) (l1 : Int32).toNatClampNeg 5) &&& f_span (gi x b0_3 4) (gi x b0_3 0 - 1)) = 0 → (Q 0 x)) ∧ (¬ (f_span (ao (gi x b0_3) (l1 : Int32).toNatClampNeg 4) (ao (gi x b0_3) (l1 : Int32).toNatClampNeg 5) &&& f_span (gi x b0_3 4) (gi x b0_3 0 - 1)) = 0 → (mSI mX8_canAsk [.ref b0, .int l1, .int (ao (gi x b0_3) (l1 : Int32).toNatClampNeg 2), .int (-1)] K x (fun r_6 y_5 => (r_6 = 0 → (GI mX8_blocked 40 [some (.ref b0), some (.int l1), some (.int 0), some (.int 0)] [] K y_5 Q)) ∧ (¬ r_6 = 0 → (Q 0 y_5)))))))) ∧ (¬ (0 ≤ l1 ∧ l1 ≤ gi x b0_1 3 - 1) → (Q (-2) x)))) : mSI mX8_blocked [.ref b0, .int l1] K x Q := by
  refine s_I (by decide) (by simp [Value.category]) (Nat.le_of_ble_eq_true rfl) ?_
  show mGM mX8_blocked 0 [some (.ref b0), some (.int l1), none, none] [] (hp K x) (PI K Q)
  refine r_aload_n (pc := 0) dX8_blocked_0 rfl ?_
  refine r_iload_n (pc := 1) dX8_blocked_1 rfl ?_
  obtain ⟨i_1, K0⟩ := K0
  refine s_VI (pc := 2) mX8_isAsk (ci := 8) (a := b0) (As := [.int l1]) dX8_blocked_2 lk_X8_281 in_X8_isAsk mo_X8_isAsk ⟨by decide, rfl⟩ ⟨by decide, by decide⟩ (Nat.le_of_ble_eq_true rfl) k_b0 (sp_X8_isAsk k_b0 g_b0_1 k_b0_1 i_1 ?_)
  refine r_if_ne (pc := 5) (tgt := 11) dX8_blocked_5 (by decide) (fun q => ?_) (fun q => ?_)
  · have q := b2i_nz q
    have K0 := K0.1 q
    refine r_aload_n (pc := 11) dX8_blocked_11 rfl ?_
    refine r_iload_n (pc := 12) dX8_blocked_12 rfl ?_
    obtain ⟨p_3, K0⟩ := K0
    refine s_VI (pc := 13) mX8_weeksOf (ci := 8) (a := b0) (As := [.int l1]) dX8_blocked_13 lk_X8_326 in_X8_weeksOf mo_X8_weeksOf ⟨by decide, rfl⟩ ⟨by decide, by decide⟩ (Nat.le_of_ble_eq_true rfl) k_b0 (sr_X8_weeksOf k_b0 g_b0_3 k_b0_3 p_3 ?_)
    refine r_if_eq (pc := 16) (tgt := 34) dX8_blocked_16 (by decide) (fun q => ?_) (fun q => ?_)
    · have K0 := K0.1 q
      refine r_iconst (pc := 34) (v := 0) dX8_blocked_34 (by decide) ?_
      exact s_iret rfl dX8_blocked_35 K0
    · have K0 := K0.2 q
      refine r_aload_n (pc := 19) dX8_blocked_19 rfl ?_
      refine r_iload_n (pc := 20) dX8_blocked_20 rfl ?_
      refine r_aload_n (pc := 21) dX8_blocked_21 rfl ?_
      refine r_iload_n (pc := 22) dX8_blocked_22 rfl ?_
      refine r_iconst (pc := 23) (v := 2) dX8_blocked_23 (by decide) ?_
      refine s_VI (pc := 24) mX8_ask0 (ci := 8) (a := b0) (As := [.int l1, .int 2]) dX8_blocked_24 lk_X8_284 in_X8_ask0 mo_X8_ask0 ⟨by decide, rfl⟩ ⟨by decide, by decide⟩ (Nat.le_of_ble_eq_true rfl) k_b0 (sr_X8_ask0 k_b0 g_b0_3 k_b0_3 p_3 ⟨by decide, by decide⟩ ?_)
      refine r_iconst (pc := 27) (v := (-1)) dX8_blocked_27 (by decide) ?_
      refine s_VI (pc := 28) mX8_canAsk (ci := 8) (a := b0) (As := [.int l1, .int (ao (gi x b0_3) (l1 : Int32).toNatClampNeg 2), .int (-1)]) dX8_blocked_28 lk_X8_329 in_X8_canAsk mo_X8_canAsk ⟨by decide, rfl⟩ ⟨by decide, by decide⟩ (Nat.le_of_ble_eq_true rfl) k_b0 (mSI_mono K0 (fun r_6 y_5 K0 => ?_))
      refine r_if_eq (pc := 31) (tgt := 36) dX8_blocked_31 (by decide) (fun q => ?_) (fun q => ?_)
      · have K0 := K0.1 q
        refine r_iconst (pc := 36) (v := 0) dX8_blocked_36 (by decide) ?_
        refine r_istore_n (pc := 37) dX8_blocked_37 (by decide) ?_
        refine r_iconst (pc := 38) (L := [some (.ref b0), some (.int l1), some (.int 0), none]) (v := 0) dX8_blocked_38 (by decide) ?_
        refine r_istore_n (pc := 39) dX8_blocked_39 (by decide) ?_
        exact r_le (L' := [some (.ref b0), some (.int l1), some (.int 0), some (.int 0)]) ⟨rfl, ⟨rfl, ⟨rfl, ⟨rfl, trivial⟩⟩⟩⟩ K0
      · have K0 := K0.2 q
        refine r_iconst (pc := 34) (v := 0) dX8_blocked_34 (by decide) ?_
        exact s_iret rfl dX8_blocked_35 K0
  · have q := (b2i_z _).mp q
    have K0 := K0.2 q
    refine r_bipush (pc := 8) (v := (-2)) dX8_blocked_8 (by decide) ?_
    exact s_iret rfl dX8_blocked_10 K0
set_option maxHeartbeats 2000000 in
theorem v_X8_blocked_40 {K : Sh} {x : Cn} {Q : Int32 → Cn → Prop} {b0 : Nat} {l1 : Int32} {l2 : Int32} {l3 : Int32} {b0_1 : Nat} {n_b0_1 : Nat} {b0_3 : Nat} {n_b0_3 : Nat} (k_b0 : kk K b0 = some (8, 0)) (g_b0_1 : gr x b0 1 = some b0_1) (k_b0_1 : kk K b0_1 = some (20, n_b0_1)) (g_b0_3 : gr x b0 3 = some b0_3) (k_b0_3 : kk K b0_3 = some (20, n_b0_3)) (K0 : vp_in 2 n_b0_1 ∧ (((gi x b0_1 2) ≤ l3 → (Q l2 x)) ∧ (¬ (gi x b0_1 2) ≤ l3 → ((l24 l1 n_b0_3) ∧ (mSI mX8_canAsk [.ref b0, .int l1, .int (ao (gi x b0_3) (l1 : Int32).toNatClampNeg 2), .int l3] K x (fun r_5 y_4 => (r_5 = 0 → (GI mX8_blocked 40 [some (.ref b0), some (.int l1), some (.int (l2 ||| 0)), some (.int (l3 + 1))] [] K y_4 Q)) ∧ (¬ r_5 = 0 → (GI mX8_blocked 40 [some (.ref b0), some (.int l1), some (.int (l2 ||| (1 <<< (l3 &&& 31)))), some (.int (l3 + 1))] [] K y_4 Q)))))))) : GI mX8_blocked 40 [some (.ref b0), some (.int l1), some (.int l2), some (.int l3)] [] K x Q := by
  show mGM mX8_blocked 40 [some (.ref b0), some (.int l1), some (.int l2), some (.int l3)] [] (hp K x) (PI K Q)
  refine r_iload_n (pc := 40) dX8_blocked_40 rfl ?_
  refine r_aload_n (pc := 41) dX8_blocked_41 rfl ?_
  refine s_getR (pc := 42) dX8_blocked_42 fl_X8_9 rfl k_b0 g_b0_1 ?_
  refine r_iconst (pc := 45) (v := 2) dX8_blocked_45 (by decide) ?_
  obtain ⟨i_1, K0⟩ := K0
  refine s_iald (pc := 46) dX8_blocked_46 k_b0_1 i_1 ?_
  refine r_icmp_ge (pc := 47) (tgt := 81) dX8_blocked_47 (by decide) (fun q => ?_) (fun q => ?_)
  · have K0 := K0.1 q
    refine r_iload_n (pc := 81) dX8_blocked_81 rfl ?_
    exact s_iret rfl dX8_blocked_82 K0
  · have K0 := K0.2 q
    refine r_iload_n (pc := 50) dX8_blocked_50 rfl ?_
    refine r_aload_n (pc := 51) dX8_blocked_51 rfl ?_
    refine r_iload_n (pc := 52) dX8_blocked_52 rfl ?_
    refine r_aload_n (pc := 53) dX8_blocked_53 rfl ?_
    refine r_iload_n (pc := 54) dX8_blocked_54 rfl ?_
    refine r_iconst (pc := 55) (v := 2) dX8_blocked_55 (by decide) ?_
    obtain ⟨p_3, K0⟩ := K0
    refine s_VI (pc := 56) mX8_ask0 (ci := 8) (a := b0) (As := [.int l1, .int 2]) dX8_blocked_56 lk_X8_284 in_X8_ask0 mo_X8_ask0 ⟨by decide, rfl⟩ ⟨by decide, by decide⟩ (Nat.le_of_ble_eq_true rfl) k_b0 (sr_X8_ask0 k_b0 g_b0_3 k_b0_3 p_3 ⟨by decide, by decide⟩ ?_)
    refine r_iload_n (pc := 59) dX8_blocked_59 rfl ?_
    refine s_VI (pc := 60) mX8_canAsk (ci := 8) (a := b0) (As := [.int l1, .int (ao (gi x b0_3) (l1 : Int32).toNatClampNeg 2), .int l3]) dX8_blocked_60 lk_X8_329 in_X8_canAsk mo_X8_canAsk ⟨by decide, rfl⟩ ⟨by decide, by decide⟩ (Nat.le_of_ble_eq_true rfl) k_b0 (mSI_mono K0 (fun r_5 y_4 K0 => ?_))
    refine r_if_eq (pc := 63) (tgt := 72) dX8_blocked_63 (by decide) (fun q => ?_) (fun q => ?_)
    · have K0 := K0.1 q
      refine r_iconst (pc := 72) (v := 0) dX8_blocked_72 (by decide) ?_
      refine r_ior (pc := 73) dX8_blocked_73 ?_
      refine r_istore_n (pc := 74) dX8_blocked_74 (by decide) ?_
      refine r_iinc (pc := 75) (L := [some (.ref b0), some (.int l1), some (.int (l2 ||| 0)), some (.int l3)]) (v := l3 + 1) dX8_blocked_75 rfl rfl (by decide) ?_
      refine r_goto (pc := 78) (L := [some (.ref b0), some (.int l1), some (.int (l2 ||| 0)), some (.int (l3 + 1))]) (tgt := 40) dX8_blocked_78 (by decide) ?_
      exact r_le (L' := [some (.ref b0), some (.int l1), some (.int (l2 ||| 0)), some (.int (l3 + 1))]) ⟨rfl, ⟨rfl, ⟨rfl, ⟨rfl, trivial⟩⟩⟩⟩ K0
    · have K0 := K0.2 q
      refine r_iconst (pc := 66) (v := 1) dX8_blocked_66 (by decide) ?_
      refine r_iload_n (pc := 67) dX8_blocked_67 rfl ?_
      refine r_ishl (pc := 68) dX8_blocked_68 ?_
      refine r_goto (pc := 69) (tgt := 73) dX8_blocked_69 (by decide) ?_
      refine r_ior (pc := 73) dX8_blocked_73 ?_
      refine r_istore_n (pc := 74) dX8_blocked_74 (by decide) ?_
      refine r_iinc (pc := 75) (L := [some (.ref b0), some (.int l1), some (.int (l2 ||| (1 <<< (l3 &&& 31)))), some (.int l3)]) (v := l3 + 1) dX8_blocked_75 rfl rfl (by decide) ?_
      refine r_goto (pc := 78) (L := [some (.ref b0), some (.int l1), some (.int (l2 ||| (1 <<< (l3 &&& 31)))), some (.int (l3 + 1))]) (tgt := 40) dX8_blocked_78 (by decide) ?_
      exact r_le (L' := [some (.ref b0), some (.int l1), some (.int (l2 ||| (1 <<< (l3 &&& 31)))), some (.int (l3 + 1))]) ⟨rfl, ⟨rfl, ⟨rfl, ⟨rfl, trivial⟩⟩⟩⟩ K0
theorem eq_fits (a : Int32) : Both mX7_fits mX8_fits [.int a] := by
  intro x R
  obtain ⟨W, C, S, A, N, E, -, -⟩ := R.sea
  have hn := E.nums
  have hA : A ≤ 24 := hn.2.2.2.2.2.2.2.1
  have hW : W ≤ 30 := hn.2.2.2.2.1
  have hN : N ≤ W := hn.2.2.2.2.2.2.2.2
  have ia := inN' (v := a) (n := A) (by omega)
  let F : TT → Int32 := fun T => if 0 ≤ a ∧ a < nI A then (if nI N ≤ ao T a.toNatClampNeg 5 then bP (fitA T S N a.toNatClampNeg (ao T a.toNatClampNeg 2).toNatClampNeg 0) else -1) else -2
  have rf : ∀ y, EQx x y 7 → mSI mX8_fits [.ref 717, .int a] KW y (fun r' z => F (gi x 718) = r' ∧ Rel z) := by
    intro y hy
    obtain ⟨R2, eT⟩ := R.e7 hy
    have E2 := E.eqx hy (Or.inl rfl)
    rw [← eT] at E2 ⊢
    have ht := Rel.t2 E2
    refine v_X8_fits_0 km R2.2.1.1 km1 R2.2.1.2.2.1 km1 ⟨v0 (k := 3) (by decide) rfl rfl, ?_⟩
    rw [ht.2.2.2.1, ia]
    refine ⟨fun z => ?_, fun z => ⟨if_neg z, R2⟩⟩
    have eF : F (gi y 718) = (if nI N ≤ ao (gi y 718) a.toNatClampNeg 5 then bP (fitA (gi y 718) S N a.toNatClampNeg (ao (gi y 718) a.toNatClampNeg 2).toNatClampNeg 0) else -1) := if_pos z
    rw [eF]
    obtain ⟨i, hi, rfl⟩ := inN (by omega) z
    rw [nI_clamp (show i < 2 ^ 31 by omega)]
    obtain ⟨-, -, ⟨h, h1, h2⟩, -, ⟨f, l, f1, f2, f3, f4⟩, -⟩ := E2.2.2.2.2.2.2.2.2.2.2.2.2.2.2.2.2 i hi
    refine ⟨l24_nI (by omega) rfl, ?_⟩
    rw [f3, f4, ht.2.2.2.2, ht.1, span_and0 (by omega) f2 hW hN, h2, nI_clamp (show h < 2 ^ 31 by omega)]
    refine ⟨fun w => ?_, fun w => ⟨if_neg (nI_ge w (by omega)), R2⟩⟩
    rw [if_pos (nI_le (by omega) (by omega))]
    exact sp_X8_canAsk R2.2.1 km1 E2.2.2.2 hi h1 wo_0 ⟨fun g => ⟨g, R2⟩, fun g => ⟨(bP_01 _).resolve_left g, R2⟩⟩
  refine v_X7_fits_0 k0 R.1.2.1 (ks0 E.1) E.2.1.2.2.2.1 (ks4 E.1) ?_
  rw [hn.2.2.2.1, hn.2.1]
  refine ⟨fun z => ?_, fun z => ?_⟩
  · have eF : F (gi x 718) = (if nI N ≤ ao (gi x 718) a.toNatClampNeg 5 then bP (fitA (gi x 718) S N a.toNatClampNeg (ao (gi x 718) a.toNatClampNeg 2).toNatClampNeg 0) else -1) := if_pos z
    rw [eF] at rf
    obtain ⟨i, hi, rfl⟩ := inN (by omega) z
    rw [nI_clamp (show i < 2 ^ 31 by omega)] at rf ⊢
    obtain ⟨p, e1, e2, e3, e4⟩ := E.ask hi
    obtain ⟨-, -, ⟨h, h1, h2⟩, -⟩ := e4
    refine ⟨vp_in_nI (by omega) (by decide), p, e1, e2, ?_⟩
    rw [e3 5 (by decide), e3 2 (by decide), h2]
    rw [h2, nI_clamp (show h < 2 ^ 31 by omega)] at rf
    refine ⟨fun w => ?_, fun w => ?_⟩
    · rw [if_pos w] at rf
      exact sp_X4_hasPlaceFor E e2 e3 h1 (fun y hy => ⟨fun g => by have := rf y hy; rwa [g] at this, fun g => by have := rf y hy; rwa [(bP_01 _).resolve_left g] at this⟩)
    · have := rf x (EQx.rf _ _)
      rwa [if_neg w] at this
  · have eF : F (gi x 718) = -2 := if_neg z
    have := rf x (EQx.rf _ _)
    rwa [eF] at this
theorem eq_fitting (a b c d : Int32) : Both mX7_fitting mX8_fitting [.int a, .int b, .int c, .int d] := by
  intro x R
  obtain ⟨W, C, S, A, N, E, -, -⟩ := R.sea
  have hn := E.nums
  have hW : W ≤ 30 := hn.2.2.2.2.1
  have hN : N ≤ W := hn.2.2.2.2.2.2.2.2
  have ic := inN' (v := c) (n := W) (by omega)
  have id := inN' (v := d) (n := W) (by omega)
  have ib : (0 ≤ b ∧ b ≤ 1) ↔ (b = 0 ∨ b = 1) := by
    constructor
    · intro z
      obtain ⟨j, hj, rfl⟩ := nI_of2 (M := 1) (n := 1) (by decide) (Int32.not_lt.mpr z.1) z.2
      have : j = 0 ∨ j = 1 := by omega
      rcases this with rfl | rfl
      · exact Or.inl rfl
      · exact Or.inr rfl
    · rintro (rfl | rfl) <;> decide
  let OK : Prop := (0 < nI W ∧ 0 ≤ a ∧ a < 7) ∧ (b = 0 ∨ b = 1) ∧ (0 ≤ c ∧ c < nI W) ∧ (0 ≤ d ∧ d < nI W) ∧ c ≤ d
  let g : TT → Nat → Int32 → Int32 := fun T => orP (fun h => bP (fitC T S N a h b (f_sb c d) 0))
  have rf : ∀ y, EQx x y 7 → mSI mX8_fitting [.ref 717, .int a, .int b, .int c, .int d] KW y (fun r' z => ((OK → accT (g (gi x 718)) 24 0 = r') ∧ (¬ OK → -2 = r')) ∧ Rel z) := by
    intro y hy
    obtain ⟨R2, eT⟩ := R.e7 hy
    have E2 := E.eqx hy (Or.inl rfl)
    rw [← eT] at E2 ⊢
    have ht := Rel.t2 E2
    refine v_X8_fitting_0 km R2.2.1.1 km1 ⟨v0 (k := 0) (by decide) rfl rfl, ?_⟩
    rw [ht.1, d7, ib, ic, id]
    have no : ¬ OK → ((OK → accT (g (gi y 718)) 24 0 = -2) ∧ (¬ OK → (-2 : Int32) = -2)) ∧ Rel y := fun z => ⟨⟨fun w => absurd w z, fun _ => rfl⟩, R2⟩
    refine ⟨fun z => no (fun w => z w.1), fun z1 => ⟨fun z => no (fun w => z w.2.1), fun z2 => ⟨fun z => no (fun w => z w.2.2.1), fun z3 => ⟨fun z => no (fun w => z w.2.2.2.1), fun z4 => ⟨fun z5 => ?_, fun z => no (fun w => z w.2.2.2.2)⟩⟩⟩⟩⟩
    have ok : OK := ⟨z1, z2, z3, z4, z5⟩
    obtain ⟨f, hf, rfl⟩ := inN (by omega) z3
    obtain ⟨l, hl, rfl⟩ := inN (by omega) z4
    have hfl : f ≤ l := (nI_leI (by omega) (by omega)).mp z5
    refine lp_acc (g (gi y 718)) (fun h n => GI mX8_fitting 50 [some (.ref 717), some (.int a), some (.int b), some (.int (nI f)), some (.int (nI l)), some (.int n), some (.int (nI h))] [] KW y _) 24 0 ?_ (fun h n hh n1 => ?_)
    · exact v_X8_fitting_50 km ⟨fun _ => ⟨⟨fun _ => rfl, fun w => absurd ok w⟩, R2⟩, fun z => absurd (Int32.le_refl _) z⟩
    · refine v_X8_fitting_50 km ⟨fun z => absurd z (nI_ge (b := 24) hh (by decide)), fun _ => ?_⟩
      refine sp_X8_canBe R2.2.1 km1 E2.2.2.2 hh z2 ?_ wo_0 ?_
      · intro i hi w1 _
        rw [tb_span0 f (by omega) l (by omega) i hi] at w1
        have := of_decide_eq_true w1
        omega
      · rw [nI_1, Int32.or_zero, ← sb_span hfl (by omega)]
        exact ⟨fun w => n1 _ (if_pos w), fun w => n1 _ (if_neg w)⟩
  have rfn : ¬ OK → mSI mX8_fitting [.ref 717, .int a, .int b, .int c, .int d] KW x (fun r' z => -2 = r' ∧ Rel z) := fun z => mSI_mono (rf x (EQx.rf _ _)) (fun r y w => ⟨w.1.2 z, w.2⟩)
  refine v_X7_fitting_0 k0 R.1.2.1 (ks0 E.1) ?_
  rw [hn.1]
  refine ⟨fun z => rfn (fun w => z w.1), fun z1 => ⟨fun z => rfn (fun w => z w.2.1), fun z2 => ⟨fun z => rfn (fun w => z w.2.2.1), fun z3 => ⟨fun z => rfn (fun w => z w.2.2.2.1), fun z4 => ⟨fun z5 => ?_, fun z => rfn (fun w => z w.2.2.2.2)⟩⟩⟩⟩⟩
  have ok : OK := ⟨z1, z2, z3, z4, z5⟩
  refine lp_acc (g (gi x 718)) (fun h n => ∀ y, EQx x y 7 → GI mX7_fitting 55 [some (.ref 0), some (.int a), some (.int b), some (.int c), some (.int d), some (.int (f_sb c d)), some (.int n), some (.int (nI h))] [] KW y _) 24 0 ?_ (fun h n hh n1 => ?_) x (EQx.rf _ _)
  · intro y hy
    have c1 := R.1.keep hy.1
    exact v_X7_fitting_55 k0 c1.2.1 (ks0 E.1) ⟨fun _ => mSI_mono (rf y hy) (fun r z w => ⟨w.1.1 ok, w.2⟩), fun z => absurd (Int32.le_refl _) z⟩
  · intro y hy
    have c1 := R.1.keep hy.1
    have E2 := E.eqx hy (Or.inl rfl)
    refine v_X7_fitting_55 k0 c1.2.1 (ks0 E.1) ⟨fun z => absurd z (nI_ge (b := 24) hh (by decide)), fun _ => ?_⟩
    refine sp_X4_hasPlace E2 hh (fun z hz => ?_)
    rw [nI_1]
    exact ⟨fun w => n1 _ (if_pos w) z (hy.tr hz), fun w => n1 _ (if_neg w) z (hy.tr hz)⟩
theorem eq_blocked (a : Int32) : Both mX7_blocked mX8_blocked [.int a] := by
  intro x R
  obtain ⟨W, C, S, A, N, E, -, -⟩ := R.sea
  have hn := E.nums
  have hA : A ≤ 24 := hn.2.2.2.2.2.2.2.1
  have hS : S ≤ 24 := hn.2.2.2.2.2.2.1
  have hW : W ≤ 30 := hn.2.2.2.2.1
  have hN : N ≤ W := hn.2.2.2.2.2.2.2.2
  have ia := inN' (v := a) (n := A) (by omega)
  let g : TT → Nat → Nat → Nat → Int32 → Int32 := fun T i h => orP (fun s => bP (fitA T S N i h (1 <<< (nI s &&& 31))))
  let F : TT → Int32 := fun T => if 0 ≤ a ∧ a < nI A then (if bP (fitA T S N a.toNatClampNeg (ao T a.toNatClampNeg 2).toNatClampNeg 0) = 0 then accT (g T a.toNatClampNeg (ao T a.toNatClampNeg 2).toNatClampNeg) S 0 else 0) else -2
  have rf : ∀ y, EQx x y 7 → mSI mX8_blocked [.ref 717, .int a] KW y (fun r' z => F (gi x 718) = r' ∧ Rel z) := by
    intro y hy
    obtain ⟨R2, eT⟩ := R.e7 hy
    have E2 := E.eqx hy (Or.inl rfl)
    rw [← eT] at E2 ⊢
    have ht := Rel.t2 E2
    refine v_X8_blocked_0 km R2.2.1.1 km1 R2.2.1.2.2.1 km1 ⟨v0 (k := 3) (by decide) rfl rfl, ?_⟩
    rw [ht.2.2.2.1, ia]
    refine ⟨fun z => ?_, fun z => ⟨if_neg z, R2⟩⟩
    have eF : F (gi y 718) = (if bP (fitA (gi y 718) S N a.toNatClampNeg (ao (gi y 718) a.toNatClampNeg 2).toNatClampNeg 0) = 0 then accT (g (gi y 718) a.toNatClampNeg (ao (gi y 718) a.toNatClampNeg 2).toNatClampNeg) S 0 else 0) := if_pos z
    rw [eF]
    obtain ⟨i, hi, rfl⟩ := inN (by omega) z
    rw [nI_clamp (show i < 2 ^ 31 by omega)]
    obtain ⟨-, -, ⟨h, h1, h2⟩, -, ⟨f, l, f1, f2, f3, f4⟩, -⟩ := E2.2.2.2.2.2.2.2.2.2.2.2.2.2.2.2.2 i hi
    refine ⟨l24_nI (by omega) rfl, ?_⟩
    rw [h2, nI_clamp (show h < 2 ^ 31 by omega)]
    refine ⟨fun w => ?_, fun _ => sp_X8_canAsk R2.2.1 km1 E2.2.2.2 hi h1 wo_0 ⟨fun w => ?_, fun w => ⟨if_neg w, R2⟩⟩⟩
    · rw [f3, f4, ht.2.2.2.2, ht.1, span_and0 (by omega) f2 hW hN] at w
      rw [if_neg]
      · exact ⟨rfl, R2⟩
      · rw [bP_t]
        · decide
        · intro j hj w1 w2
          rw [f3, f4, tb_sb0 f (by omega) l (by omega) (by omega) j hj] at w1
          have := of_decide_eq_true w1
          omega
    · rw [if_pos w]
      refine lp_acc (g (gi y 718) i h) (fun s n => GI mX8_blocked 40 [some (.ref 717), some (.int (nI i)), some (.int n), some (.int (nI s))] [] KW y _) S 0 ?_ (fun s n hs n1 => ?_)
      · exact v_X8_blocked_40 km R2.2.1.1 km1 R2.2.1.2.2.1 km1 ⟨v0 (k := 2) (by decide) rfl rfl, fun _ => ⟨rfl, R2⟩, fun z => absurd (by rw [ht.2.2.1]; exact Int32.le_refl _) z⟩
      · refine v_X8_blocked_40 km R2.2.1.1 km1 R2.2.1.2.2.1 km1 ⟨v0 (k := 2) (by decide) rfl rfl, fun z => absurd (by rw [ht.2.2.1] at z; exact z) (nI_ge hs (by omega)), fun _ => ⟨l24_nI (by omega) rfl, ?_⟩⟩
        rw [nI_clamp (show i < 2 ^ 31 by omega), h2, nI_1, Int32.or_zero]
        exact sp_X8_canAsk R2.2.1 km1 E2.2.2.2 hi h1 (wo_1 (by omega)) ⟨fun w => n1 _ (if_pos w), fun w => n1 _ (if_neg w)⟩
  refine v_X7_blocked_0 k0 R.1.2.1 (ks0 E.1) E.2.1.2.2.2.1 (ks4 E.1) ?_
  rw [hn.2.2.2.1]
  refine ⟨fun z => ?_, fun z => ?_⟩
  · have eF : F (gi x 718) = (if bP (fitA (gi x 718) S N a.toNatClampNeg (ao (gi x 718) a.toNatClampNeg 2).toNatClampNeg 0) = 0 then accT (g (gi x 718) a.toNatClampNeg (ao (gi x 718) a.toNatClampNeg 2).toNatClampNeg) S 0 else 0) := if_pos z
    rw [eF] at rf
    obtain ⟨i, hi, rfl⟩ := inN (by omega) z
    rw [nI_clamp (show i < 2 ^ 31 by omega)] at rf ⊢
    obtain ⟨p, e1, e2, e3, e4⟩ := E.ask hi
    obtain ⟨-, -, ⟨h, h1, h2⟩, -⟩ := e4
    refine ⟨vp_in_nI (by omega) (by decide), p, e1, e2, ?_⟩
    rw [e3 2 (by decide), h2]
    rw [h2, nI_clamp (show h < 2 ^ 31 by omega)] at rf
    refine sp_X4_hasPlaceFor E e2 e3 h1 (fun y hy => ⟨fun w => ?_, fun w => by have := rf y hy; rwa [if_neg w] at this⟩)
    rw [if_pos w] at rf
    refine lp_acc (g (gi x 718) i h) (fun s n => ∀ y, EQx x y 7 → GI mX7_blocked 44 [some (.ref 0), some (.int (nI i)), some (.ref p), some (.int n), some (.int (nI s))] [] KW y _) S 0 ?_ (fun s n hs n1 => ?_) y hy
    · intro y hy
      have c1 := R.1.keep hy.1
      have hn2 := (E.eqx hy (Or.inl rfl)).nums
      exact v_X7_blocked_44 k0 c1.2.1 (ks0 E.1) e2 ⟨fun _ => rf y hy, fun z => absurd (by rw [hn2.2.2.1]; exact Int32.le_refl _) z⟩
    · intro y hy
      have c1 := R.1.keep hy.1
      have E2 := E.eqx hy (Or.inl rfl)
      have hn2 := E2.nums
      have ep : gr y 6 i = some p := by unfold gr; rw [hy.1]; exact e1
      have e3' := E2.2.2.1.2.2.2.2.2.2.2 i p hi ep
      refine v_X7_blocked_44 k0 c1.2.1 (ks0 E.1) e2 ⟨fun z => absurd (by rw [hn2.2.2.1] at z; exact z) (nI_ge hs (by omega)), fun _ => ?_⟩
      rw [e3' 2 (by decide), h2, nI_1]
      exact sp_X4_hasPlaceFor E2 e2 e3' h1 (fun z hz => ⟨fun w => n1 _ (if_pos w) z (hy.tr hz), fun w => n1 _ (if_neg w) z (hy.tr hz)⟩)
  · have eF : F (gi x 718) = -2 := if_neg z
    have := rf x (EQx.rf _ _)
    rwa [eF] at this
end

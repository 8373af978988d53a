set_option maxHeartbeats 2000000 in
theorem v_X8_isDay_0 {K : Sh} {x : Cn} {Q : Int32 → Cn → Prop} {b0 : Nat} {l1 : Int32} {b0_1 : Nat} {n_b0_1 : Nat} (k_b0 : kk K b0 = some (8, 0)) (g_b0_1 : gr x b0 1 = some b0_1) (k_b0_1 : kk K b0_1 = some (20, n_b0_1)) (K0 : vp_in 0 n_b0_1 ∧ ((¬ (0 < gi x b0_1 0) → (Q 0 x)) ∧ ((0 < gi x b0_1 0) → ((¬ (0 ≤ l1 ∧ l1 ≤ 6) → (Q 0 x)) ∧ ((0 ≤ l1 ∧ l1 ≤ 6) → (Q 1 x)))))) : mSI mX8_isDay [.ref b0, .int l1] K x Q := by
  refine s_I (by decide) (by simp [Value.category]) (Nat.le_of_ble_eq_true rfl) ?_
  show mGM mX8_isDay 0 [some (.ref b0), some (.int l1)] [] (hp K x) (PI K Q)
  refine r_aload_n (pc := 0) dX8_isDay_0 rfl ?_
  obtain ⟨i_1, K0⟩ := K0
  refine s_VI (pc := 1) mX8_isThere (ci := 8) (a := b0) (As := []) dX8_isDay_1 lk_X8_49 in_X8_isThere mo_X8_isThere ⟨by decide, rfl⟩ ⟨by decide, by decide⟩ (Nat.le_of_ble_eq_true rfl) k_b0 (sp_X8_isThere k_b0 g_b0_1 k_b0_1 i_1 ?_)
  refine r_if_eq (pc := 4) (tgt := 23) dX8_isDay_4 (by decide) (fun q => ?_) (fun q => ?_)
  · have q := (b2i_z _).mp q
    have K0 := K0.1 q
    refine r_iconst (pc := 23) (v := 0) dX8_isDay_23 (by decide) ?_
    exact s_zret rfl (by decide) dX8_isDay_24 K0
  · have q := b2i_nz q
    have K0 := K0.2 q
    refine r_iload_n (pc := 7) dX8_isDay_7 rfl ?_
    refine r_i2l (pc := 8) dX8_isDay_8 ?_
    refine r_lconst (pc := 9) (v := 0) dX8_isDay_9 (by decide) ?_
    refine r_ldc2 (pc := 10) (v := 6) dX8_isDay_10 cn_X8_53 ?_
    refine s_SI (pc := 13) mX8_in (As := [.long ((l1 : Int32).toInt64), .long 0, .long 6]) dX8_isDay_13 lk_X8_45 st_X8_in mo_X8_in ⟨by decide, by decide⟩ (Nat.le_of_ble_eq_true rfl) (sq_X8_in (v := l1) (lo := 0) (hi := 6) rfl (by decide) (by decide) ?_)
    refine r_if_eq (pc := 16) (tgt := 23) dX8_isDay_16 (by decide) (fun q => ?_) (fun q => ?_)
    · have q := (b2i_z _).mp q
      have K0 := K0.1 q
      refine r_iconst (pc := 23) (v := 0) dX8_isDay_23 (by decide) ?_
      exact s_zret rfl (by decide) dX8_isDay_24 K0
    · have q := b2i_nz q
      have K0 := K0.2 q
      refine r_iconst (pc := 19) (v := 1) dX8_isDay_19 (by decide) ?_
      refine r_goto (pc := 20) (tgt := 24) dX8_isDay_20 (by decide) ?_
      exact s_zret rfl (by decide) dX8_isDay_24 K0
section
variable {K : Sh} {x : Cn} {Q : Int32 → Cn → Prop} {b t n : Nat}
theorem sp_X8_isDay {l1 : Int32} (h1 : kk K b = some (8, 0)) (h2 : gr x b 1 = some t) (h3 : kk K t = some (20, n)) (h4 : vp_in 0 n) (k : Q (b2i (0 < gi x t 0 ∧ 0 ≤ l1 ∧ l1 ≤ 6)) x) : mSI mX8_isDay [.ref b, .int l1] K x Q :=
  v_X8_isDay_0 h1 h2 h3 ⟨h4, fun h => (b2i_k k).2 (fun z => h z.1), fun h => ⟨fun g => (b2i_k k).2 (fun z => g z.2), fun g => (b2i_k k).1 ⟨h, g⟩⟩⟩
end
set_option maxHeartbeats 2000000 in
theorem v_X8_isHour_0 {K : Sh} {x : Cn} {Q : Int32 → Cn → Prop} {b0 : Nat} {l1 : Int32} {b0_1 : Nat} {n_b0_1 : Nat} (k_b0 : kk K b0 = some (8, 0)) (g_b0_1 : gr x b0 1 = some b0_1) (k_b0_1 : kk K b0_1 = some (20, n_b0_1)) (K0 : vp_in 0 n_b0_1 ∧ ((¬ (0 < gi x b0_1 0) → (Q 0 x)) ∧ ((0 < gi x b0_1 0) → ((¬ (0 ≤ l1 ∧ l1 ≤ 23) → (Q 0 x)) ∧ ((0 ≤ l1 ∧ l1 ≤ 23) → (Q 1 x)))))) : mSI mX8_isHour [.ref b0, .int l1] K x Q := by
  refine s_I (by decide) (by simp [Value.category]) (Nat.le_of_ble_eq_true rfl) ?_
  show mGM mX8_isHour 0 [some (.ref b0), some (.int l1)] [] (hp K x) (PI K Q)
  refine r_aload_n (pc := 0) dX8_isHour_0 rfl ?_
  obtain ⟨i_1, K0⟩ := K0
  refine s_VI (pc := 1) mX8_isThere (ci := 8) (a := b0) (As := []) dX8_isHour_1 lk_X8_49 in_X8_isThere mo_X8_isThere ⟨by decide, rfl⟩ ⟨by decide, by decide⟩ (Nat.le_of_ble_eq_true rfl) k_b0 (sp_X8_isThere k_b0 g_b0_1 k_b0_1 i_1 ?_)
  refine r_if_eq (pc := 4) (tgt := 23) dX8_isHour_4 (by decide) (fun q => ?_) (fun q => ?_)
  · have q := (b2i_z _).mp q
    have K0 := K0.1 q
    refine r_iconst (pc := 23) (v := 0) dX8_isHour_23 (by decide) ?_
    exact s_zret rfl (by decide) dX8_isHour_24 K0
  · have q := b2i_nz q
    have K0 := K0.2 q
    refine r_iload_n (pc := 7) dX8_isHour_7 rfl ?_
    refine r_i2l (pc := 8) dX8_isHour_8 ?_
    refine r_lconst (pc := 9) (v := 0) dX8_isHour_9 (by decide) ?_
    refine r_ldc2 (pc := 10) (v := 23) dX8_isHour_10 cn_X8_55 ?_
    refine s_SI (pc := 13) mX8_in (As := [.long ((l1 : Int32).toInt64), .long 0, .long 23]) dX8_isHour_13 lk_X8_45 st_X8_in mo_X8_in ⟨by decide, by decide⟩ (Nat.le_of_ble_eq_true rfl) (sq_X8_in (v := l1) (lo := 0) (hi := 23) rfl (by decide) (by decide) ?_)
    refine r_if_eq (pc := 16) (tgt := 23) dX8_isHour_16 (by decide) (fun q => ?_) (fun q => ?_)
    · have q := (b2i_z _).mp q
      have K0 := K0.1 q
      refine r_iconst (pc := 23) (v := 0) dX8_isHour_23 (by decide) ?_
      exact s_zret rfl (by decide) dX8_isHour_24 K0
    · have q := b2i_nz q
      have K0 := K0.2 q
      refine r_iconst (pc := 19) (v := 1) dX8_isHour_19 (by decide) ?_
      refine r_goto (pc := 20) (tgt := 24) dX8_isHour_20 (by decide) ?_
      exact s_zret rfl (by decide) dX8_isHour_24 K0
section
variable {K : Sh} {x : Cn} {Q : Int32 → Cn → Prop} {b t n : Nat}
theorem sp_X8_isHour {l1 : Int32} (h1 : kk K b = some (8, 0)) (h2 : gr x b 1 = some t) (h3 : kk K t = some (20, n)) (h4 : vp_in 0 n) (k : Q (b2i (0 < gi x t 0 ∧ 0 ≤ l1 ∧ l1 ≤ 23)) x) : mSI mX8_isHour [.ref b, .int l1] K x Q :=
  v_X8_isHour_0 h1 h2 h3 ⟨h4, fun h => (b2i_k k).2 (fun z => h z.1), fun h => ⟨fun g => (b2i_k k).2 (fun z => g z.2), fun g => (b2i_k k).1 ⟨h, g⟩⟩⟩
end
set_option maxHeartbeats 2000000 in
theorem v_X8_isPlace_0 {K : Sh} {x : Cn} {Q : Int32 → Cn → Prop} {b0 : Nat} {l1 : Int32} {l2 : Int32} {l3 : Int32} {b0_1 : Nat} {n_b0_1 : Nat} (k_b0 : kk K b0 = some (8, 0)) (g_b0_1 : gr x b0 1 = some b0_1) (k_b0_1 : kk K b0_1 = some (20, n_b0_1)) (K0 : vp_in 0 n_b0_1 ∧ ((¬ (0 ≤ l1 ∧ l1 ≤ gi x b0_1 0 - 1) → (Q 0 x)) ∧ ((0 ≤ l1 ∧ l1 ≤ gi x b0_1 0 - 1) → ((¬ (0 < gi x b0_1 0 ∧ 0 ≤ l2 ∧ l2 ≤ 6) → (Q 0 x)) ∧ ((0 < gi x b0_1 0 ∧ 0 ≤ l2 ∧ l2 ≤ 6) → ((¬ (0 < gi x b0_1 0 ∧ 0 ≤ l3 ∧ l3 ≤ 23) → (Q 0 x)) ∧ ((0 < gi x b0_1 0 ∧ 0 ≤ l3 ∧ l3 ≤ 23) → (Q 1 x)))))))) : mSI mX8_isPlace [.ref b0, .int l1, .int l2, .int l3] K x Q := by
  refine s_I (by decide) (by simp [Value.category]) (Nat.le_of_ble_eq_true rfl) ?_
  show mGM mX8_isPlace 0 [some (.ref b0), some (.int l1), some (.int l2), some (.int l3)] [] (hp K x) (PI K Q)
  refine r_aload_n (pc := 0) dX8_isPlace_0 rfl ?_
  refine r_iload_n (pc := 1) dX8_isPlace_1 rfl ?_
  obtain ⟨i_1, K0⟩ := K0
  refine s_VI (pc := 2) mX8_isWeek (ci := 8) (a := b0) (As := [.int l1]) dX8_isPlace_2 lk_X8_57 in_X8_isWeek mo_X8_isWeek ⟨by decide, rfl⟩ ⟨by decide, by decide⟩ (Nat.le_of_ble_eq_true rfl) k_b0 (sp_X8_isWeek k_b0 g_b0_1 k_b0_1 i_1 ?_)
  refine r_if_eq (pc := 5) (tgt := 28) dX8_isPlace_5 (by decide) (fun q => ?_) (fun q => ?_)
  · have q := (b2i_z _).mp q
    have K0 := K0.1 q
    refine r_iconst (pc := 28) (v := 0) dX8_isPlace_28 (by decide) ?_
    exact s_zret rfl (by decide) dX8_isPlace_29 K0
  · have q := b2i_nz q
    have K0 := K0.2 q
    refine r_aload_n (pc := 8) dX8_isPlace_8 rfl ?_
    refine r_iload_n (pc := 9) dX8_isPlace_9 rfl ?_
    refine s_VI (pc := 10) mX8_isDay (ci := 8) (a := b0) (As := [.int l2]) dX8_isPlace_10 lk_X8_61 in_X8_isDay mo_X8_isDay ⟨by decide, rfl⟩ ⟨by decide, by decide⟩ (Nat.le_of_ble_eq_true rfl) k_b0 (sp_X8_isDay k_b0 g_b0_1 k_b0_1 i_1 ?_)
    refine r_if_eq (pc := 13) (tgt := 28) dX8_isPlace_13 (by decide) (fun q => ?_) (fun q => ?_)
    · have q := (b2i_z _).mp q
      have K0 := K0.1 q
      refine r_iconst (pc := 28) (v := 0) dX8_isPlace_28 (by decide) ?_
      exact s_zret rfl (by decide) dX8_isPlace_29 K0
    · have q := b2i_nz q
      have K0 := K0.2 q
      refine r_aload_n (pc := 16) dX8_isPlace_16 rfl ?_
      refine r_iload_n (pc := 17) dX8_isPlace_17 rfl ?_
      refine s_VI (pc := 18) mX8_isHour (ci := 8) (a := b0) (As := [.int l3]) dX8_isPlace_18 lk_X8_64 in_X8_isHour mo_X8_isHour ⟨by decide, rfl⟩ ⟨by decide, by decide⟩ (Nat.le_of_ble_eq_true rfl) k_b0 (sp_X8_isHour k_b0 g_b0_1 k_b0_1 i_1 ?_)
      refine r_if_eq (pc := 21) (tgt := 28) dX8_isPlace_21 (by decide) (fun q => ?_) (fun q => ?_)
      · have q := (b2i_z _).mp q
        have K0 := K0.1 q
        refine r_iconst (pc := 28) (v := 0) dX8_isPlace_28 (by decide) ?_
        exact s_zret rfl (by decide) dX8_isPlace_29 K0
      · have q := b2i_nz q
        have K0 := K0.2 q
        refine r_iconst (pc := 24) (v := 1) dX8_isPlace_24 (by decide) ?_
        refine r_goto (pc := 25) (tgt := 29) dX8_isPlace_25 (by decide) ?_
        exact s_zret rfl (by decide) dX8_isPlace_29 K0
section
variable {K : Sh} {x : Cn} {Q : Int32 → Cn → Prop} {b t n : Nat}
theorem sp_X8_isPlace {l1 l2 l3 : Int32} (h1 : kk K b = some (8, 0)) (h2 : gr x b 1 = some t) (h3 : kk K t = some (20, n)) (h4 : vp_in 0 n) (k : Q (b2i (0 ≤ l1 ∧ l1 ≤ gi x t 0 - 1 ∧ 0 < gi x t 0 ∧ 0 ≤ l2 ∧ l2 ≤ 6 ∧ 0 ≤ l3 ∧ l3 ≤ 23)) x) : mSI mX8_isPlace [.ref b, .int l1, .int l2, .int l3] K x Q :=
  v_X8_isPlace_0 h1 h2 h3 ⟨h4, fun h => (b2i_k k).2 (fun z => h ⟨z.1, z.2.1⟩), fun h => ⟨fun g => (b2i_k k).2 (fun z => g ⟨z.2.2.1, z.2.2.2.1, z.2.2.2.2.1⟩), fun g => ⟨fun f => (b2i_k k).2 (fun z => f ⟨z.2.2.1, z.2.2.2.2.2⟩), fun f => (b2i_k k).1 ⟨h.1, h.2, g.1, g.2.1, g.2.2, f.2⟩⟩⟩⟩
end
set_option maxHeartbeats 2000000 in
theorem v_X8_isByte_0 {K : Sh} {x : Cn} {Q : Int32 → Cn → Prop} {b0 : Nat} {l1 : Int32}  (k_b0 : kk K b0 = some (8, 0)) (K0 : (¬ (gi x b0 11 = 0) → (Q 0 x)) ∧ ((gi x b0 11 = 0) → ((¬ (gi x b0 9) = 3 → (Q 0 x)) ∧ ((gi x b0 9) = 3 → ((¬ (gi x b0 10) = l1 → (Q 0 x)) ∧ ((gi x b0 10) = l1 → (Q 1 x))))))) : mSI mX8_isByte [.ref b0, .int l1] K x Q := by
  refine s_I (by decide) (by simp [Value.category]) (Nat.le_of_ble_eq_true rfl) ?_
  show mGM mX8_isByte 0 [some (.ref b0), some (.int l1)] [] (hp K x) (PI K Q)
  refine r_aload_n (pc := 0) dX8_isByte_0 rfl ?_
  refine s_VI (pc := 1) mX8_good (ci := 8) (a := b0) (As := []) dX8_isByte_1 lk_X8_104 in_X8_good mo_X8_good ⟨by decide, rfl⟩ ⟨by decide, by decide⟩ (Nat.le_of_ble_eq_true rfl) k_b0 (sp_X8_good k_b0 ?_)
  refine r_if_eq (pc := 4) (tgt := 27) dX8_isByte_4 (by decide) (fun q => ?_) (fun q => ?_)
  · have q := (b2i_z _).mp q
    have K0 := K0.1 q
    refine r_iconst (pc := 27) (v := 0) dX8_isByte_27 (by decide) ?_
    exact s_zret rfl (by decide) dX8_isByte_28 K0
  · have q := b2i_nz q
    have K0 := K0.2 q
    refine r_aload_n (pc := 7) dX8_isByte_7 rfl ?_
    refine s_getI (pc := 8) dX8_isByte_8 fl_X8_119 rfl k_b0 ?_
    refine r_iconst (pc := 11) (v := 3) dX8_isByte_11 (by decide) ?_
    refine r_icmp_ne (pc := 12) (tgt := 27) dX8_isByte_12 (by decide) (fun q => ?_) (fun q => ?_)
    · have K0 := K0.1 q
      refine r_iconst (pc := 27) (v := 0) dX8_isByte_27 (by decide) ?_
      exact s_zret rfl (by decide) dX8_isByte_28 K0
    · have K0 := K0.2 q
      refine r_aload_n (pc := 15) dX8_isByte_15 rfl ?_
      refine s_getI (pc := 16) dX8_isByte_16 fl_X8_130 rfl k_b0 ?_
      refine r_iload_n (pc := 19) dX8_isByte_19 rfl ?_
      refine r_icmp_ne (pc := 20) (tgt := 27) dX8_isByte_20 (by decide) (fun q => ?_) (fun q => ?_)
      · have K0 := K0.1 q
        refine r_iconst (pc := 27) (v := 0) dX8_isByte_27 (by decide) ?_
        exact s_zret rfl (by decide) dX8_isByte_28 K0
      · have K0 := K0.2 q
        refine r_iconst (pc := 23) (v := 1) dX8_isByte_23 (by decide) ?_
        refine r_goto (pc := 24) (tgt := 28) dX8_isByte_24 (by decide) ?_
        exact s_zret rfl (by decide) dX8_isByte_28 K0
section
variable {K : Sh} {x : Cn} {Q : Int32 → Cn → Prop} {b t n : Nat}
theorem sp_X8_isByte {l1 : Int32} (h1 : kk K b = some (8, 0)) (k : Q (b2i (gi x b 11 = 0 ∧ gi x b 9 = 3 ∧ gi x b 10 = l1)) x) : mSI mX8_isByte [.ref b, .int l1] K x Q :=
  v_X8_isByte_0 h1 ⟨fun h => (b2i_k k).2 (fun z => h z.1), fun h => ⟨fun g => (b2i_k k).2 (fun z => g z.2.1), fun g => ⟨fun f => (b2i_k k).2 (fun z => f z.2.2), fun f => (b2i_k k).1 ⟨h, g, f⟩⟩⟩⟩
end
set_option maxHeartbeats 2000000 in
theorem v_X8_basisOf_0 {K : Sh} {x : Cn} {Q : Int32 → Cn → Prop} {b0 : Nat} {l1 : Int32} {b0_3 : Nat} {n_b0_3 : Nat} (k_b0 : kk K b0 = some (8, 0)) (g_b0_3 : gr x b0 3 = some b0_3) (k_b0_3 : kk K b0_3 = some (20, n_b0_3)) (K0 : vp_in ((62 + (12 * l1)) + 7) n_b0_3 ∧ (vp_in ((62 + (12 * l1)) + 8) n_b0_3 ∧ (vp_in ((62 + (12 * l1)) + 9) n_b0_3 ∧ (vp_in ((62 + (12 * l1)) + 10) n_b0_3 ∧ (Q ((((gi x b0_3 ((62 + (12 * l1)) + 7 : Int32).toNatClampNeg) ||| (gi x b0_3 ((62 + (12 * l1)) + 8 : Int32).toNatClampNeg)) ||| (gi x b0_3 ((62 + (12 * l1)) + 9 : Int32).toNatClampNeg)) ||| (gi x b0_3 ((62 + (12 * l1)) + 10 : Int32).toNatClampNeg)) x))))) : mSI mX8_basisOf [.ref b0, .int l1] K x Q := by
  refine s_I (by decide) (by simp [Value.category]) (Nat.le_of_ble_eq_true rfl) ?_
  show mGM mX8_basisOf 0 [some (.ref b0), some (.int l1)] [] (hp K x) (PI K Q)
  refine r_aload_n (pc := 0) dX8_basisOf_0 rfl ?_
  refine r_iload_n (pc := 1) dX8_basisOf_1 rfl ?_
  refine r_bipush (pc := 2) (v := 7) dX8_basisOf_2 (by decide) ?_
  obtain ⟨i_1, K0⟩ := K0
  refine s_VI (pc := 4) mX8_one (ci := 8) (a := b0) (As := [.int l1, .int 7]) dX8_basisOf_4 lk_X8_67 in_X8_one mo_X8_one ⟨by decide, rfl⟩ ⟨by decide, by decide⟩ (Nat.le_of_ble_eq_true rfl) k_b0 (sp_X8_one k_b0 g_b0_3 k_b0_3 i_1 ?_)
  refine r_aload_n (pc := 7) dX8_basisOf_7 rfl ?_
  refine r_iload_n (pc := 8) dX8_basisOf_8 rfl ?_
  refine r_bipush (pc := 9) (v := 8) dX8_basisOf_9 (by decide) ?_
  obtain ⟨i_2, K0⟩ := K0
  refine s_VI (pc := 11) mX8_one (ci := 8) (a := b0) (As := [.int l1, .int 8]) dX8_basisOf_11 lk_X8_67 in_X8_one mo_X8_one ⟨by decide, rfl⟩ ⟨by decide, by decide⟩ (Nat.le_of_ble_eq_true rfl) k_b0 (sp_X8_one k_b0 g_b0_3 k_b0_3 i_2 ?_)
  refine r_ior (pc := 14) dX8_basisOf_14 ?_
  refine r_aload_n (pc := 15) dX8_basisOf_15 rfl ?_
  refine r_iload_n (pc := 16) dX8_basisOf_16 rfl ?_
  refine r_bipush (pc := 17) (v := 9) dX8_basisOf_17 (by decide) ?_
  obtain ⟨i_3, K0⟩ := K0
  refine s_VI (pc := 19) mX8_one (ci := 8) (a := b0) (As := [.int l1, .int 9]) dX8_basisOf_19 lk_X8_67 in_X8_one mo_X8_one ⟨by decide, rfl⟩ ⟨by decide, by decide⟩ (Nat.le_of_ble_eq_true rfl) k_b0 (sp_X8_one k_b0 g_b0_3 k_b0_3 i_3 ?_)
  refine r_ior (pc := 22) dX8_basisOf_22 ?_
  refine r_aload_n (pc := 23) dX8_basisOf_23 rfl ?_
  refine r_iload_n (pc := 24) dX8_basisOf_24 rfl ?_
  refine r_bipush (pc := 25) (v := 10) dX8_basisOf_25 (by decide) ?_
  obtain ⟨i_4, K0⟩ := K0
  refine s_VI (pc := 27) mX8_one (ci := 8) (a := b0) (As := [.int l1, .int 10]) dX8_basisOf_27 lk_X8_67 in_X8_one mo_X8_one ⟨by decide, rfl⟩ ⟨by decide, by decide⟩ (Nat.le_of_ble_eq_true rfl) k_b0 (sp_X8_one k_b0 g_b0_3 k_b0_3 i_4 ?_)
  refine r_ior (pc := 30) dX8_basisOf_30 ?_
  exact s_iret rfl dX8_basisOf_31 K0
section
variable {K : Sh} {x : Cn} {Q : Int32 → Cn → Prop} {b t n : Nat}
theorem sp_X8_basisOf {l1 : Int32} (h1 : kk K b = some (8, 0)) (h2 : gr x b 3 = some t) (h3 : kk K t = some (20, n)) (h4 : vp_in ((62 + (12 * l1)) + 7) n) (h5 : vp_in ((62 + (12 * l1)) + 8) n) (h6 : vp_in ((62 + (12 * l1)) + 9) n) (h7 : vp_in ((62 + (12 * l1)) + 10) n) (k : Q (((gi x t ((62 + (12 * l1)) + 7 : Int32).toNatClampNeg ||| gi x t ((62 + (12 * l1)) + 8 : Int32).toNatClampNeg) ||| gi x t ((62 + (12 * l1)) + 9 : Int32).toNatClampNeg) ||| gi x t ((62 + (12 * l1)) + 10 : Int32).toNatClampNeg) x) : mSI mX8_basisOf [.ref b, .int l1] K x Q := v_X8_basisOf_0 h1 h2 h3 ⟨h4, h5, h6, h7, k⟩
end
set_option maxHeartbeats 2000000 in
theorem v_X8_goodOf_0 {K : Sh} {x : Cn} {Q : Int32 → Cn → Prop} {b0 : Nat} {l1 : Int32} {b0_3 : Nat} {n_b0_3 : Nat} (k_b0 : kk K b0 = some (8, 0)) (g_b0_3 : gr x b0 3 = some b0_3) (k_b0_3 : kk K b0_3 = some (20, n_b0_3)) (K0 : vp_in ((62 + (12 * l1)) + 8) n_b0_3 ∧ (vp_in ((62 + (12 * l1)) + 10) n_b0_3 ∧ (Q (nI (cpt ((gi x b0_3 ((62 + (12 * l1)) + 8 : Int32).toNatClampNeg) ||| (gi x b0_3 ((62 + (12 * l1)) + 10 : Int32).toNatClampNeg)))) x))) : mSI mX8_goodOf [.ref b0, .int l1] K x Q := by
  refine s_I (by decide) (by simp [Value.category]) (Nat.le_of_ble_eq_true rfl) ?_
  show mGM mX8_goodOf 0 [some (.ref b0), some (.int l1)] [] (hp K x) (PI K Q)
  refine r_aload_n (pc := 0) dX8_goodOf_0 rfl ?_
  refine r_iload_n (pc := 1) dX8_goodOf_1 rfl ?_
  refine r_bipush (pc := 2) (v := 8) dX8_goodOf_2 (by decide) ?_
  obtain ⟨i_1, K0⟩ := K0
  refine s_VI (pc := 4) mX8_one (ci := 8) (a := b0) (As := [.int l1, .int 8]) dX8_goodOf_4 lk_X8_67 in_X8_one mo_X8_one ⟨by decide, rfl⟩ ⟨by decide, by decide⟩ (Nat.le_of_ble_eq_true rfl) k_b0 (sp_X8_one k_b0 g_b0_3 k_b0_3 i_1 ?_)
  refine r_aload_n (pc := 7) dX8_goodOf_7 rfl ?_
  refine r_iload_n (pc := 8) dX8_goodOf_8 rfl ?_
  refine r_bipush (pc := 9) (v := 10) dX8_goodOf_9 (by decide) ?_
  obtain ⟨i_2, K0⟩ := K0
  refine s_VI (pc := 11) mX8_one (ci := 8) (a := b0) (As := [.int l1, .int 10]) dX8_goodOf_11 lk_X8_67 in_X8_one mo_X8_one ⟨by decide, rfl⟩ ⟨by decide, by decide⟩ (Nat.le_of_ble_eq_true rfl) k_b0 (sp_X8_one k_b0 g_b0_3 k_b0_3 i_2 ?_)
  refine r_ior (pc := 14) dX8_goodOf_14 ?_
  refine s_SI (pc := 15) mX8_bits (As := [.int ((gi x b0_3 ((62 + (12 * l1)) + 8 : Int32).toNatClampNeg) ||| (gi x b0_3 ((62 + (12 * l1)) + 10 : Int32).toNatClampNeg))]) dX8_goodOf_15 lk_X8_296 st_X8_bits mo_X8_bits ⟨by decide, by decide⟩ (Nat.le_of_ble_eq_true rfl) (sp_X8_bits  ?_)
  exact s_iret rfl dX8_goodOf_18 K0
section
variable {K : Sh} {x : Cn} {Q : Int32 → Cn → Prop} {b t n : Nat}
theorem sp_X8_goodOf {l1 : Int32} (h1 : kk K b = some (8, 0)) (h2 : gr x b 3 = some t) (h3 : kk K t = some (20, n)) (h5 : vp_in ((62 + (12 * l1)) + 8) n) (h7 : vp_in ((62 + (12 * l1)) + 10) n) (k : Q (nI (cpt (gi x t ((62 + (12 * l1)) + 8 : Int32).toNatClampNeg ||| gi x t ((62 + (12 * l1)) + 10 : Int32).toNatClampNeg))) x) : mSI mX8_goodOf [.ref b, .int l1] K x Q := v_X8_goodOf_0 h1 h2 h3 ⟨h5, h7, k⟩
end
set_option maxHeartbeats 2000000 in
theorem v_X8_fromNow_0 {K : Sh} {x : Cn} {Q : Int32 → Cn → Prop} {b0 : Nat} {b0_3 : Nat} {n_b0_3 : Nat} (k_b0 : kk K b0 = some (8, 0)) (g_b0_3 : gr x b0 3 = some b0_3) (k_b0_3 : kk K b0_3 = some (20, n_b0_3)) (K0 : vp_in 4 n_b0_3 ∧ (vp_in 0 n_b0_3 ∧ (Q (f_span (gi x b0_3 4) ((gi x b0_3 0) - 1)) x))) : mSI mX8_fromNow [.ref b0] K x Q := by
  refine s_I (by decide) (by simp [Value.category]) (Nat.le_of_ble_eq_true rfl) ?_
  show mGM mX8_fromNow 0 [some (.ref b0)] [] (hp K x) (PI K Q)
  refine r_aload_n (pc := 0) dX8_fromNow_0 rfl ?_
  refine s_getR (pc := 1) dX8_fromNow_1 fl_X8_16 rfl k_b0 g_b0_3 ?_
  refine r_iconst (pc := 4) (v := 4) dX8_fromNow_4 (by decide) ?_
  obtain ⟨i_1, K0⟩ := K0
  refine s_iald (pc := 5) dX8_fromNow_5 k_b0_3 i_1 ?_
  refine r_aload_n (pc := 6) dX8_fromNow_6 rfl ?_
  refine s_getR (pc := 7) dX8_fromNow_7 fl_X8_16 rfl k_b0 g_b0_3 ?_
  refine r_iconst (pc := 10) (v := 0) dX8_fromNow_10 (by decide) ?_
  obtain ⟨i_2, K0⟩ := K0
  refine s_iald (pc := 11) dX8_fromNow_11 k_b0_3 i_2 ?_
  refine r_iconst (pc := 12) (v := 1) dX8_fromNow_12 (by decide) ?_
  refine r_isub (pc := 13) dX8_fromNow_13 ?_
  refine s_SI (pc := 14) mX8_span (As := [.int (gi x b0_3 4), .int ((gi x b0_3 0) - 1)]) dX8_fromNow_14 lk_X8_79 st_X8_span mo_X8_span ⟨by decide, by decide⟩ (Nat.le_of_ble_eq_true rfl) (sp_X8_span  ?_)
  exact s_iret rfl dX8_fromNow_17 K0
section
variable {K : Sh} {x : Cn} {Q : Int32 → Cn → Prop} {b t n : Nat}
theorem sp_X8_fromNow (h1 : kk K b = some (8, 0)) (h2 : gr x b 3 = some t) (h3 : kk K t = some (20, n)) (h4 : vp_in 4 n) (h5 : vp_in 0 n) (k : Q (f_span (gi x t 4) (gi x t 0 - 1)) x) : mSI mX8_fromNow [.ref b] K x Q := v_X8_fromNow_0 h1 h2 h3 ⟨h4, h5, k⟩
end
set_option maxHeartbeats 2000000 in
theorem v_X8_isNew_0 {K : Sh} {x : Cn} {Q : Int32 → Cn → Prop} {b0 : Nat} {l1 : Int32} {b0_3 : Nat} {n_b0_3 : Nat} (k_b0 : kk K b0 = some (8, 0)) (g_b0_3 : gr x b0 3 = some b0_3) (k_b0_3 : kk K b0_3 = some (20, n_b0_3)) (K0 : vp_in ((62 + (12 * l1)) + 4) n_b0_3 ∧ ((¬ (gi x b0_3 ((62 + (12 * l1)) + 4 : Int32).toNatClampNeg) = 1 → (Q 0 x)) ∧ ((gi x b0_3 ((62 + (12 * l1)) + 4 : Int32).toNatClampNeg) = 1 → (Q 1 x)))) : mSI mX8_isNew [.ref b0, .int l1] K x Q := by
  refine s_I (by decide) (by simp [Value.category]) (Nat.le_of_ble_eq_true rfl) ?_
  show mGM mX8_isNew 0 [some (.ref b0), some (.int l1)] [] (hp K x) (PI K Q)
  refine r_aload_n (pc := 0) dX8_isNew_0 rfl ?_
  refine r_iload_n (pc := 1) dX8_isNew_1 rfl ?_
  refine r_iconst (pc := 2) (v := 4) dX8_isNew_2 (by decide) ?_
  obtain ⟨i_1, K0⟩ := K0
  refine s_VI (pc := 3) mX8_one (ci := 8) (a := b0) (As := [.int l1, .int 4]) dX8_isNew_3 lk_X8_67 in_X8_one mo_X8_one ⟨by decide, rfl⟩ ⟨by decide, by decide⟩ (Nat.le_of_ble_eq_true rfl) k_b0 (sp_X8_one k_b0 g_b0_3 k_b0_3 i_1 ?_)
  refine r_iconst (pc := 6) (v := 1) dX8_isNew_6 (by decide) ?_
  refine r_icmp_ne (pc := 7) (tgt := 14) dX8_isNew_7 (by decide) (fun q => ?_) (fun q => ?_)
  · have K0 := K0.1 q
    refine r_iconst (pc := 14) (v := 0) dX8_isNew_14 (by decide) ?_
    exact s_zret rfl (by decide) dX8_isNew_15 K0
  · have K0 := K0.2 q
    refine r_iconst (pc := 10) (v := 1) dX8_isNew_10 (by decide) ?_
    refine r_goto (pc := 11) (tgt := 15) dX8_isNew_11 (by decide) ?_
    exact s_zret rfl (by decide) dX8_isNew_15 K0
section
variable {K : Sh} {x : Cn} {Q : Int32 → Cn → Prop} {b t n : Nat}
theorem sp_X8_isNew {l1 : Int32} (h1 : kk K b = some (8, 0)) (h2 : gr x b 3 = some t) (h3 : kk K t = some (20, n)) (h4 : vp_in ((62 + (12 * l1)) + 4) n) (k : Q (b2i (gi x t ((62 + (12 * l1)) + 4 : Int32).toNatClampNeg = 1)) x) : mSI mX8_isNew [.ref b, .int l1] K x Q := v_X8_isNew_0 h1 h2 h3 ⟨h4, (b2i_k k).2, (b2i_k k).1⟩
end
set_option maxHeartbeats 2000000 in
theorem v_X8_weeksOf_0 {K : Sh} {x : Cn} {Q : Int32 → Cn → Prop} {b0 : Nat} {l1 : Int32} {b0_3 : Nat} {n_b0_3 : Nat} (k_b0 : kk K b0 = some (8, 0)) (g_b0_3 : gr x b0 3 = some b0_3) (k_b0_3 : kk K b0_3 = some (20, n_b0_3)) (K0 : vp_in ((350 + (7 * l1)) + 4) n_b0_3 ∧ (vp_in ((350 + (7 * l1)) + 5) n_b0_3 ∧ (vp_in 4 n_b0_3 ∧ (vp_in 0 n_b0_3 ∧ (Q ((f_span (gi x b0_3 ((350 + (7 * l1)) + 4 : Int32).toNatClampNeg) (gi x b0_3 ((350 + (7 * l1)) + 5 : Int32).toNatClampNeg)) &&& (f_span (gi x b0_3 4) (gi x b0_3 0 - 1))) x))))) : mSI mX8_weeksOf [.ref b0, .int l1] K x Q := by
  refine s_I (by decide) (by simp [Value.category]) (Nat.le_of_ble_eq_true rfl) ?_
  show mGM mX8_weeksOf 0 [some (.ref b0), some (.int l1)] [] (hp K x) (PI K Q)
  refine r_aload_n (pc := 0) dX8_weeksOf_0 rfl ?_
  refine r_iload_n (pc := 1) dX8_weeksOf_1 rfl ?_
  refine r_iconst (pc := 2) (v := 4) dX8_weeksOf_2 (by decide) ?_
  obtain ⟨i_1, K0⟩ := K0
  refine s_VI (pc := 3) mX8_ask0 (ci := 8) (a := b0) (As := [.int l1, .int 4]) dX8_weeksOf_3 lk_X8_284 in_X8_ask0 mo_X8_ask0 ⟨by decide, rfl⟩ ⟨by decide, by decide⟩ (Nat.le_of_ble_eq_true rfl) k_b0 (sp_X8_ask0 k_b0 g_b0_3 k_b0_3 i_1 ?_)
  refine r_aload_n (pc := 6) dX8_weeksOf_6 rfl ?_
  refine r_iload_n (pc := 7) dX8_weeksOf_7 rfl ?_
  refine r_iconst (pc := 8) (v := 5) dX8_weeksOf_8 (by decide) ?_
  obtain ⟨i_2, K0⟩ := K0
  refine s_VI (pc := 9) mX8_ask0 (ci := 8) (a := b0) (As := [.int l1, .int 5]) dX8_weeksOf_9 lk_X8_284 in_X8_ask0 mo_X8_ask0 ⟨by decide, rfl⟩ ⟨by decide, by decide⟩ (Nat.le_of_ble_eq_true rfl) k_b0 (sp_X8_ask0 k_b0 g_b0_3 k_b0_3 i_2 ?_)
  refine s_SI (pc := 12) mX8_span (As := [.int (gi x b0_3 ((350 + (7 * l1)) + 4 : Int32).toNatClampNeg), .int (gi x b0_3 ((350 + (7 * l1)) + 5 : Int32).toNatClampNeg)]) dX8_weeksOf_12 lk_X8_79 st_X8_span mo_X8_span ⟨by decide, by decide⟩ (Nat.le_of_ble_eq_true rfl) (sp_X8_span  ?_)
  refine r_aload_n (pc := 15) dX8_weeksOf_15 rfl ?_
  obtain ⟨i_3, K0⟩ := K0
  obtain ⟨i_4, K0⟩ := K0
  refine s_VI (pc := 16) mX8_fromNow (ci := 8) (a := b0) (As := []) dX8_weeksOf_16 lk_X8_82 in_X8_fromNow mo_X8_fromNow ⟨by decide, rfl⟩ ⟨by decide, by decide⟩ (Nat.le_of_ble_eq_true rfl) k_b0 (sp_X8_fromNow k_b0 g_b0_3 k_b0_3 i_3 i_4 ?_)
  refine r_iand (pc := 19) dX8_weeksOf_19 ?_
  exact s_iret rfl dX8_weeksOf_20 K0
section
variable {K : Sh} {x : Cn} {Q : Int32 → Cn → Prop} {b t n : Nat}
theorem sp_X8_weeksOf {l1 : Int32} (h1 : kk K b = some (8, 0)) (h2 : gr x b 3 = some t) (h3 : kk K t = some (20, n)) (h4 : vp_in ((350 + (7 * l1)) + 4) n) (h5 : vp_in ((350 + (7 * l1)) + 5) n) (h6 : vp_in 4 n) (h7 : vp_in 0 n) (k : Q (f_span (gi x t ((350 + (7 * l1)) + 4 : Int32).toNatClampNeg) (gi x t ((350 + (7 * l1)) + 5 : Int32).toNatClampNeg) &&& f_span (gi x t 4) (gi x t 0 - 1)) x) : mSI mX8_weeksOf [.ref b, .int l1] K x Q := v_X8_weeksOf_0 h1 h2 h3 ⟨h4, h5, h6, h7, k⟩
end
set_option maxHeartbeats 2000000 in
theorem v_X5_holds_0 {K : Sh} {x : Cn} {Q : Int32 → Cn → Prop} {b0 : Nat} {l1 : Int32}  (k_b0 : kk K b0 = some (5, 0)) (K0 : Q (b2i (f_bit (f_held x b0) l1)) x) : mSI mX5_holds [.ref b0, .int l1] K x Q := by
  refine s_I (by decide) (by simp [Value.category]) (Nat.le_of_ble_eq_true rfl) ?_
  show mGM mX5_holds 0 [some (.ref b0), some (.int l1)] [] (hp K x) (PI K Q)
  refine r_aload_n (pc := 0) dX5_holds_0 rfl ?_
  refine s_VI (pc := 1) mX5_heldBits (ci := 5) (a := b0) (As := []) dX5_holds_1 lk_X5_69 in_X5_heldBits mo_X5_heldBits ⟨by decide, rfl⟩ ⟨by decide, by decide⟩ (Nat.le_of_ble_eq_true rfl) k_b0 (sp_X5_heldBits k_b0 ?_)
  refine r_iload_n (pc := 4) dX5_holds_4 rfl ?_
  refine s_SNI (pc := 5) mX7_hasBit (As := [.int (f_held x b0), .int l1]) dX5_holds_5 nl_X5_65 st_X7_hasBit mo_X7_hasBit ⟨by decide, by decide⟩ (Nat.le_of_ble_eq_true rfl) (sp_X7_hasBit  ?_)
  exact s_zret rfl (b2i_01 _) dX5_holds_8 K0
section
variable {K : Sh} {x : Cn} {Q : Int32 → Cn → Prop} {b t n : Nat}
theorem sp_X5_holds {l1 : Int32} (h1 : kk K b = some (5, 0)) (k : Q (b2i (f_bit (f_held x b) l1)) x) : mSI mX5_holds [.ref b, .int l1] K x Q := v_X5_holds_0 h1 k
end
set_option maxHeartbeats 2000000 in
theorem v_X5_fills_0 {K : Sh} {x : Cn} {Q : Int32 → Cn → Prop} {b0 : Nat} {l1 : Int32} {l2 : Int32} {l3 : Int32}  (k_b0 : kk K b0 = some (5, 0)) (K0 : (¬ (gi x b0 1) = l2 → (Q 0 x)) ∧ ((gi x b0 1) = l2 → ((¬ (gi x b0 2) = l3 → (Q 0 x)) ∧ ((gi x b0 2) = l3 → ((¬ (f_bit (f_held x b0) l1) → (Q 0 x)) ∧ ((f_bit (f_held x b0) l1) → (Q 1 x))))))) : mSI mX5_fills [.ref b0, .int l1, .int l2, .int l3] K x Q := by
  refine s_I (by decide) (by simp [Value.category]) (Nat.le_of_ble_eq_true rfl) ?_
  show mGM mX5_fills 0 [some (.ref b0), some (.int l1), some (.int l2), some (.int l3)] [] (hp K x) (PI K Q)
  refine r_aload_n (pc := 0) dX5_fills_0 rfl ?_
  refine s_getI (pc := 1) dX5_fills_1 fl_X5_15 rfl k_b0 ?_
  refine r_iload_n (pc := 4) dX5_fills_4 rfl ?_
  refine r_icmp_ne (pc := 5) (tgt := 28) dX5_fills_5 (by decide) (fun q => ?_) (fun q => ?_)
  · have K0 := K0.1 q
    refine r_iconst (pc := 28) (v := 0) dX5_fills_28 (by decide) ?_
    exact s_zret rfl (by decide) dX5_fills_29 K0
  · have K0 := K0.2 q
    refine r_aload_n (pc := 8) dX5_fills_8 rfl ?_
    refine s_getI (pc := 9) dX5_fills_9 fl_X5_18 rfl k_b0 ?_
    refine r_iload_n (pc := 12) dX5_fills_12 rfl ?_
    refine r_icmp_ne (pc := 13) (tgt := 28) dX5_fills_13 (by decide) (fun q => ?_) (fun q => ?_)
    · have K0 := K0.1 q
      refine r_iconst (pc := 28) (v := 0) dX5_fills_28 (by decide) ?_
      exact s_zret rfl (by decide) dX5_fills_29 K0
    · have K0 := K0.2 q
      refine r_aload_n (pc := 16) dX5_fills_16 rfl ?_
      refine r_iload_n (pc := 17) dX5_fills_17 rfl ?_
      refine s_VI (pc := 18) mX5_holds (ci := 5) (a := b0) (As := [.int l1]) dX5_fills_18 lk_X5_72 in_X5_holds mo_X5_holds ⟨by decide, rfl⟩ ⟨by decide, by decide⟩ (Nat.le_of_ble_eq_true rfl) k_b0 (sp_X5_holds k_b0 ?_)
      refine r_if_eq (pc := 21) (tgt := 28) dX5_fills_21 (by decide) (fun q => ?_) (fun q => ?_)
      · have q := (b2i_z _).mp q
        have K0 := K0.1 q
        refine r_iconst (pc := 28) (v := 0) dX5_fills_28 (by decide) ?_
        exact s_zret rfl (by decide) dX5_fills_29 K0
      · have q := b2i_nz q
        have K0 := K0.2 q
        refine r_iconst (pc := 24) (v := 1) dX5_fills_24 (by decide) ?_
        refine r_goto (pc := 25) (tgt := 29) dX5_fills_25 (by decide) ?_
        exact s_zret rfl (by decide) dX5_fills_29 K0
section
variable {K : Sh} {x : Cn} {Q : Int32 → Cn → Prop} {b t n : Nat}
theorem sp_X5_fills {l1 l2 l3 : Int32} (h1 : kk K b = some (5, 0)) (k : Q (b2i (gi x b 1 = l2 ∧ gi x b 2 = l3 ∧ f_bit (f_held x b) l1)) x) : mSI mX5_fills [.ref b, .int l1, .int l2, .int l3] K x Q :=
  v_X5_fills_0 h1 ⟨fun h => (b2i_k k).2 (fun z => h z.1), fun h => ⟨fun g => (b2i_k k).2 (fun z => g z.2.1), fun g => ⟨fun f => (b2i_k k).2 (fun z => f z.2.2), fun f => (b2i_k k).1 ⟨h, g, f⟩⟩⟩⟩
end
set_option maxHeartbeats 2000000 in
theorem v_X5_basis_0 {K : Sh} {x : Cn} {Q : Int32 → Cn → Prop} {b0 : Nat}  (k_b0 : kk K b0 = some (5, 0)) (K0 : Q (nI (cpt (f_held x b0))) x) : mSI mX5_basis [.ref b0] K x Q := by
  refine s_I (by decide) (by simp [Value.category]) (Nat.le_of_ble_eq_true rfl) ?_
  show mGM mX5_basis 0 [some (.ref b0)] [] (hp K x) (PI K Q)
  refine r_aload_n (pc := 0) dX5_basis_0 rfl ?_
  refine s_VI (pc := 1) mX5_heldBits (ci := 5) (a := b0) (As := []) dX5_basis_1 lk_X5_69 in_X5_heldBits mo_X5_heldBits ⟨by decide, rfl⟩ ⟨by decide, by decide⟩ (Nat.le_of_ble_eq_true rfl) k_b0 (sp_X5_heldBits k_b0 ?_)
  refine s_SI (pc := 4) mJ6_bitCount_0f7a4 (As := [.int (f_held x b0)]) dX5_basis_4 lk_X5_76 st_J6_bitCount_0f7a4 mo_J6_bitCount_0f7a4 ⟨by decide, by decide⟩ (Nat.le_of_ble_eq_true rfl) (sp_bc  ?_)
  exact s_iret rfl dX5_basis_7 K0
section
variable {K : Sh} {x : Cn} {Q : Int32 → Cn → Prop} {b t n : Nat}
theorem sp_X5_basis (h1 : kk K b = some (5, 0)) (k : Q (nI (cpt (f_held x b))) x) : mSI mX5_basis [.ref b] K x Q := v_X5_basis_0 h1 k
end
set_option maxHeartbeats 2000000 in
theorem v_X5_good_0 {K : Sh} {x : Cn} {Q : Int32 → Cn → Prop} {b0 : Nat}  (k_b0 : kk K b0 = some (5, 0)) (K0 : Q (nI (cpt ((gi x b0 8) ||| (gi x b0 10)))) x) : mSI mX5_good [.ref b0] K x Q := by
  refine s_I (by decide) (by simp [Value.category]) (Nat.le_of_ble_eq_true rfl) ?_
  show mGM mX5_good 0 [some (.ref b0)] [] (hp K x) (PI K Q)
  refine r_aload_n (pc := 0) dX5_good_0 rfl ?_
  refine s_getI (pc := 1) dX5_good_1 fl_X5_37 rfl k_b0 ?_
  refine r_aload_n (pc := 4) dX5_good_4 rfl ?_
  refine s_getI (pc := 5) dX5_good_5 fl_X5_43 rfl k_b0 ?_
  refine r_ior (pc := 8) dX5_good_8 ?_
  refine s_SI (pc := 9) mJ6_bitCount_0f7a4 (As := [.int ((gi x b0 8) ||| (gi x b0 10))]) dX5_good_9 lk_X5_76 st_J6_bitCount_0f7a4 mo_J6_bitCount_0f7a4 ⟨by decide, by decide⟩ (Nat.le_of_ble_eq_true rfl) (sp_bc  ?_)
  exact s_iret rfl dX5_good_12 K0
section
variable {K : Sh} {x : Cn} {Q : Int32 → Cn → Prop} {b t n : Nat}
theorem sp_X5_good (h1 : kk K b = some (5, 0)) (k : Q (nI (cpt (gi x b 8 ||| gi x b 10))) x) : mSI mX5_good [.ref b] K x Q := v_X5_good_0 h1 k
end
set_option maxHeartbeats 2000000 in
theorem v_X5_isKeptWith_0 {K : Sh} {x : Cn} {Q : Int32 → Cn → Prop} {b0 : Nat} {l1 : Int32}  (k_b0 : kk K b0 = some (5, 0)) (K0 : ((nI (cpt (f_held x b0))) ≤ 0 → (Q 0 x)) ∧ (¬ (nI (cpt (f_held x b0))) ≤ 0 → (((5 * l1) < (4 * (nI (cpt (f_held x b0)))) → (Q 0 x)) ∧ (¬ (5 * l1) < (4 * (nI (cpt (f_held x b0)))) → (Q 1 x))))) : mSI mX5_isKeptWith [.ref b0, .int l1] K x Q := by
  refine s_I (by decide) (by simp [Value.category]) (Nat.le_of_ble_eq_true rfl) ?_
  show mGM mX5_isKeptWith 0 [some (.ref b0), some (.int l1), none] [] (hp K x) (PI K Q)
  refine r_aload_n (pc := 0) dX5_isKeptWith_0 rfl ?_
  refine s_VI (pc := 1) mX5_basis (ci := 5) (a := b0) (As := []) dX5_isKeptWith_1 lk_X5_81 in_X5_basis mo_X5_basis ⟨by decide, rfl⟩ ⟨by decide, by decide⟩ (Nat.le_of_ble_eq_true rfl) k_b0 (sp_X5_basis k_b0 ?_)
  refine r_istore_n (pc := 4) dX5_isKeptWith_4 (by decide) ?_
  refine r_iload_n (pc := 5) (L := [some (.ref b0), some (.int l1), some (.int (nI (cpt (f_held x b0))))]) dX5_isKeptWith_5 rfl ?_
  refine r_if_le (pc := 6) (tgt := 22) dX5_isKeptWith_6 (by decide) (fun q => ?_) (fun q => ?_)
  · have K0 := K0.1 q
    refine r_iconst (pc := 22) (v := 0) dX5_isKeptWith_22 (by decide) ?_
    exact s_zret rfl (by decide) dX5_isKeptWith_23 K0
  · have K0 := K0.2 q
    refine r_iconst (pc := 9) (v := 5) dX5_isKeptWith_9 (by decide) ?_
    refine r_iload_n (pc := 10) dX5_isKeptWith_10 rfl ?_
    refine r_imul (pc := 11) dX5_isKeptWith_11 ?_
    refine r_iconst (pc := 12) (v := 4) dX5_isKeptWith_12 (by decide) ?_
    refine r_iload_n (pc := 13) dX5_isKeptWith_13 rfl ?_
    refine r_imul (pc := 14) dX5_isKeptWith_14 ?_
    refine r_icmp_lt (pc := 15) (tgt := 22) dX5_isKeptWith_15 (by decide) (fun q => ?_) (fun q => ?_)
    · have K0 := K0.1 q
      refine r_iconst (pc := 22) (v := 0) dX5_isKeptWith_22 (by decide) ?_
      exact s_zret rfl (by decide) dX5_isKeptWith_23 K0
    · have K0 := K0.2 q
      refine r_iconst (pc := 18) (v := 1) dX5_isKeptWith_18 (by decide) ?_
      refine r_goto (pc := 19) (tgt := 23) dX5_isKeptWith_19 (by decide) ?_
      exact s_zret rfl (by decide) dX5_isKeptWith_23 K0
section
variable {K : Sh} {x : Cn} {Q : Int32 → Cn → Prop} {b t n : Nat}
theorem sp_X5_isKeptWith {l1 : Int32} (h1 : kk K b = some (5, 0)) (k : Q (b2i (f_kw (nI (cpt (f_held x b))) l1)) x) : mSI mX5_isKeptWith [.ref b, .int l1] K x Q :=
  v_X5_isKeptWith_0 h1 ⟨fun h => (b2i_k k).2 (fun z => Int32.not_le.mpr z.1 h), fun h => ⟨fun g => (b2i_k k).2 (fun z => Int32.not_lt.mpr z.2 g), fun g => (b2i_k k).1 ⟨Int32.not_le.mp h, Int32.not_lt.mp g⟩⟩⟩
end
set_option maxHeartbeats 2000000 in
theorem v_X5_isSafe_0 {K : Sh} {x : Cn} {Q : Int32 → Cn → Prop} {b0 : Nat}  (k_b0 : kk K b0 = some (5, 0)) (K0 : Q (b2i (f_kw (nI (cpt (f_held x b0))) (nI (cpt (gi x b0 8 ||| gi x b0 10))))) x) : mSI mX5_isSafe [.ref b0] K x Q := by
  refine s_I (by decide) (by simp [Value.category]) (Nat.le_of_ble_eq_true rfl) ?_
  show mGM mX5_isSafe 0 [some (.ref b0)] [] (hp K x) (PI K Q)
  refine r_aload_n (pc := 0) dX5_isSafe_0 rfl ?_
  refine r_aload_n (pc := 1) dX5_isSafe_1 rfl ?_
  refine s_VI (pc := 2) mX5_good (ci := 5) (a := b0) (As := []) dX5_isSafe_2 lk_X5_84 in_X5_good mo_X5_good ⟨by decide, rfl⟩ ⟨by decide, by decide⟩ (Nat.le_of_ble_eq_true rfl) k_b0 (sp_X5_good k_b0 ?_)
  refine s_VI (pc := 5) mX5_isKeptWith (ci := 5) (a := b0) (As := [.int (nI (cpt (gi x b0 8 ||| gi x b0 10)))]) dX5_isSafe_5 lk_X5_87 in_X5_isKeptWith mo_X5_isKeptWith ⟨by decide, rfl⟩ ⟨by decide, by decide⟩ (Nat.le_of_ble_eq_true rfl) k_b0 (sp_X5_isKeptWith k_b0 ?_)
  exact s_zret rfl (b2i_01 _) dX5_isSafe_8 K0
section
variable {K : Sh} {x : Cn} {Q : Int32 → Cn → Prop} {b t n : Nat}
theorem sp_X5_isSafe (h1 : kk K b = some (5, 0)) (k : Q (b2i (f_safe x b)) x) : mSI mX5_isSafe [.ref b] K x Q := v_X5_isSafe_0 h1 k
end
set_option maxHeartbeats 2000000 in
theorem v_X5_isLost_0 {K : Sh} {x : Cn} {Q : Int32 → Cn → Prop} {b0 : Nat}  (k_b0 : kk K b0 = some (5, 0)) (K0 : ((f_kw (nI (cpt (f_held x b0))) ((nI (cpt (gi x b0 8 ||| gi x b0 10))) + (nI (cpt (f_open x b0))))) → (Q 0 x)) ∧ (¬ (f_kw (nI (cpt (f_held x b0))) ((nI (cpt (gi x b0 8 ||| gi x b0 10))) + (nI (cpt (f_open x b0))))) → (Q 1 x))) : mSI mX5_isLost [.ref b0] K x Q := by
  refine s_I (by decide) (by simp [Value.category]) (Nat.le_of_ble_eq_true rfl) ?_
  show mGM mX5_isLost 0 [some (.ref b0)] [] (hp K x) (PI K Q)
  refine r_aload_n (pc := 0) dX5_isLost_0 rfl ?_
  refine r_aload_n (pc := 1) dX5_isLost_1 rfl ?_
  refine s_VI (pc := 2) mX5_good (ci := 5) (a := b0) (As := []) dX5_isLost_2 lk_X5_84 in_X5_good mo_X5_good ⟨by decide, rfl⟩ ⟨by decide, by decide⟩ (Nat.le_of_ble_eq_true rfl) k_b0 (sp_X5_good k_b0 ?_)
  refine r_aload_n (pc := 5) dX5_isLost_5 rfl ?_
  refine s_VI (pc := 6) mX5_openBits (ci := 5) (a := b0) (As := []) dX5_isLost_6 lk_X5_57 in_X5_openBits mo_X5_openBits ⟨by decide, rfl⟩ ⟨by decide, by decide⟩ (Nat.le_of_ble_eq_true rfl) k_b0 (sp_X5_openBits k_b0 ?_)
  refine s_SI (pc := 9) mJ6_bitCount_0f7a4 (As := [.int (f_open x b0)]) dX5_isLost_9 lk_X5_76 st_J6_bitCount_0f7a4 mo_J6_bitCount_0f7a4 ⟨by decide, by decide⟩ (Nat.le_of_ble_eq_true rfl) (sp_bc  ?_)
  refine r_iadd (pc := 12) dX5_isLost_12 ?_
  refine s_VI (pc := 13) mX5_isKeptWith (ci := 5) (a := b0) (As := [.int ((nI (cpt (gi x b0 8 ||| gi x b0 10))) + (nI (cpt (f_open x b0))))]) dX5_isLost_13 lk_X5_87 in_X5_isKeptWith mo_X5_isKeptWith ⟨by decide, rfl⟩ ⟨by decide, by decide⟩ (Nat.le_of_ble_eq_true rfl) k_b0 (sp_X5_isKeptWith k_b0 ?_)
  refine r_if_ne (pc := 16) (tgt := 23) dX5_isLost_16 (by decide) (fun q => ?_) (fun q => ?_)
  · have q := b2i_nz q
    have K0 := K0.1 q
    refine r_iconst (pc := 23) (v := 0) dX5_isLost_23 (by decide) ?_
    exact s_zret rfl (by decide) dX5_isLost_24 K0
  · have q := (b2i_z _).mp q
    have K0 := K0.2 q
    refine r_iconst (pc := 19) (v := 1) dX5_isLost_19 (by decide) ?_
    refine r_goto (pc := 20) (tgt := 24) dX5_isLost_20 (by decide) ?_
    exact s_zret rfl (by decide) dX5_isLost_24 K0
section
variable {K : Sh} {x : Cn} {Q : Int32 → Cn → Prop} {b t n : Nat}
theorem sp_X5_isLost (h1 : kk K b = some (5, 0)) (k : Q (b2i (f_lost x b)) x) : mSI mX5_isLost [.ref b] K x Q := v_X5_isLost_0 h1 ⟨fun h => (b2i_k k).2 (fun z => z h), fun h => (b2i_k k).1 h⟩
end
set_option maxHeartbeats 2000000 in
theorem v_X4_weeksToCome_0 {K : Sh} {x : Cn} {Q : Int32 → Cn → Prop} {b0 : Nat}  (k_b0 : kk K b0 = some (4, 0)) (K0 : (¬ (gi x b0 0 ≤ gi x b0 1) → (Q (f_sb (gi x b0 1) ((gi x b0 0) - 1)) x)) ∧ ((gi x b0 0 ≤ gi x b0 1) → (Q 0 x))) : mSI mX4_weeksToCome [.ref b0] K x Q := by
  refine s_I (by decide) (by simp [Value.category]) (Nat.le_of_ble_eq_true rfl) ?_
  show mGM mX4_weeksToCome 0 [some (.ref b0)] [] (hp K x) (PI K Q)
  refine r_aload_n (pc := 0) dX4_weeksToCome_0 rfl ?_
  refine s_VI (pc := 1) mX4_isOver (ci := 4) (a := b0) (As := []) dX4_weeksToCome_1 lk_X4_64 in_X4_isOver mo_X4_isOver ⟨by decide, rfl⟩ ⟨by decide, by decide⟩ (Nat.le_of_ble_eq_true rfl) k_b0 (sp_X4_isOver k_b0 ?_)
  refine r_if_eq (pc := 4) (tgt := 11) dX4_weeksToCome_4 (by decide) (fun q => ?_) (fun q => ?_)
  · have q := (b2i_z _).mp q
    have K0 := K0.1 q
    refine r_aload_n (pc := 11) dX4_weeksToCome_11 rfl ?_
    refine s_getI (pc := 12) dX4_weeksToCome_12 fl_X4_15 rfl k_b0 ?_
    refine r_aload_n (pc := 15) dX4_weeksToCome_15 rfl ?_
    refine s_getI (pc := 16) dX4_weeksToCome_16 fl_X4_9 rfl k_b0 ?_
    refine r_iconst (pc := 19) (v := 1) dX4_weeksToCome_19 (by decide) ?_
    refine r_isub (pc := 20) dX4_weeksToCome_20 ?_
    refine s_SNI (pc := 21) mX7_spanBits (As := [.int (gi x b0 1), .int ((gi x b0 0) - 1)]) dX4_weeksToCome_21 nl_X4_68 st_X7_spanBits mo_X7_spanBits ⟨by decide, by decide⟩ (Nat.le_of_ble_eq_true rfl) (sp_X7_spanBits  ?_)
    exact s_iret rfl dX4_weeksToCome_24 K0
  · have q := b2i_nz q
    have K0 := K0.2 q
    refine r_iconst (pc := 7) (v := 0) dX4_weeksToCome_7 (by decide) ?_
    refine r_goto (pc := 8) (tgt := 24) dX4_weeksToCome_8 (by decide) ?_
    exact s_iret rfl dX4_weeksToCome_24 K0
section
variable {K : Sh} {x : Cn} {Q : Int32 → Cn → Prop} {b t n : Nat}
theorem sp_X4_weeksToCome (h1 : kk K b = some (4, 0)) (k : Q (f_wtc (gi x b 1) (gi x b 0)) x) : mSI mX4_weeksToCome [.ref b] K x Q :=
  v_X4_weeksToCome_0 h1 ⟨fun h => by unfold f_wtc at k; rwa [if_neg h] at k, fun h => by unfold f_wtc at k; rwa [if_pos h] at k⟩
end
set_option maxHeartbeats 2000000 in
theorem v_X7_isDay_0 {K : Sh} {x : Cn} {Q : Int32 → Cn → Prop} {b0 : Nat} {l1 : Int32} {b0_2 : Nat} (k_b0 : kk K b0 = some (7, 0)) (g_b0_2 : gr x b0 2 = some b0_2) (k_b0_2 : kk K b0_2 = some (4, 0)) (K0 : (¬ (0 < gi x b0_2 0) → (Q 0 x)) ∧ ((0 < gi x b0_2 0) → ((l1 < 0 → (Q 0 x)) ∧ (¬ l1 < 0 → ((7 ≤ l1 → (Q 0 x)) ∧ (¬ 7 ≤ l1 → (Q 1 x))))))) : mSI mX7_isDay [.ref b0, .int l1] K x Q := by
  refine s_I (by decide) (by simp [Value.category]) (Nat.le_of_ble_eq_true rfl) ?_
  show mGM mX7_isDay 0 [some (.ref b0), some (.int l1)] [] (hp K x) (PI K Q)
  refine r_aload_n (pc := 0) dX7_isDay_0 rfl ?_
  refine s_VI (pc := 1) mX7_hasText (ci := 7) (a := b0) (As := []) dX7_isDay_1 lk_X7_121 in_X7_hasText mo_X7_hasText ⟨by decide, rfl⟩ ⟨by decide, by decide⟩ (Nat.le_of_ble_eq_true rfl) k_b0 (sp_X7_hasText k_b0 g_b0_2 k_b0_2 ?_)
  refine r_if_eq (pc := 4) (tgt := 21) dX7_isDay_4 (by decide) (fun q => ?_) (fun q => ?_)
  · have q := (b2i_z _).mp q
    have K0 := K0.1 q
    refine r_iconst (pc := 21) (v := 0) dX7_isDay_21 (by decide) ?_
    exact s_zret rfl (by decide) dX7_isDay_22 K0
  · have q := b2i_nz q
    have K0 := K0.2 q
    refine r_iload_n (pc := 7) dX7_isDay_7 rfl ?_
    refine r_if_lt (pc := 8) (tgt := 21) dX7_isDay_8 (by decide) (fun q => ?_) (fun q => ?_)
    · have K0 := K0.1 q
      refine r_iconst (pc := 21) (v := 0) dX7_isDay_21 (by decide) ?_
      exact s_zret rfl (by decide) dX7_isDay_22 K0
    · have K0 := K0.2 q
      refine r_iload_n (pc := 11) dX7_isDay_11 rfl ?_
      refine r_bipush (pc := 12) (v := 7) dX7_isDay_12 (by decide) ?_
      refine r_icmp_ge (pc := 14) (tgt := 21) dX7_isDay_14 (by decide) (fun q => ?_) (fun q => ?_)
      · have K0 := K0.1 q
        refine r_iconst (pc := 21) (v := 0) dX7_isDay_21 (by decide) ?_
        exact s_zret rfl (by decide) dX7_isDay_22 K0
      · have K0 := K0.2 q
        refine r_iconst (pc := 17) (v := 1) dX7_isDay_17 (by decide) ?_
        refine r_goto (pc := 18) (tgt := 22) dX7_isDay_18 (by decide) ?_
        exact s_zret rfl (by decide) dX7_isDay_22 K0
section
variable {K : Sh} {x : Cn} {Q : Int32 → Cn → Prop} {b t n : Nat}
theorem sp_X7_isDay {l1 : Int32} (h1 : kk K b = some (7, 0)) (h2 : gr x b 2 = some t) (h3 : kk K t = some (4, 0)) (k : Q (b2i (0 < gi x t 0 ∧ 0 ≤ l1 ∧ l1 < 7)) x) : mSI mX7_isDay [.ref b, .int l1] K x Q :=
  v_X7_isDay_0 h1 h2 h3 ⟨fun h => (b2i_k k).2 (fun z => h z.1), fun h => ⟨fun g => (b2i_k k).2 (fun z => Int32.not_le.mpr g z.2.1), fun g => ⟨fun f => (b2i_k k).2 (fun z => Int32.not_lt.mpr f z.2.2), fun f => (b2i_k k).1 ⟨h, Int32.not_lt.mp g, Int32.not_le.mp f⟩⟩⟩⟩
end
set_option maxHeartbeats 2000000 in
theorem v_X7_isHour_0 {K : Sh} {x : Cn} {Q : Int32 → Cn → Prop} {b0 : Nat} {l1 : Int32} {b0_2 : Nat} (k_b0 : kk K b0 = some (7, 0)) (g_b0_2 : gr x b0 2 = some b0_2) (k_b0_2 : kk K b0_2 = some (4, 0)) (K0 : (¬ (0 < gi x b0_2 0) → (Q 0 x)) ∧ ((0 < gi x b0_2 0) → ((l1 < 0 → (Q 0 x)) ∧ (¬ l1 < 0 → ((24 ≤ l1 → (Q 0 x)) ∧ (¬ 24 ≤ l1 → (Q 1 x))))))) : mSI mX7_isHour [.ref b0, .int l1] K x Q := by
  refine s_I (by decide) (by simp [Value.category]) (Nat.le_of_ble_eq_true rfl) ?_
  show mGM mX7_isHour 0 [some (.ref b0), some (.int l1)] [] (hp K x) (PI K Q)
  refine r_aload_n (pc := 0) dX7_isHour_0 rfl ?_
  refine s_VI (pc := 1) mX7_hasText (ci := 7) (a := b0) (As := []) dX7_isHour_1 lk_X7_121 in_X7_hasText mo_X7_hasText ⟨by decide, rfl⟩ ⟨by decide, by decide⟩ (Nat.le_of_ble_eq_true rfl) k_b0 (sp_X7_hasText k_b0 g_b0_2 k_b0_2 ?_)
  refine r_if_eq (pc := 4) (tgt := 21) dX7_isHour_4 (by decide) (fun q => ?_) (fun q => ?_)
  · have q := (b2i_z _).mp q
    have K0 := K0.1 q
    refine r_iconst (pc := 21) (v := 0) dX7_isHour_21 (by decide) ?_
    exact s_zret rfl (by decide) dX7_isHour_22 K0
  · have q := b2i_nz q
    have K0 := K0.2 q
    refine r_iload_n (pc := 7) dX7_isHour_7 rfl ?_
    refine r_if_lt (pc := 8) (tgt := 21) dX7_isHour_8 (by decide) (fun q => ?_) (fun q => ?_)
    · have K0 := K0.1 q
      refine r_iconst (pc := 21) (v := 0) dX7_isHour_21 (by decide) ?_
      exact s_zret rfl (by decide) dX7_isHour_22 K0
    · have K0 := K0.2 q
      refine r_iload_n (pc := 11) dX7_isHour_11 rfl ?_
      refine r_bipush (pc := 12) (v := 24) dX7_isHour_12 (by decide) ?_
      refine r_icmp_ge (pc := 14) (tgt := 21) dX7_isHour_14 (by decide) (fun q => ?_) (fun q => ?_)
      · have K0 := K0.1 q
        refine r_iconst (pc := 21) (v := 0) dX7_isHour_21 (by decide) ?_
        exact s_zret rfl (by decide) dX7_isHour_22 K0
      · have K0 := K0.2 q
        refine r_iconst (pc := 17) (v := 1) dX7_isHour_17 (by decide) ?_
        refine r_goto (pc := 18) (tgt := 22) dX7_isHour_18 (by decide) ?_
        exact s_zret rfl (by decide) dX7_isHour_22 K0
section
variable {K : Sh} {x : Cn} {Q : Int32 → Cn → Prop} {b t n : Nat}
theorem sp_X7_isHour {l1 : Int32} (h1 : kk K b = some (7, 0)) (h2 : gr x b 2 = some t) (h3 : kk K t = some (4, 0)) (k : Q (b2i (0 < gi x t 0 ∧ 0 ≤ l1 ∧ l1 < 24)) x) : mSI mX7_isHour [.ref b, .int l1] K x Q :=
  v_X7_isHour_0 h1 h2 h3 ⟨fun h => (b2i_k k).2 (fun z => h z.1), fun h => ⟨fun g => (b2i_k k).2 (fun z => Int32.not_le.mpr g z.2.1), fun g => ⟨fun f => (b2i_k k).2 (fun z => Int32.not_lt.mpr f z.2.2), fun f => (b2i_k k).1 ⟨h, Int32.not_lt.mp g, Int32.not_le.mp f⟩⟩⟩⟩
end
set_option maxHeartbeats 2000000 in
theorem v_X7_isCell_0 {K : Sh} {x : Cn} {Q : Int32 → Cn → Prop} {b0 : Nat} {l1 : Int32} {l2 : Int32} {l3 : Int32} {b0_2 : Nat} (k_b0 : kk K b0 = some (7, 0)) (g_b0_2 : gr x b0 2 = some b0_2) (k_b0_2 : kk K b0_2 = some (4, 0)) (K0 : (¬ (0 ≤ l1 ∧ l1 < gi x b0_2 0) → (Q 0 x)) ∧ ((0 ≤ l1 ∧ l1 < gi x b0_2 0) → ((¬ (0 < gi x b0_2 0 ∧ 0 ≤ l2 ∧ l2 < 7) → (Q 0 x)) ∧ ((0 < gi x b0_2 0 ∧ 0 ≤ l2 ∧ l2 < 7) → ((¬ (0 < gi x b0_2 0 ∧ 0 ≤ l3 ∧ l3 < 24) → (Q 0 x)) ∧ ((0 < gi x b0_2 0 ∧ 0 ≤ l3 ∧ l3 < 24) → (Q 1 x))))))) : mSI mX7_isCell [.ref b0, .int l1, .int l2, .int l3] K x Q := by
  refine s_I (by decide) (by simp [Value.category]) (Nat.le_of_ble_eq_true rfl) ?_
  show mGM mX7_isCell 0 [some (.ref b0), some (.int l1), some (.int l2), some (.int l3)] [] (hp K x) (PI K Q)
  refine r_aload_n (pc := 0) dX7_isCell_0 rfl ?_
  refine r_iload_n (pc := 1) dX7_isCell_1 rfl ?_
  refine s_VI (pc := 2) mX7_isWeek (ci := 7) (a := b0) (As := [.int l1]) dX7_isCell_2 lk_X7_167 in_X7_isWeek mo_X7_isWeek ⟨by decide, rfl⟩ ⟨by decide, by decide⟩ (Nat.le_of_ble_eq_true rfl) k_b0 (sp_X7_isWeek k_b0 g_b0_2 k_b0_2 ?_)
  refine r_if_eq (pc := 5) (tgt := 28) dX7_isCell_5 (by decide) (fun q => ?_) (fun q => ?_)
  · have q := (b2i_z _).mp q
    have K0 := K0.1 q
    refine r_iconst (pc := 28) (v := 0) dX7_isCell_28 (by decide) ?_
    exact s_zret rfl (by decide) dX7_isCell_29 K0
  · have q := b2i_nz q
    have K0 := K0.2 q
    refine r_aload_n (pc := 8) dX7_isCell_8 rfl ?_
    refine r_iload_n (pc := 9) dX7_isCell_9 rfl ?_
    refine s_VI (pc := 10) mX7_isDay (ci := 7) (a := b0) (As := [.int l2]) dX7_isCell_10 lk_X7_245 in_X7_isDay mo_X7_isDay ⟨by decide, rfl⟩ ⟨by decide, by decide⟩ (Nat.le_of_ble_eq_true rfl) k_b0 (sp_X7_isDay k_b0 g_b0_2 k_b0_2 ?_)
    refine r_if_eq (pc := 13) (tgt := 28) dX7_isCell_13 (by decide) (fun q => ?_) (fun q => ?_)
    · have q := (b2i_z _).mp q
      have K0 := K0.1 q
      refine r_iconst (pc := 28) (v := 0) dX7_isCell_28 (by decide) ?_
      exact s_zret rfl (by decide) dX7_isCell_29 K0
    · have q := b2i_nz q
      have K0 := K0.2 q
      refine r_aload_n (pc := 16) dX7_isCell_16 rfl ?_
      refine r_iload_n (pc := 17) dX7_isCell_17 rfl ?_
      refine s_VI (pc := 18) mX7_isHour (ci := 7) (a := b0) (As := [.int l3]) dX7_isCell_18 lk_X7_195 in_X7_isHour mo_X7_isHour ⟨by decide, rfl⟩ ⟨by decide, by decide⟩ (Nat.le_of_ble_eq_true rfl) k_b0 (sp_X7_isHour k_b0 g_b0_2 k_b0_2 ?_)
      refine r_if_eq (pc := 21) (tgt := 28) dX7_isCell_21 (by decide) (fun q => ?_) (fun q => ?_)
      · have q := (b2i_z _).mp q
        have K0 := K0.1 q
        refine r_iconst (pc := 28) (v := 0) dX7_isCell_28 (by decide) ?_
        exact s_zret rfl (by decide) dX7_isCell_29 K0
      · have q := b2i_nz q
        have K0 := K0.2 q
        refine r_iconst (pc := 24) (v := 1) dX7_isCell_24 (by decide) ?_
        refine r_goto (pc := 25) (tgt := 29) dX7_isCell_25 (by decide) ?_
        exact s_zret rfl (by decide) dX7_isCell_29 K0
section
variable {K : Sh} {x : Cn} {Q : Int32 → Cn → Prop} {b t n : Nat}
theorem sp_X7_isCell {l1 l2 l3 : Int32} (h1 : kk K b = some (7, 0)) (h2 : gr x b 2 = some t) (h3 : kk K t = some (4, 0)) (k : Q (b2i (0 ≤ l1 ∧ l1 < gi x t 0 ∧ 0 < gi x t 0 ∧ 0 ≤ l2 ∧ l2 < 7 ∧ 0 ≤ l3 ∧ l3 < 24)) x) : mSI mX7_isCell [.ref b, .int l1, .int l2, .int l3] K x Q :=
  v_X7_isCell_0 h1 h2 h3 ⟨fun h => (b2i_k k).2 (fun z => h ⟨z.1, z.2.1⟩), fun h => ⟨fun g => (b2i_k k).2 (fun z => g ⟨z.2.2.1, z.2.2.2.1, z.2.2.2.2.1⟩), fun g => ⟨fun f => (b2i_k k).2 (fun z => f ⟨z.2.2.1, z.2.2.2.2.2⟩), fun f => (b2i_k k).1 ⟨h.1, h.2, g.1, g.2.1, g.2.2, f.2⟩⟩⟩⟩
end

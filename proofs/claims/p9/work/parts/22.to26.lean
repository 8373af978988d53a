/-! 22.small2.lean.txt -/
section
set_option maxHeartbeats 2000000 in
theorem v_X8_isDay_0 {K : Sh} {x : Cn} {Q : Int32 → Cn → Prop} {b0 : Nat} {l1 : Int32} {b0_1 : Nat} {n_b0_1 : Nat} (k_b0 : kk K b0 = some (8, 0)) (g_b0_1 : gr x b0 1 = some b0_1) (k_b0_1 : kk K b0_1 = some (20, n_b0_1)) (K0 : vp_in 0 n_b0_1 ∧ ((¬ (0 < gi x b0_1 0) → (Q 0 x)) ∧ ((0 < gi x b0_1 0) → ((¬ (0 ≤ l1 ∧ l1 ≤ 6) → (Q 0 x)) ∧ ((0 ≤ l1 ∧ l1 ≤ 6) → (Q 1 x)))))) : mSI mX8_isDay [.ref b0, .int l1] K x Q := by
  refine s_I (by decide) (by simp [Value.category]) (Nat.le_of_ble_eq_true rfl) ?_
  show mGM mX8_isDay 0 [some (.ref b0), some (.int l1)] [] (hp K x) (PI K Q)
  refine r_aload_n (pc := 0) dX8_isDay_0 rfl ?_
  obtain ⟨i_1, K0⟩ := K0
  refine s_VI (pc := 1) mX8_isThere (ci := 8) (a := b0) (As := []) dX8_isDay_1 lk_X8_49 in_X8_isThere mo_X8_isThere ⟨by decide, rfl⟩ ⟨by decide, by decide⟩ (Nat.le_of_ble_eq_true rfl) k_b0 (sp_X8_isThere k_b0 g_b0_1 k_b0_1 i_1 ?_)
  refine r_if_eq (pc := 4) (tgt := 23) dX8_isDay_4 (by decide) (fun q => ?_) (fun q => ?_)
  · have q := (b2i_z _).mp q
    have K0 := K0.1 q
    refine r_iconst (pc := 23) (v := 0) dX8_isDay_23 (by decide) ?_
    exact s_zret rfl (by decide) dX8_isDay_24 K0
  · have q := b2i_nz q
    have K0 := K0.2 q
    refine r_iload_n (pc := 7) dX8_isDay_7 rfl ?_
    refine r_i2l (pc := 8) dX8_isDay_8 ?_
    refine r_lconst (pc := 9) (v := 0) dX8_isDay_9 (by decide) ?_
    refine r_ldc2 (pc := 10) (v := 6) dX8_isDay_10 cn_X8_53 ?_
    refine s_SI (pc := 13) mX8_in (As := [.long ((l1 : Int32).toInt64), .long 0, .long 6]) dX8_isDay_13 lk_X8_45 st_X8_in mo_X8_in ⟨by decide, by decide⟩ (Nat.le_of_ble_eq_true rfl) (sq_X8_in (v := l1) (lo := 0) (hi := 6) rfl (by decide) (by decide) ?_)
    refine r_if_eq (pc := 16) (tgt := 23) dX8_isDay_16 (by decide) (fun q => ?_) (fun q => ?_)
    · have q := (b2i_z _).mp q
      have K0 := K0.1 q
      refine r_iconst (pc := 23) (v := 0) dX8_isDay_23 (by decide) ?_
      exact s_zret rfl (by decide) dX8_isDay_24 K0
    · have q := b2i_nz q
      have K0 := K0.2 q
      refine r_iconst (pc := 19) (v := 1) dX8_isDay_19 (by decide) ?_
      refine r_goto (pc := 20) (tgt := 24) dX8_isDay_20 (by decide) ?_
      exact s_zret rfl (by decide) dX8_isDay_24 K0
section
variable {K : Sh} {x : Cn} {Q : Int32 → Cn → Prop} {b t n : Nat}
theorem sp_X8_isDay {l1 : Int32} (h1 : kk K b = some (8, 0)) (h2 : gr x b 1 = some t) (h3 : kk K t = some (20, n)) (h4 : vp_in 0 n) (k : Q (b2i (0 < gi x t 0 ∧ 0 ≤ l1 ∧ l1 ≤ 6)) x) : mSI mX8_isDay [.ref b, .int l1] K x Q :=
  v_X8_isDay_0 h1 h2 h3 ⟨h4, fun h => (b2i_k k).2 (fun z => h z.1), fun h => ⟨fun g => (b2i_k k).2 (fun z => g z.2), fun g => (b2i_k k).1 ⟨h, g⟩⟩⟩
end
set_option maxHeartbeats 2000000 in
theorem v_X8_isHour_0 {K : Sh} {x : Cn} {Q : Int32 → Cn → Prop} {b0 : Nat} {l1 : Int32} {b0_1 : Nat} {n_b0_1 : Nat} (k_b0 : kk K b0 = some (8, 0)) (g_b0_1 : gr x b0 1 = some b0_1) (k_b0_1 : kk K b0_1 = some (20, n_b0_1)) (K0 : vp_in 0 n_b0_1 ∧ ((¬ (0 < gi x b0_1 0) → (Q 0 x)) ∧ ((0 < gi x b0_1 0) → ((¬ (0 ≤ l1 ∧ l1 ≤ 23) → (Q 0 x)) ∧ ((0 ≤ l1 ∧ l1 ≤ 23) → (Q 1 x)))))) : mSI mX8_isHour [.ref b0, .int l1] K x Q := by
  refine s_I (by decide) (by simp [Value.category]) (Nat.le_of_ble_eq_true rfl) ?_
  show mGM mX8_isHour 0 [some (.ref b0), some (.int l1)] [] (hp K x) (PI K Q)
  refine r_aload_n (pc := 0) dX8_isHour_0 rfl ?_
  obtain ⟨i_1, K0⟩ := K0
  refine s_VI (pc := 1) mX8_isThere (ci := 8) (a := b0) (As := []) dX8_isHour_1 lk_X8_49 in_X8_isThere mo_X8_isThere ⟨by decide, rfl⟩ ⟨by decide, by decide⟩ (Nat.le_of_ble_eq_true rfl) k_b0 (sp_X8_isThere k_b0 g_b0_1 k_b0_1 i_1 ?_)
  refine r_if_eq (pc := 4) (tgt := 23) dX8_isHour_4 (by decide) (fun q => ?_) (fun q => ?_)
  · have q := (b2i_z _).mp q
    have K0 := K0.1 q
    refine r_iconst (pc := 23) (v := 0) dX8_isHour_23 (by decide) ?_
    exact s_zret rfl (by decide) dX8_isHour_24 K0
  · have q := b2i_nz q
    have K0 := K0.2 q
    refine r_iload_n (pc := 7) dX8_isHour_7 rfl ?_
    refine r_i2l (pc := 8) dX8_isHour_8 ?_
    refine r_lconst (pc := 9) (v := 0) dX8_isHour_9 (by decide) ?_
    refine r_ldc2 (pc := 10) (v := 23) dX8_isHour_10 cn_X8_55 ?_
    refine s_SI (pc := 13) mX8_in (As := [.long ((l1 : Int32).toInt64), .long 0, .long 23]) dX8_isHour_13 lk_X8_45 st_X8_in mo_X8_in ⟨by decide, by decide⟩ (Nat.le_of_ble_eq_true rfl) (sq_X8_in (v := l1) (lo := 0) (hi := 23) rfl (by decide) (by decide) ?_)
    refine r_if_eq (pc := 16) (tgt := 23) dX8_isHour_16 (by decide) (fun q => ?_) (fun q => ?_)
    · have q := (b2i_z _).mp q
      have K0 := K0.1 q
      refine r_iconst (pc := 23) (v := 0) dX8_isHour_23 (by decide) ?_
      exact s_zret rfl (by decide) dX8_isHour_24 K0
    · have q := b2i_nz q
      have K0 := K0.2 q
      refine r_iconst (pc := 19) (v := 1) dX8_isHour_19 (by decide) ?_
      refine r_goto (pc := 20) (tgt := 24) dX8_isHour_20 (by decide) ?_
      exact s_zret rfl (by decide) dX8_isHour_24 K0
section
variable {K : Sh} {x : Cn} {Q : Int32 → Cn → Prop} {b t n : Nat}
theorem sp_X8_isHour {l1 : Int32} (h1 : kk K b = some (8, 0)) (h2 : gr x b 1 = some t) (h3 : kk K t = some (20, n)) (h4 : vp_in 0 n) (k : Q (b2i (0 < gi x t 0 ∧ 0 ≤ l1 ∧ l1 ≤ 23)) x) : mSI mX8_isHour [.ref b, .int l1] K x Q :=
  v_X8_isHour_0 h1 h2 h3 ⟨h4, fun h => (b2i_k k).2 (fun z => h z.1), fun h => ⟨fun g => (b2i_k k).2 (fun z => g z.2), fun g => (b2i_k k).1 ⟨h, g⟩⟩⟩
end
set_option maxHeartbeats 2000000 in
theorem v_X8_isPlace_0 {K : Sh} {x : Cn} {Q : Int32 → Cn → Prop} {b0 : Nat} {l1 : Int32} {l2 : Int32} {l3 : Int32} {b0_1 : Nat} {n_b0_1 : Nat} (k_b0 : kk K b0 = some (8, 0)) (g_b0_1 : gr x b0 1 = some b0_1) (k_b0_1 : kk K b0_1 = some (20, n_b0_1)) (K0 : vp_in 0 n_b0_1 ∧ ((¬ (0 ≤ l1 ∧ l1 ≤ gi x b0_1 0 - 1) → (Q 0 x)) ∧ ((0 ≤ l1 ∧ l1 ≤ gi x b0_1 0 - 1) → ((¬ (0 < gi x b0_1 0 ∧ 0 ≤ l2 ∧ l2 ≤ 6) → (Q 0 x)) ∧ ((0 < gi x b0_1 0 ∧ 0 ≤ l2 ∧ l2 ≤ 6) → ((¬ (0 < gi x b0_1 0 ∧ 0 ≤ l3 ∧ l3 ≤ 23) → (Q 0 x)) ∧ ((0 < gi x b0_1 0 ∧ 0 ≤ l3 ∧ l3 ≤ 23) → (Q 1 x)))))))) : mSI mX8_isPlace [.ref b0, .int l1, .int l2, .int l3] K x Q := by
  refine s_I (by decide) (by simp [Value.category]) (Nat.le_of_ble_eq_true rfl) ?_
  show mGM mX8_isPlace 0 [some (.ref b0), some (.int l1), some (.int l2), some (.int l3)] [] (hp K x) (PI K Q)
  refine r_aload_n (pc := 0) dX8_isPlace_0 rfl ?_
  refine r_iload_n (pc := 1) dX8_isPlace_1 rfl ?_
  obtain ⟨i_1, K0⟩ := K0
  refine s_VI (pc := 2) mX8_isWeek (ci := 8) (a := b0) (As := [.int l1]) dX8_isPlace_2 lk_X8_57 in_X8_isWeek mo_X8_isWeek ⟨by decide, rfl⟩ ⟨by decide, by decide⟩ (Nat.le_of_ble_eq_true rfl) k_b0 (sp_X8_isWeek k_b0 g_b0_1 k_b0_1 i_1 ?_)
  refine r_if_eq (pc := 5) (tgt := 28) dX8_isPlace_5 (by decide) (fun q => ?_) (fun q => ?_)
  · have q := (b2i_z _).mp q
    have K0 := K0.1 q
    refine r_iconst (pc := 28) (v := 0) dX8_isPlace_28 (by decide) ?_
    exact s_zret rfl (by decide) dX8_isPlace_29 K0
  · have q := b2i_nz q
    have K0 := K0.2 q
    refine r_aload_n (pc := 8) dX8_isPlace_8 rfl ?_
    refine r_iload_n (pc := 9) dX8_isPlace_9 rfl ?_
    refine s_VI (pc := 10) mX8_isDay (ci := 8) (a := b0) (As := [.int l2]) dX8_isPlace_10 lk_X8_61 in_X8_isDay mo_X8_isDay ⟨by decide, rfl⟩ ⟨by decide, by decide⟩ (Nat.le_of_ble_eq_true rfl) k_b0 (sp_X8_isDay k_b0 g_b0_1 k_b0_1 i_1 ?_)
    refine r_if_eq (pc := 13) (tgt := 28) dX8_isPlace_13 (by decide) (fun q => ?_) (fun q => ?_)
    · have q := (b2i_z _).mp q
      have K0 := K0.1 q
      refine r_iconst (pc := 28) (v := 0) dX8_isPlace_28 (by decide) ?_
      exact s_zret rfl (by decide) dX8_isPlace_29 K0
    · have q := b2i_nz q
      have K0 := K0.2 q
      refine r_aload_n (pc := 16) dX8_isPlace_16 rfl ?_
      refine r_iload_n (pc := 17) dX8_isPlace_17 rfl ?_
      refine s_VI (pc := 18) mX8_isHour (ci := 8) (a := b0) (As := [.int l3]) dX8_isPlace_18 lk_X8_64 in_X8_isHour mo_X8_isHour ⟨by decide, rfl⟩ ⟨by decide, by decide⟩ (Nat.le_of_ble_eq_true rfl) k_b0 (sp_X8_isHour k_b0 g_b0_1 k_b0_1 i_1 ?_)
      refine r_if_eq (pc := 21) (tgt := 28) dX8_isPlace_21 (by decide) (fun q => ?_) (fun q => ?_)
      · have q := (b2i_z _).mp q
        have K0 := K0.1 q
        refine r_iconst (pc := 28) (v := 0) dX8_isPlace_28 (by decide) ?_
        exact s_zret rfl (by decide) dX8_isPlace_29 K0
      · have q := b2i_nz q
        have K0 := K0.2 q
        refine r_iconst (pc := 24) (v := 1) dX8_isPlace_24 (by decide) ?_
        refine r_goto (pc := 25) (tgt := 29) dX8_isPlace_25 (by decide) ?_
        exact s_zret rfl (by decide) dX8_isPlace_29 K0
section
variable {K : Sh} {x : Cn} {Q : Int32 → Cn → Prop} {b t n : Nat}
theorem sp_X8_isPlace {l1 l2 l3 : Int32} (h1 : kk K b = some (8, 0)) (h2 : gr x b 1 = some t) (h3 : kk K t = some (20, n)) (h4 : vp_in 0 n) (k : Q (b2i (0 ≤ l1 ∧ l1 ≤ gi x t 0 - 1 ∧ 0 < gi x t 0 ∧ 0 ≤ l2 ∧ l2 ≤ 6 ∧ 0 ≤ l3 ∧ l3 ≤ 23)) x) : mSI mX8_isPlace [.ref b, .int l1, .int l2, .int l3] K x Q :=
  v_X8_isPlace_0 h1 h2 h3 ⟨h4, fun h => (b2i_k k).2 (fun z => h ⟨z.1, z.2.1⟩), fun h => ⟨fun g => (b2i_k k).2 (fun z => g ⟨z.2.2.1, z.2.2.2.1, z.2.2.2.2.1⟩), fun g => ⟨fun f => (b2i_k k).2 (fun z => f ⟨z.2.2.1, z.2.2.2.2.2⟩), fun f => (b2i_k k).1 ⟨h.1, h.2, g.1, g.2.1, g.2.2, f.2⟩⟩⟩⟩
end
set_option maxHeartbeats 2000000 in
theorem v_X8_isByte_0 {K : Sh} {x : Cn} {Q : Int32 → Cn → Prop} {b0 : Nat} {l1 : Int32}  (k_b0 : kk K b0 = some (8, 0)) (K0 : (¬ (gi x b0 11 = 0) → (Q 0 x)) ∧ ((gi x b0 11 = 0) → ((¬ (gi x b0 9) = 3 → (Q 0 x)) ∧ ((gi x b0 9) = 3 → ((¬ (gi x b0 10) = l1 → (Q 0 x)) ∧ ((gi x b0 10) = l1 → (Q 1 x))))))) : mSI mX8_isByte [.ref b0, .int l1] K x Q := by
  refine s_I (by decide) (by simp [Value.category]) (Nat.le_of_ble_eq_true rfl) ?_
  show mGM mX8_isByte 0 [some (.ref b0), some (.int l1)] [] (hp K x) (PI K Q)
  refine r_aload_n (pc := 0) dX8_isByte_0 rfl ?_
  refine s_VI (pc := 1) mX8_good (ci := 8) (a := b0) (As := []) dX8_isByte_1 lk_X8_104 in_X8_good mo_X8_good ⟨by decide, rfl⟩ ⟨by decide, by decide⟩ (Nat.le_of_ble_eq_true rfl) k_b0 (sp_X8_good k_b0 ?_)
  refine r_if_eq (pc := 4) (tgt := 27) dX8_isByte_4 (by decide) (fun q => ?_) (fun q => ?_)
  · have q := (b2i_z _).mp q
    have K0 := K0.1 q
    refine r_iconst (pc := 27) (v := 0) dX8_isByte_27 (by decide) ?_
    exact s_zret rfl (by decide) dX8_isByte_28 K0
  · have q := b2i_nz q
    have K0 := K0.2 q
    refine r_aload_n (pc := 7) dX8_isByte_7 rfl ?_
    refine s_getI (pc := 8) dX8_isByte_8 fl_X8_119 rfl k_b0 ?_
    refine r_iconst (pc := 11) (v := 3) dX8_isByte_11 (by decide) ?_
    refine r_icmp_ne (pc := 12) (tgt := 27) dX8_isByte_12 (by decide) (fun q => ?_) (fun q => ?_)
    · have K0 := K0.1 q
      refine r_iconst (pc := 27) (v := 0) dX8_isByte_27 (by decide) ?_
      exact s_zret rfl (by decide) dX8_isByte_28 K0
    · have K0 := K0.2 q
      refine r_aload_n (pc := 15) dX8_isByte_15 rfl ?_
      refine s_getI (pc := 16) dX8_isByte_16 fl_X8_130 rfl k_b0 ?_
      refine r_iload_n (pc := 19) dX8_isByte_19 rfl ?_
      refine r_icmp_ne (pc := 20) (tgt := 27) dX8_isByte_20 (by decide) (fun q => ?_) (fun q => ?_)
      · have K0 := K0.1 q
        refine r_iconst (pc := 27) (v := 0) dX8_isByte_27 (by decide) ?_
        exact s_zret rfl (by decide) dX8_isByte_28 K0
      · have K0 := K0.2 q
        refine r_iconst (pc := 23) (v := 1) dX8_isByte_23 (by decide) ?_
        refine r_goto (pc := 24) (tgt := 28) dX8_isByte_24 (by decide) ?_
        exact s_zret rfl (by decide) dX8_isByte_28 K0
section
variable {K : Sh} {x : Cn} {Q : Int32 → Cn → Prop} {b t n : Nat}
theorem sp_X8_isByte {l1 : Int32} (h1 : kk K b = some (8, 0)) (k : Q (b2i (gi x b 11 = 0 ∧ gi x b 9 = 3 ∧ gi x b 10 = l1)) x) : mSI mX8_isByte [.ref b, .int l1] K x Q :=
  v_X8_isByte_0 h1 ⟨fun h => (b2i_k k).2 (fun z => h z.1), fun h => ⟨fun g => (b2i_k k).2 (fun z => g z.2.1), fun g => ⟨fun f => (b2i_k k).2 (fun z => f z.2.2), fun f => (b2i_k k).1 ⟨h, g, f⟩⟩⟩⟩
end
set_option maxHeartbeats 2000000 in
theorem v_X8_basisOf_0 {K : Sh} {x : Cn} {Q : Int32 → Cn → Prop} {b0 : Nat} {l1 : Int32} {b0_3 : Nat} {n_b0_3 : Nat} (k_b0 : kk K b0 = some (8, 0)) (g_b0_3 : gr x b0 3 = some b0_3) (k_b0_3 : kk K b0_3 = some (20, n_b0_3)) (K0 : vp_in ((62 + (12 * l1)) + 7) n_b0_3 ∧ (vp_in ((62 + (12 * l1)) + 8) n_b0_3 ∧ (vp_in ((62 + (12 * l1)) + 9) n_b0_3 ∧ (vp_in ((62 + (12 * l1)) + 10) n_b0_3 ∧ (Q ((((gi x b0_3 ((62 + (12 * l1)) + 7 : Int32).toNatClampNeg) ||| (gi x b0_3 ((62 + (12 * l1)) + 8 : Int32).toNatClampNeg)) ||| (gi x b0_3 ((62 + (12 * l1)) + 9 : Int32).toNatClampNeg)) ||| (gi x b0_3 ((62 + (12 * l1)) + 10 : Int32).toNatClampNeg)) x))))) : mSI mX8_basisOf [.ref b0, .int l1] K x Q := by
  refine s_I (by decide) (by simp [Value.category]) (Nat.le_of_ble_eq_true rfl) ?_
  show mGM mX8_basisOf 0 [some (.ref b0), some (.int l1)] [] (hp K x) (PI K Q)
  refine r_aload_n (pc := 0) dX8_basisOf_0 rfl ?_
  refine r_iload_n (pc := 1) dX8_basisOf_1 rfl ?_
  refine r_bipush (pc := 2) (v := 7) dX8_basisOf_2 (by decide) ?_
  obtain ⟨i_1, K0⟩ := K0
  refine s_VI (pc := 4) mX8_one (ci := 8) (a := b0) (As := [.int l1, .int 7]) dX8_basisOf_4 lk_X8_67 in_X8_one mo_X8_one ⟨by decide, rfl⟩ ⟨by decide, by decide⟩ (Nat.le_of_ble_eq_true rfl) k_b0 (sp_X8_one k_b0 g_b0_3 k_b0_3 i_1 ?_)
  refine r_aload_n (pc := 7) dX8_basisOf_7 rfl ?_
  refine r_iload_n (pc := 8) dX8_basisOf_8 rfl ?_
  refine r_bipush (pc := 9) (v := 8) dX8_basisOf_9 (by decide) ?_
  obtain ⟨i_2, K0⟩ := K0
  refine s_VI (pc := 11) mX8_one (ci := 8) (a := b0) (As := [.int l1, .int 8]) dX8_basisOf_11 lk_X8_67 in_X8_one mo_X8_one ⟨by decide, rfl⟩ ⟨by decide, by decide⟩ (Nat.le_of_ble_eq_true rfl) k_b0 (sp_X8_one k_b0 g_b0_3 k_b0_3 i_2 ?_)
  refine r_ior (pc := 14) dX8_basisOf_14 ?_
  refine r_aload_n (pc := 15) dX8_basisOf_15 rfl ?_
  refine r_iload_n (pc := 16) dX8_basisOf_16 rfl ?_
  refine r_bipush (pc := 17) (v := 9) dX8_basisOf_17 (by decide) ?_
  obtain ⟨i_3, K0⟩ := K0
  refine s_VI (pc := 19) mX8_one (ci := 8) (a := b0) (As := [.int l1, .int 9]) dX8_basisOf_19 lk_X8_67 in_X8_one mo_X8_one ⟨by decide, rfl⟩ ⟨by decide, by decide⟩ (Nat.le_of_ble_eq_true rfl) k_b0 (sp_X8_one k_b0 g_b0_3 k_b0_3 i_3 ?_)
  refine r_ior (pc := 22) dX8_basisOf_22 ?_
  refine r_aload_n (pc := 23) dX8_basisOf_23 rfl ?_
  refine r_iload_n (pc := 24) dX8_basisOf_24 rfl ?_
  refine r_bipush (pc := 25) (v := 10) dX8_basisOf_25 (by decide) ?_
  obtain ⟨i_4, K0⟩ := K0
  refine s_VI (pc := 27) mX8_one (ci := 8) (a := b0) (As := [.int l1, .int 10]) dX8_basisOf_27 lk_X8_67 in_X8_one mo_X8_one ⟨by decide, rfl⟩ ⟨by decide, by decide⟩ (Nat.le_of_ble_eq_true rfl) k_b0 (sp_X8_one k_b0 g_b0_3 k_b0_3 i_4 ?_)
  refine r_ior (pc := 30) dX8_basisOf_30 ?_
  exact s_iret rfl dX8_basisOf_31 K0
section
variable {K : Sh} {x : Cn} {Q : Int32 → Cn → Prop} {b t n : Nat}
theorem sp_X8_basisOf {l1 : Int32} (h1 : kk K b = some (8, 0)) (h2 : gr x b 3 = some t) (h3 : kk K t = some (20, n)) (h4 : vp_in ((62 + (12 * l1)) + 7) n) (h5 : vp_in ((62 + (12 * l1)) + 8) n) (h6 : vp_in ((62 + (12 * l1)) + 9) n) (h7 : vp_in ((62 + (12 * l1)) + 10) n) (k : Q (((gi x t ((62 + (12 * l1)) + 7 : Int32).toNatClampNeg ||| gi x t ((62 + (12 * l1)) + 8 : Int32).toNatClampNeg) ||| gi x t ((62 + (12 * l1)) + 9 : Int32).toNatClampNeg) ||| gi x t ((62 + (12 * l1)) + 10 : Int32).toNatClampNeg) x) : mSI mX8_basisOf [.ref b, .int l1] K x Q := v_X8_basisOf_0 h1 h2 h3 ⟨h4, h5, h6, h7, k⟩
end
set_option maxHeartbeats 2000000 in
theorem v_X8_goodOf_0 {K : Sh} {x : Cn} {Q : Int32 → Cn → Prop} {b0 : Nat} {l1 : Int32} {b0_3 : Nat} {n_b0_3 : Nat} (k_b0 : kk K b0 = some (8, 0)) (g_b0_3 : gr x b0 3 = some b0_3) (k_b0_3 : kk K b0_3 = some (20, n_b0_3)) (K0 : vp_in ((62 + (12 * l1)) + 8) n_b0_3 ∧ (vp_in ((62 + (12 * l1)) + 10) n_b0_3 ∧ (Q (nI (cpt ((gi x b0_3 ((62 + (12 * l1)) + 8 : Int32).toNatClampNeg) ||| (gi x b0_3 ((62 + (12 * l1)) + 10 : Int32).toNatClampNeg)))) x))) : mSI mX8_goodOf [.ref b0, .int l1] K x Q := by
  refine s_I (by decide) (by simp [Value.category]) (Nat.le_of_ble_eq_true rfl) ?_
  show mGM mX8_goodOf 0 [some (.ref b0), some (.int l1)] [] (hp K x) (PI K Q)
  refine r_aload_n (pc := 0) dX8_goodOf_0 rfl ?_
  refine r_iload_n (pc := 1) dX8_goodOf_1 rfl ?_
  refine r_bipush (pc := 2) (v := 8) dX8_goodOf_2 (by decide) ?_
  obtain ⟨i_1, K0⟩ := K0
  refine s_VI (pc := 4) mX8_one (ci := 8) (a := b0) (As := [.int l1, .int 8]) dX8_goodOf_4 lk_X8_67 in_X8_one mo_X8_one ⟨by decide, rfl⟩ ⟨by decide, by decide⟩ (Nat.le_of_ble_eq_true rfl) k_b0 (sp_X8_one k_b0 g_b0_3 k_b0_3 i_1 ?_)
  refine r_aload_n (pc := 7) dX8_goodOf_7 rfl ?_
  refine r_iload_n (pc := 8) dX8_goodOf_8 rfl ?_
  refine r_bipush (pc := 9) (v := 10) dX8_goodOf_9 (by decide) ?_
  obtain ⟨i_2, K0⟩ := K0
  refine s_VI (pc := 11) mX8_one (ci := 8) (a := b0) (As := [.int l1, .int 10]) dX8_goodOf_11 lk_X8_67 in_X8_one mo_X8_one ⟨by decide, rfl⟩ ⟨by decide, by decide⟩ (Nat.le_of_ble_eq_true rfl) k_b0 (sp_X8_one k_b0 g_b0_3 k_b0_3 i_2 ?_)
  refine r_ior (pc := 14) dX8_goodOf_14 ?_
  refine s_SI (pc := 15) mX8_bits (As := [.int ((gi x b0_3 ((62 + (12 * l1)) + 8 : Int32).toNatClampNeg) ||| (gi x b0_3 ((62 + (12 * l1)) + 10 : Int32).toNatClampNeg))]) dX8_goodOf_15 lk_X8_296 st_X8_bits mo_X8_bits ⟨by decide, by decide⟩ (Nat.le_of_ble_eq_true rfl) (sp_X8_bits  ?_)
  exact s_iret rfl dX8_goodOf_18 K0
section
variable {K : Sh} {x : Cn} {Q : Int32 → Cn → Prop} {b t n : Nat}
theorem sp_X8_goodOf {l1 : Int32} (h1 : kk K b = some (8, 0)) (h2 : gr x b 3 = some t) (h3 : kk K t = some (20, n)) (h5 : vp_in ((62 + (12 * l1)) + 8) n) (h7 : vp_in ((62 + (12 * l1)) + 10) n) (k : Q (nI (cpt (gi x t ((62 + (12 * l1)) + 8 : Int32).toNatClampNeg ||| gi x t ((62 + (12 * l1)) + 10 : Int32).toNatClampNeg))) x) : mSI mX8_goodOf [.ref b, .int l1] K x Q := v_X8_goodOf_0 h1 h2 h3 ⟨h5, h7, k⟩
end
set_option maxHeartbeats 2000000 in
theorem v_X8_fromNow_0 {K : Sh} {x : Cn} {Q : Int32 → Cn → Prop} {b0 : Nat} {b0_3 : Nat} {n_b0_3 : Nat} (k_b0 : kk K b0 = some (8, 0)) (g_b0_3 : gr x b0 3 = some b0_3) (k_b0_3 : kk K b0_3 = some (20, n_b0_3)) (K0 : vp_in 4 n_b0_3 ∧ (vp_in 0 n_b0_3 ∧ (Q (f_span (gi x b0_3 4) ((gi x b0_3 0) - 1)) x))) : mSI mX8_fromNow [.ref b0] K x Q := by
  refine s_I (by decide) (by simp [Value.category]) (Nat.le_of_ble_eq_true rfl) ?_
  show mGM mX8_fromNow 0 [some (.ref b0)] [] (hp K x) (PI K Q)
  refine r_aload_n (pc := 0) dX8_fromNow_0 rfl ?_
  refine s_getR (pc := 1) dX8_fromNow_1 fl_X8_16 rfl k_b0 g_b0_3 ?_
  refine r_iconst (pc := 4) (v := 4) dX8_fromNow_4 (by decide) ?_
  obtain ⟨i_1, K0⟩ := K0
  refine s_iald (pc := 5) dX8_fromNow_5 k_b0_3 i_1 ?_
  refine r_aload_n (pc := 6) dX8_fromNow_6 rfl ?_
  refine s_getR (pc := 7) dX8_fromNow_7 fl_X8_16 rfl k_b0 g_b0_3 ?_
  refine r_iconst (pc := 10) (v := 0) dX8_fromNow_10 (by decide) ?_
  obtain ⟨i_2, K0⟩ := K0
  refine s_iald (pc := 11) dX8_fromNow_11 k_b0_3 i_2 ?_
  refine r_iconst (pc := 12) (v := 1) dX8_fromNow_12 (by decide) ?_
  refine r_isub (pc := 13) dX8_fromNow_13 ?_
  refine s_SI (pc := 14) mX8_span (As := [.int (gi x b0_3 4), .int ((gi x b0_3 0) - 1)]) dX8_fromNow_14 lk_X8_79 st_X8_span mo_X8_span ⟨by decide, by decide⟩ (Nat.le_of_ble_eq_true rfl) (sp_X8_span  ?_)
  exact s_iret rfl dX8_fromNow_17 K0
section
variable {K : Sh} {x : Cn} {Q : Int32 → Cn → Prop} {b t n : Nat}
theorem sp_X8_fromNow (h1 : kk K b = some (8, 0)) (h2 : gr x b 3 = some t) (h3 : kk K t = some (20, n)) (h4 : vp_in 4 n) (h5 : vp_in 0 n) (k : Q (f_span (gi x t 4) (gi x t 0 - 1)) x) : mSI mX8_fromNow [.ref b] K x Q := v_X8_fromNow_0 h1 h2 h3 ⟨h4, h5, k⟩
end
set_option maxHeartbeats 2000000 in
theorem v_X8_isNew_0 {K : Sh} {x : Cn} {Q : Int32 → Cn → Prop} {b0 : Nat} {l1 : Int32} {b0_3 : Nat} {n_b0_3 : Nat} (k_b0 : kk K b0 = some (8, 0)) (g_b0_3 : gr x b0 3 = some b0_3) (k_b0_3 : kk K b0_3 = some (20, n_b0_3)) (K0 : vp_in ((62 + (12 * l1)) + 4) n_b0_3 ∧ ((¬ (gi x b0_3 ((62 + (12 * l1)) + 4 : Int32).toNatClampNeg) = 1 → (Q 0 x)) ∧ ((gi x b0_3 ((62 + (12 * l1)) + 4 : Int32).toNatClampNeg) = 1 → (Q 1 x)))) : mSI mX8_isNew [.ref b0, .int l1] K x Q := by
  refine s_I (by decide) (by simp [Value.category]) (Nat.le_of_ble_eq_true rfl) ?_
  show mGM mX8_isNew 0 [some (.ref b0), some (.int l1)] [] (hp K x) (PI K Q)
  refine r_aload_n (pc := 0) dX8_isNew_0 rfl ?_
  refine r_iload_n (pc := 1) dX8_isNew_1 rfl ?_
  refine r_iconst (pc := 2) (v := 4) dX8_isNew_2 (by decide) ?_
  obtain ⟨i_1, K0⟩ := K0
  refine s_VI (pc := 3) mX8_one (ci := 8) (a := b0) (As := [.int l1, .int 4]) dX8_isNew_3 lk_X8_67 in_X8_one mo_X8_one ⟨by decide, rfl⟩ ⟨by decide, by decide⟩ (Nat.le_of_ble_eq_true rfl) k_b0 (sp_X8_one k_b0 g_b0_3 k_b0_3 i_1 ?_)
  refine r_iconst (pc := 6) (v := 1) dX8_isNew_6 (by decide) ?_
  refine r_icmp_ne (pc := 7) (tgt := 14) dX8_isNew_7 (by decide) (fun q => ?_) (fun q => ?_)
  · have K0 := K0.1 q
    refine r_iconst (pc := 14) (v := 0) dX8_isNew_14 (by decide) ?_
    exact s_zret rfl (by decide) dX8_isNew_15 K0
  · have K0 := K0.2 q
    refine r_iconst (pc := 10) (v := 1) dX8_isNew_10 (by decide) ?_
    refine r_goto (pc := 11) (tgt := 15) dX8_isNew_11 (by decide) ?_
    exact s_zret rfl (by decide) dX8_isNew_15 K0
section
variable {K : Sh} {x : Cn} {Q : Int32 → Cn → Prop} {b t n : Nat}
theorem sp_X8_isNew {l1 : Int32} (h1 : kk K b = some (8, 0)) (h2 : gr x b 3 = some t) (h3 : kk K t = some (20, n)) (h4 : vp_in ((62 + (12 * l1)) + 4) n) (k : Q (b2i (gi x t ((62 + (12 * l1)) + 4 : Int32).toNatClampNeg = 1)) x) : mSI mX8_isNew [.ref b, .int l1] K x Q := v_X8_isNew_0 h1 h2 h3 ⟨h4, (b2i_k k).2, (b2i_k k).1⟩
end
set_option maxHeartbeats 2000000 in
theorem v_X8_weeksOf_0 {K : Sh} {x : Cn} {Q : Int32 → Cn → Prop} {b0 : Nat} {l1 : Int32} {b0_3 : Nat} {n_b0_3 : Nat} (k_b0 : kk K b0 = some (8, 0)) (g_b0_3 : gr x b0 3 = some b0_3) (k_b0_3 : kk K b0_3 = some (20, n_b0_3)) (K0 : vp_in ((350 + (7 * l1)) + 4) n_b0_3 ∧ (vp_in ((350 + (7 * l1)) + 5) n_b0_3 ∧ (vp_in 4 n_b0_3 ∧ (vp_in 0 n_b0_3 ∧ (Q ((f_span (gi x b0_3 ((350 + (7 * l1)) + 4 : Int32).toNatClampNeg) (gi x b0_3 ((350 + (7 * l1)) + 5 : Int32).toNatClampNeg)) &&& (f_span (gi x b0_3 4) (gi x b0_3 0 - 1))) x))))) : mSI mX8_weeksOf [.ref b0, .int l1] K x Q := by
  refine s_I (by decide) (by simp [Value.category]) (Nat.le_of_ble_eq_true rfl) ?_
  show mGM mX8_weeksOf 0 [some (.ref b0), some (.int l1)] [] (hp K x) (PI K Q)
  refine r_aload_n (pc := 0) dX8_weeksOf_0 rfl ?_
  refine r_iload_n (pc := 1) dX8_weeksOf_1 rfl ?_
  refine r_iconst (pc := 2) (v := 4) dX8_weeksOf_2 (by decide) ?_
  obtain ⟨i_1, K0⟩ := K0
  refine s_VI (pc := 3) mX8_ask0 (ci := 8) (a := b0) (As := [.int l1, .int 4]) dX8_weeksOf_3 lk_X8_284 in_X8_ask0 mo_X8_ask0 ⟨by decide, rfl⟩ ⟨by decide, by decide⟩ (Nat.le_of_ble_eq_true rfl) k_b0 (sp_X8_ask0 k_b0 g_b0_3 k_b0_3 i_1 ?_)
  refine r_aload_n (pc := 6) dX8_weeksOf_6 rfl ?_
  refine r_iload_n (pc := 7) dX8_weeksOf_7 rfl ?_
  refine r_iconst (pc := 8) (v := 5) dX8_weeksOf_8 (by decide) ?_
  obtain ⟨i_2, K0⟩ := K0
  refine s_VI (pc := 9) mX8_ask0 (ci := 8) (a := b0) (As := [.int l1, .int 5]) dX8_weeksOf_9 lk_X8_284 in_X8_ask0 mo_X8_ask0 ⟨by decide, rfl⟩ ⟨by decide, by decide⟩ (Nat.le_of_ble_eq_true rfl) k_b0 (sp_X8_ask0 k_b0 g_b0_3 k_b0_3 i_2 ?_)
  refine s_SI (pc := 12) mX8_span (As := [.int (gi x b0_3 ((350 + (7 * l1)) + 4 : Int32).toNatClampNeg), .int (gi x b0_3 ((350 + (7 * l1)) + 5 : Int32).toNatClampNeg)]) dX8_weeksOf_12 lk_X8_79 st_X8_span mo_X8_span ⟨by decide, by decide⟩ (Nat.le_of_ble_eq_true rfl) (sp_X8_span  ?_)
  refine r_aload_n (pc := 15) dX8_weeksOf_15 rfl ?_
  obtain ⟨i_3, K0⟩ := K0
  obtain ⟨i_4, K0⟩ := K0
  refine s_VI (pc := 16) mX8_fromNow (ci := 8) (a := b0) (As := []) dX8_weeksOf_16 lk_X8_82 in_X8_fromNow mo_X8_fromNow ⟨by decide, rfl⟩ ⟨by decide, by decide⟩ (Nat.le_of_ble_eq_true rfl) k_b0 (sp_X8_fromNow k_b0 g_b0_3 k_b0_3 i_3 i_4 ?_)
  refine r_iand (pc := 19) dX8_weeksOf_19 ?_
  exact s_iret rfl dX8_weeksOf_20 K0
section
variable {K : Sh} {x : Cn} {Q : Int32 → Cn → Prop} {b t n : Nat}
theorem sp_X8_weeksOf {l1 : Int32} (h1 : kk K b = some (8, 0)) (h2 : gr x b 3 = some t) (h3 : kk K t = some (20, n)) (h4 : vp_in ((350 + (7 * l1)) + 4) n) (h5 : vp_in ((350 + (7 * l1)) + 5) n) (h6 : vp_in 4 n) (h7 : vp_in 0 n) (k : Q (f_span (gi x t ((350 + (7 * l1)) + 4 : Int32).toNatClampNeg) (gi x t ((350 + (7 * l1)) + 5 : Int32).toNatClampNeg) &&& f_span (gi x t 4) (gi x t 0 - 1)) x) : mSI mX8_weeksOf [.ref b, .int l1] K x Q := v_X8_weeksOf_0 h1 h2 h3 ⟨h4, h5, h6, h7, k⟩
end
set_option maxHeartbeats 2000000 in
theorem v_X5_holds_0 {K : Sh} {x : Cn} {Q : Int32 → Cn → Prop} {b0 : Nat} {l1 : Int32}  (k_b0 : kk K b0 = some (5, 0)) (K0 : Q (b2i (f_bit (f_held x b0) l1)) x) : mSI mX5_holds [.ref b0, .int l1] K x Q := by
  refine s_I (by decide) (by simp [Value.category]) (Nat.le_of_ble_eq_true rfl) ?_
  show mGM mX5_holds 0 [some (.ref b0), some (.int l1)] [] (hp K x) (PI K Q)
  refine r_aload_n (pc := 0) dX5_holds_0 rfl ?_
  refine s_VI (pc := 1) mX5_heldBits (ci := 5) (a := b0) (As := []) dX5_holds_1 lk_X5_69 in_X5_heldBits mo_X5_heldBits ⟨by decide, rfl⟩ ⟨by decide, by decide⟩ (Nat.le_of_ble_eq_true rfl) k_b0 (sp_X5_heldBits k_b0 ?_)
  refine r_iload_n (pc := 4) dX5_holds_4 rfl ?_
  refine s_SNI (pc := 5) mX7_hasBit (As := [.int (f_held x b0), .int l1]) dX5_holds_5 nl_X5_65 st_X7_hasBit mo_X7_hasBit ⟨by decide, by decide⟩ (Nat.le_of_ble_eq_true rfl) (sp_X7_hasBit  ?_)
  exact s_zret rfl (b2i_01 _) dX5_holds_8 K0
section
variable {K : Sh} {x : Cn} {Q : Int32 → Cn → Prop} {b t n : Nat}
theorem sp_X5_holds {l1 : Int32} (h1 : kk K b = some (5, 0)) (k : Q (b2i (f_bit (f_held x b) l1)) x) : mSI mX5_holds [.ref b, .int l1] K x Q := v_X5_holds_0 h1 k
end
set_option maxHeartbeats 2000000 in
theorem v_X5_fills_0 {K : Sh} {x : Cn} {Q : Int32 → Cn → Prop} {b0 : Nat} {l1 : Int32} {l2 : Int32} {l3 : Int32}  (k_b0 : kk K b0 = some (5, 0)) (K0 : (¬ (gi x b0 1) = l2 → (Q 0 x)) ∧ ((gi x b0 1) = l2 → ((¬ (gi x b0 2) = l3 → (Q 0 x)) ∧ ((gi x b0 2) = l3 → ((¬ (f_bit (f_held x b0) l1) → (Q 0 x)) ∧ ((f_bit (f_held x b0) l1) → (Q 1 x))))))) : mSI mX5_fills [.ref b0, .int l1, .int l2, .int l3] K x Q := by
  refine s_I (by decide) (by simp [Value.category]) (Nat.le_of_ble_eq_true rfl) ?_
  show mGM mX5_fills 0 [some (.ref b0), some (.int l1), some (.int l2), some (.int l3)] [] (hp K x) (PI K Q)
  refine r_aload_n (pc := 0) dX5_fills_0 rfl ?_
  refine s_getI (pc := 1) dX5_fills_1 fl_X5_15 rfl k_b0 ?_
  refine r_iload_n (pc := 4) dX5_fills_4 rfl ?_
  refine r_icmp_ne (pc := 5) (tgt := 28) dX5_fills_5 (by decide) (fun q => ?_) (fun q => ?_)
  · have K0 := K0.1 q
    refine r_iconst (pc := 28) (v := 0) dX5_fills_28 (by decide) ?_
    exact s_zret rfl (by decide) dX5_fills_29 K0
  · have K0 := K0.2 q
    refine r_aload_n (pc := 8) dX5_fills_8 rfl ?_
    refine s_getI (pc := 9) dX5_fills_9 fl_X5_18 rfl k_b0 ?_
    refine r_iload_n (pc := 12) dX5_fills_12 rfl ?_
    refine r_icmp_ne (pc := 13) (tgt := 28) dX5_fills_13 (by decide) (fun q => ?_) (fun q => ?_)
    · have K0 := K0.1 q
      refine r_iconst (pc := 28) (v := 0) dX5_fills_28 (by decide) ?_
      exact s_zret rfl (by decide) dX5_fills_29 K0
    · have K0 := K0.2 q
      refine r_aload_n (pc := 16) dX5_fills_16 rfl ?_
      refine r_iload_n (pc := 17) dX5_fills_17 rfl ?_
      refine s_VI (pc := 18) mX5_holds (ci := 5) (a := b0) (As := [.int l1]) dX5_fills_18 lk_X5_72 in_X5_holds mo_X5_holds ⟨by decide, rfl⟩ ⟨by decide, by decide⟩ (Nat.le_of_ble_eq_true rfl) k_b0 (sp_X5_holds k_b0 ?_)
      refine r_if_eq (pc := 21) (tgt := 28) dX5_fills_21 (by decide) (fun q => ?_) (fun q => ?_)
      · have q := (b2i_z _).mp q
        have K0 := K0.1 q
        refine r_iconst (pc := 28) (v := 0) dX5_fills_28 (by decide) ?_
        exact s_zret rfl (by decide) dX5_fills_29 K0
      · have q := b2i_nz q
        have K0 := K0.2 q
        refine r_iconst (pc := 24) (v := 1) dX5_fills_24 (by decide) ?_
        refine r_goto (pc := 25) (tgt := 29) dX5_fills_25 (by decide) ?_
        exact s_zret rfl (by decide) dX5_fills_29 K0
section
variable {K : Sh} {x : Cn} {Q : Int32 → Cn → Prop} {b t n : Nat}
theorem sp_X5_fills {l1 l2 l3 : Int32} (h1 : kk K b = some (5, 0)) (k : Q (b2i (gi x b 1 = l2 ∧ gi x b 2 = l3 ∧ f_bit (f_held x b) l1)) x) : mSI mX5_fills [.ref b, .int l1, .int l2, .int l3] K x Q :=
  v_X5_fills_0 h1 ⟨fun h => (b2i_k k).2 (fun z => h z.1), fun h => ⟨fun g => (b2i_k k).2 (fun z => g z.2.1), fun g => ⟨fun f => (b2i_k k).2 (fun z => f z.2.2), fun f => (b2i_k k).1 ⟨h, g, f⟩⟩⟩⟩
end
set_option maxHeartbeats 2000000 in
theorem v_X5_basis_0 {K : Sh} {x : Cn} {Q : Int32 → Cn → Prop} {b0 : Nat}  (k_b0 : kk K b0 = some (5, 0)) (K0 : Q (nI (cpt (f_held x b0))) x) : mSI mX5_basis [.ref b0] K x Q := by
  refine s_I (by decide) (by simp [Value.category]) (Nat.le_of_ble_eq_true rfl) ?_
  show mGM mX5_basis 0 [some (.ref b0)] [] (hp K x) (PI K Q)
  refine r_aload_n (pc := 0) dX5_basis_0 rfl ?_
  refine s_VI (pc := 1) mX5_heldBits (ci := 5) (a := b0) (As := []) dX5_basis_1 lk_X5_69 in_X5_heldBits mo_X5_heldBits ⟨by decide, rfl⟩ ⟨by decide, by decide⟩ (Nat.le_of_ble_eq_true rfl) k_b0 (sp_X5_heldBits k_b0 ?_)
  refine s_SI (pc := 4) mJ6_bitCount_0f7a4 (As := [.int (f_held x b0)]) dX5_basis_4 lk_X5_76 st_J6_bitCount_0f7a4 mo_J6_bitCount_0f7a4 ⟨by decide, by decide⟩ (Nat.le_of_ble_eq_true rfl) (sp_bc  ?_)
  exact s_iret rfl dX5_basis_7 K0
section
variable {K : Sh} {x : Cn} {Q : Int32 → Cn → Prop} {b t n : Nat}
theorem sp_X5_basis (h1 : kk K b = some (5, 0)) (k : Q (nI (cpt (f_held x b))) x) : mSI mX5_basis [.ref b] K x Q := v_X5_basis_0 h1 k
end
set_option maxHeartbeats 2000000 in
theorem v_X5_good_0 {K : Sh} {x : Cn} {Q : Int32 → Cn → Prop} {b0 : Nat}  (k_b0 : kk K b0 = some (5, 0)) (K0 : Q (nI (cpt ((gi x b0 8) ||| (gi x b0 10)))) x) : mSI mX5_good [.ref b0] K x Q := by
  refine s_I (by decide) (by simp [Value.category]) (Nat.le_of_ble_eq_true rfl) ?_
  show mGM mX5_good 0 [some (.ref b0)] [] (hp K x) (PI K Q)
  refine r_aload_n (pc := 0) dX5_good_0 rfl ?_
  refine s_getI (pc := 1) dX5_good_1 fl_X5_37 rfl k_b0 ?_
  refine r_aload_n (pc := 4) dX5_good_4 rfl ?_
  refine s_getI (pc := 5) dX5_good_5 fl_X5_43 rfl k_b0 ?_
  refine r_ior (pc := 8) dX5_good_8 ?_
  refine s_SI (pc := 9) mJ6_bitCount_0f7a4 (As := [.int ((gi x b0 8) ||| (gi x b0 10))]) dX5_good_9 lk_X5_76 st_J6_bitCount_0f7a4 mo_J6_bitCount_0f7a4 ⟨by decide, by decide⟩ (Nat.le_of_ble_eq_true rfl) (sp_bc  ?_)
  exact s_iret rfl dX5_good_12 K0
section
variable {K : Sh} {x : Cn} {Q : Int32 → Cn → Prop} {b t n : Nat}
theorem sp_X5_good (h1 : kk K b = some (5, 0)) (k : Q (nI (cpt (gi x b 8 ||| gi x b 10))) x) : mSI mX5_good [.ref b] K x Q := v_X5_good_0 h1 k
end
set_option maxHeartbeats 2000000 in
theorem v_X5_isKeptWith_0 {K : Sh} {x : Cn} {Q : Int32 → Cn → Prop} {b0 : Nat} {l1 : Int32}  (k_b0 : kk K b0 = some (5, 0)) (K0 : ((nI (cpt (f_held x b0))) ≤ 0 → (Q 0 x)) ∧ (¬ (nI (cpt (f_held x b0))) ≤ 0 → (((5 * l1) < (4 * (nI (cpt (f_held x b0)))) → (Q 0 x)) ∧ (¬ (5 * l1) < (4 * (nI (cpt (f_held x b0)))) → (Q 1 x))))) : mSI mX5_isKeptWith [.ref b0, .int l1] K x Q := by
  refine s_I (by decide) (by simp [Value.category]) (Nat.le_of_ble_eq_true rfl) ?_
  show mGM mX5_isKeptWith 0 [some (.ref b0), some (.int l1), none] [] (hp K x) (PI K Q)
  refine r_aload_n (pc := 0) dX5_isKeptWith_0 rfl ?_
  refine s_VI (pc := 1) mX5_basis (ci := 5) (a := b0) (As := []) dX5_isKeptWith_1 lk_X5_81 in_X5_basis mo_X5_basis ⟨by decide, rfl⟩ ⟨by decide, by decide⟩ (Nat.le_of_ble_eq_true rfl) k_b0 (sp_X5_basis k_b0 ?_)
  refine r_istore_n (pc := 4) dX5_isKeptWith_4 (by decide) ?_
  refine r_iload_n (pc := 5) (L := [some (.ref b0), some (.int l1), some (.int (nI (cpt (f_held x b0))))]) dX5_isKeptWith_5 rfl ?_
  refine r_if_le (pc := 6) (tgt := 22) dX5_isKeptWith_6 (by decide) (fun q => ?_) (fun q => ?_)
  · have K0 := K0.1 q
    refine r_iconst (pc := 22) (v := 0) dX5_isKeptWith_22 (by decide) ?_
    exact s_zret rfl (by decide) dX5_isKeptWith_23 K0
  · have K0 := K0.2 q
    refine r_iconst (pc := 9) (v := 5) dX5_isKeptWith_9 (by decide) ?_
    refine r_iload_n (pc := 10) dX5_isKeptWith_10 rfl ?_
    refine r_imul (pc := 11) dX5_isKeptWith_11 ?_
    refine r_iconst (pc := 12) (v := 4) dX5_isKeptWith_12 (by decide) ?_
    refine r_iload_n (pc := 13) dX5_isKeptWith_13 rfl ?_
    refine r_imul (pc := 14) dX5_isKeptWith_14 ?_
    refine r_icmp_lt (pc := 15) (tgt := 22) dX5_isKeptWith_15 (by decide) (fun q => ?_) (fun q => ?_)
    · have K0 := K0.1 q
      refine r_iconst (pc := 22) (v := 0) dX5_isKeptWith_22 (by decide) ?_
      exact s_zret rfl (by decide) dX5_isKeptWith_23 K0
    · have K0 := K0.2 q
      refine r_iconst (pc := 18) (v := 1) dX5_isKeptWith_18 (by decide) ?_
      refine r_goto (pc := 19) (tgt := 23) dX5_isKeptWith_19 (by decide) ?_
      exact s_zret rfl (by decide) dX5_isKeptWith_23 K0
section
variable {K : Sh} {x : Cn} {Q : Int32 → Cn → Prop} {b t n : Nat}
theorem sp_X5_isKeptWith {l1 : Int32} (h1 : kk K b = some (5, 0)) (k : Q (b2i (f_kw (nI (cpt (f_held x b))) l1)) x) : mSI mX5_isKeptWith [.ref b, .int l1] K x Q :=
  v_X5_isKeptWith_0 h1 ⟨fun h => (b2i_k k).2 (fun z => Int32.not_le.mpr z.1 h), fun h => ⟨fun g => (b2i_k k).2 (fun z => Int32.not_lt.mpr z.2 g), fun g => (b2i_k k).1 ⟨Int32.not_le.mp h, Int32.not_lt.mp g⟩⟩⟩
end
set_option maxHeartbeats 2000000 in
theorem v_X5_isSafe_0 {K : Sh} {x : Cn} {Q : Int32 → Cn → Prop} {b0 : Nat}  (k_b0 : kk K b0 = some (5, 0)) (K0 : Q (b2i (f_kw (nI (cpt (f_held x b0))) (nI (cpt (gi x b0 8 ||| gi x b0 10))))) x) : mSI mX5_isSafe [.ref b0] K x Q := by
  refine s_I (by decide) (by simp [Value.category]) (Nat.le_of_ble_eq_true rfl) ?_
  show mGM mX5_isSafe 0 [some (.ref b0)] [] (hp K x) (PI K Q)
  refine r_aload_n (pc := 0) dX5_isSafe_0 rfl ?_
  refine r_aload_n (pc := 1) dX5_isSafe_1 rfl ?_
  refine s_VI (pc := 2) mX5_good (ci := 5) (a := b0) (As := []) dX5_isSafe_2 lk_X5_84 in_X5_good mo_X5_good ⟨by decide, rfl⟩ ⟨by decide, by decide⟩ (Nat.le_of_ble_eq_true rfl) k_b0 (sp_X5_good k_b0 ?_)
  refine s_VI (pc := 5) mX5_isKeptWith (ci := 5) (a := b0) (As := [.int (nI (cpt (gi x b0 8 ||| gi x b0 10)))]) dX5_isSafe_5 lk_X5_87 in_X5_isKeptWith mo_X5_isKeptWith ⟨by decide, rfl⟩ ⟨by decide, by decide⟩ (Nat.le_of_ble_eq_true rfl) k_b0 (sp_X5_isKeptWith k_b0 ?_)
  exact s_zret rfl (b2i_01 _) dX5_isSafe_8 K0
section
variable {K : Sh} {x : Cn} {Q : Int32 → Cn → Prop} {b t n : Nat}
theorem sp_X5_isSafe (h1 : kk K b = some (5, 0)) (k : Q (b2i (f_safe x b)) x) : mSI mX5_isSafe [.ref b] K x Q := v_X5_isSafe_0 h1 k
end
set_option maxHeartbeats 2000000 in
theorem v_X5_isLost_0 {K : Sh} {x : Cn} {Q : Int32 → Cn → Prop} {b0 : Nat}  (k_b0 : kk K b0 = some (5, 0)) (K0 : ((f_kw (nI (cpt (f_held x b0))) ((nI (cpt (gi x b0 8 ||| gi x b0 10))) + (nI (cpt (f_open x b0))))) → (Q 0 x)) ∧ (¬ (f_kw (nI (cpt (f_held x b0))) ((nI (cpt (gi x b0 8 ||| gi x b0 10))) + (nI (cpt (f_open x b0))))) → (Q 1 x))) : mSI mX5_isLost [.ref b0] K x Q := by
  refine s_I (by decide) (by simp [Value.category]) (Nat.le_of_ble_eq_true rfl) ?_
  show mGM mX5_isLost 0 [some (.ref b0)] [] (hp K x) (PI K Q)
  refine r_aload_n (pc := 0) dX5_isLost_0 rfl ?_
  refine r_aload_n (pc := 1) dX5_isLost_1 rfl ?_
  refine s_VI (pc := 2) mX5_good (ci := 5) (a := b0) (As := []) dX5_isLost_2 lk_X5_84 in_X5_good mo_X5_good ⟨by decide, rfl⟩ ⟨by decide, by decide⟩ (Nat.le_of_ble_eq_true rfl) k_b0 (sp_X5_good k_b0 ?_)
  refine r_aload_n (pc := 5) dX5_isLost_5 rfl ?_
  refine s_VI (pc := 6) mX5_openBits (ci := 5) (a := b0) (As := []) dX5_isLost_6 lk_X5_57 in_X5_openBits mo_X5_openBits ⟨by decide, rfl⟩ ⟨by decide, by decide⟩ (Nat.le_of_ble_eq_true rfl) k_b0 (sp_X5_openBits k_b0 ?_)
  refine s_SI (pc := 9) mJ6_bitCount_0f7a4 (As := [.int (f_open x b0)]) dX5_isLost_9 lk_X5_76 st_J6_bitCount_0f7a4 mo_J6_bitCount_0f7a4 ⟨by decide, by decide⟩ (Nat.le_of_ble_eq_true rfl) (sp_bc  ?_)
  refine r_iadd (pc := 12) dX5_isLost_12 ?_
  refine s_VI (pc := 13) mX5_isKeptWith (ci := 5) (a := b0) (As := [.int ((nI (cpt (gi x b0 8 ||| gi x b0 10))) + (nI (cpt (f_open x b0))))]) dX5_isLost_13 lk_X5_87 in_X5_isKeptWith mo_X5_isKeptWith ⟨by decide, rfl⟩ ⟨by decide, by decide⟩ (Nat.le_of_ble_eq_true rfl) k_b0 (sp_X5_isKeptWith k_b0 ?_)
  refine r_if_ne (pc := 16) (tgt := 23) dX5_isLost_16 (by decide) (fun q => ?_) (fun q => ?_)
  · have q := b2i_nz q
    have K0 := K0.1 q
    refine r_iconst (pc := 23) (v := 0) dX5_isLost_23 (by decide) ?_
    exact s_zret rfl (by decide) dX5_isLost_24 K0
  · have q := (b2i_z _).mp q
    have K0 := K0.2 q
    refine r_iconst (pc := 19) (v := 1) dX5_isLost_19 (by decide) ?_
    refine r_goto (pc := 20) (tgt := 24) dX5_isLost_20 (by decide) ?_
    exact s_zret rfl (by decide) dX5_isLost_24 K0
section
variable {K : Sh} {x : Cn} {Q : Int32 → Cn → Prop} {b t n : Nat}
theorem sp_X5_isLost (h1 : kk K b = some (5, 0)) (k : Q (b2i (f_lost x b)) x) : mSI mX5_isLost [.ref b] K x Q := v_X5_isLost_0 h1 ⟨fun h => (b2i_k k).2 (fun z => z h), fun h => (b2i_k k).1 h⟩
end
set_option maxHeartbeats 2000000 in
theorem v_X4_weeksToCome_0 {K : Sh} {x : Cn} {Q : Int32 → Cn → Prop} {b0 : Nat}  (k_b0 : kk K b0 = some (4, 0)) (K0 : (¬ (gi x b0 0 ≤ gi x b0 1) → (Q (f_sb (gi x b0 1) ((gi x b0 0) - 1)) x)) ∧ ((gi x b0 0 ≤ gi x b0 1) → (Q 0 x))) : mSI mX4_weeksToCome [.ref b0] K x Q := by
  refine s_I (by decide) (by simp [Value.category]) (Nat.le_of_ble_eq_true rfl) ?_
  show mGM mX4_weeksToCome 0 [some (.ref b0)] [] (hp K x) (PI K Q)
  refine r_aload_n (pc := 0) dX4_weeksToCome_0 rfl ?_
  refine s_VI (pc := 1) mX4_isOver (ci := 4) (a := b0) (As := []) dX4_weeksToCome_1 lk_X4_64 in_X4_isOver mo_X4_isOver ⟨by decide, rfl⟩ ⟨by decide, by decide⟩ (Nat.le_of_ble_eq_true rfl) k_b0 (sp_X4_isOver k_b0 ?_)
  refine r_if_eq (pc := 4) (tgt := 11) dX4_weeksToCome_4 (by decide) (fun q => ?_) (fun q => ?_)
  · have q := (b2i_z _).mp q
    have K0 := K0.1 q
    refine r_aload_n (pc := 11) dX4_weeksToCome_11 rfl ?_
    refine s_getI (pc := 12) dX4_weeksToCome_12 fl_X4_15 rfl k_b0 ?_
    refine r_aload_n (pc := 15) dX4_weeksToCome_15 rfl ?_
    refine s_getI (pc := 16) dX4_weeksToCome_16 fl_X4_9 rfl k_b0 ?_
    refine r_iconst (pc := 19) (v := 1) dX4_weeksToCome_19 (by decide) ?_
    refine r_isub (pc := 20) dX4_weeksToCome_20 ?_
    refine s_SNI (pc := 21) mX7_spanBits (As := [.int (gi x b0 1), .int ((gi x b0 0) - 1)]) dX4_weeksToCome_21 nl_X4_68 st_X7_spanBits mo_X7_spanBits ⟨by decide, by decide⟩ (Nat.le_of_ble_eq_true rfl) (sp_X7_spanBits  ?_)
    exact s_iret rfl dX4_weeksToCome_24 K0
  · have q := b2i_nz q
    have K0 := K0.2 q
    refine r_iconst (pc := 7) (v := 0) dX4_weeksToCome_7 (by decide) ?_
    refine r_goto (pc := 8) (tgt := 24) dX4_weeksToCome_8 (by decide) ?_
    exact s_iret rfl dX4_weeksToCome_24 K0
section
variable {K : Sh} {x : Cn} {Q : Int32 → Cn → Prop} {b t n : Nat}
theorem sp_X4_weeksToCome (h1 : kk K b = some (4, 0)) (k : Q (f_wtc (gi x b 1) (gi x b 0)) x) : mSI mX4_weeksToCome [.ref b] K x Q :=
  v_X4_weeksToCome_0 h1 ⟨fun h => by unfold f_wtc at k; rwa [if_neg h] at k, fun h => by unfold f_wtc at k; rwa [if_pos h] at k⟩
end
set_option maxHeartbeats 2000000 in
theorem v_X7_isDay_0 {K : Sh} {x : Cn} {Q : Int32 → Cn → Prop} {b0 : Nat} {l1 : Int32} {b0_2 : Nat} (k_b0 : kk K b0 = some (7, 0)) (g_b0_2 : gr x b0 2 = some b0_2) (k_b0_2 : kk K b0_2 = some (4, 0)) (K0 : (¬ (0 < gi x b0_2 0) → (Q 0 x)) ∧ ((0 < gi x b0_2 0) → ((l1 < 0 → (Q 0 x)) ∧ (¬ l1 < 0 → ((7 ≤ l1 → (Q 0 x)) ∧ (¬ 7 ≤ l1 → (Q 1 x))))))) : mSI mX7_isDay [.ref b0, .int l1] K x Q := by
  refine s_I (by decide) (by simp [Value.category]) (Nat.le_of_ble_eq_true rfl) ?_
  show mGM mX7_isDay 0 [some (.ref b0), some (.int l1)] [] (hp K x) (PI K Q)
  refine r_aload_n (pc := 0) dX7_isDay_0 rfl ?_
  refine s_VI (pc := 1) mX7_hasText (ci := 7) (a := b0) (As := []) dX7_isDay_1 lk_X7_121 in_X7_hasText mo_X7_hasText ⟨by decide, rfl⟩ ⟨by decide, by decide⟩ (Nat.le_of_ble_eq_true rfl) k_b0 (sp_X7_hasText k_b0 g_b0_2 k_b0_2 ?_)
  refine r_if_eq (pc := 4) (tgt := 21) dX7_isDay_4 (by decide) (fun q => ?_) (fun q => ?_)
  · have q := (b2i_z _).mp q
    have K0 := K0.1 q
    refine r_iconst (pc := 21) (v := 0) dX7_isDay_21 (by decide) ?_
    exact s_zret rfl (by decide) dX7_isDay_22 K0
  · have q := b2i_nz q
    have K0 := K0.2 q
    refine r_iload_n (pc := 7) dX7_isDay_7 rfl ?_
    refine r_if_lt (pc := 8) (tgt := 21) dX7_isDay_8 (by decide) (fun q => ?_) (fun q => ?_)
    · have K0 := K0.1 q
      refine r_iconst (pc := 21) (v := 0) dX7_isDay_21 (by decide) ?_
      exact s_zret rfl (by decide) dX7_isDay_22 K0
    · have K0 := K0.2 q
      refine r_iload_n (pc := 11) dX7_isDay_11 rfl ?_
      refine r_bipush (pc := 12) (v := 7) dX7_isDay_12 (by decide) ?_
      refine r_icmp_ge (pc := 14) (tgt := 21) dX7_isDay_14 (by decide) (fun q => ?_) (fun q => ?_)
      · have K0 := K0.1 q
        refine r_iconst (pc := 21) (v := 0) dX7_isDay_21 (by decide) ?_
        exact s_zret rfl (by decide) dX7_isDay_22 K0
      · have K0 := K0.2 q
        refine r_iconst (pc := 17) (v := 1) dX7_isDay_17 (by decide) ?_
        refine r_goto (pc := 18) (tgt := 22) dX7_isDay_18 (by decide) ?_
        exact s_zret rfl (by decide) dX7_isDay_22 K0
section
variable {K : Sh} {x : Cn} {Q : Int32 → Cn → Prop} {b t n : Nat}
theorem sp_X7_isDay {l1 : Int32} (h1 : kk K b = some (7, 0)) (h2 : gr x b 2 = some t) (h3 : kk K t = some (4, 0)) (k : Q (b2i (0 < gi x t 0 ∧ 0 ≤ l1 ∧ l1 < 7)) x) : mSI mX7_isDay [.ref b, .int l1] K x Q :=
  v_X7_isDay_0 h1 h2 h3 ⟨fun h => (b2i_k k).2 (fun z => h z.1), fun h => ⟨fun g => (b2i_k k).2 (fun z => Int32.not_le.mpr g z.2.1), fun g => ⟨fun f => (b2i_k k).2 (fun z => Int32.not_lt.mpr f z.2.2), fun f => (b2i_k k).1 ⟨h, Int32.not_lt.mp g, Int32.not_le.mp f⟩⟩⟩⟩
end
set_option maxHeartbeats 2000000 in
theorem v_X7_isHour_0 {K : Sh} {x : Cn} {Q : Int32 → Cn → Prop} {b0 : Nat} {l1 : Int32} {b0_2 : Nat} (k_b0 : kk K b0 = some (7, 0)) (g_b0_2 : gr x b0 2 = some b0_2) (k_b0_2 : kk K b0_2 = some (4, 0)) (K0 : (¬ (0 < gi x b0_2 0) → (Q 0 x)) ∧ ((0 < gi x b0_2 0) → ((l1 < 0 → (Q 0 x)) ∧ (¬ l1 < 0 → ((24 ≤ l1 → (Q 0 x)) ∧ (¬ 24 ≤ l1 → (Q 1 x))))))) : mSI mX7_isHour [.ref b0, .int l1] K x Q := by
  refine s_I (by decide) (by simp [Value.category]) (Nat.le_of_ble_eq_true rfl) ?_
  show mGM mX7_isHour 0 [some (.ref b0), some (.int l1)] [] (hp K x) (PI K Q)
  refine r_aload_n (pc := 0) dX7_isHour_0 rfl ?_
  refine s_VI (pc := 1) mX7_hasText (ci := 7) (a := b0) (As := []) dX7_isHour_1 lk_X7_121 in_X7_hasText mo_X7_hasText ⟨by decide, rfl⟩ ⟨by decide, by decide⟩ (Nat.le_of_ble_eq_true rfl) k_b0 (sp_X7_hasText k_b0 g_b0_2 k_b0_2 ?_)
  refine r_if_eq (pc := 4) (tgt := 21) dX7_isHour_4 (by decide) (fun q => ?_) (fun q => ?_)
  · have q := (b2i_z _).mp q
    have K0 := K0.1 q
    refine r_iconst (pc := 21) (v := 0) dX7_isHour_21 (by decide) ?_
    exact s_zret rfl (by decide) dX7_isHour_22 K0
  · have q := b2i_nz q
    have K0 := K0.2 q
    refine r_iload_n (pc := 7) dX7_isHour_7 rfl ?_
    refine r_if_lt (pc := 8) (tgt := 21) dX7_isHour_8 (by decide) (fun q => ?_) (fun q => ?_)
    · have K0 := K0.1 q
      refine r_iconst (pc := 21) (v := 0) dX7_isHour_21 (by decide) ?_
      exact s_zret rfl (by decide) dX7_isHour_22 K0
    · have K0 := K0.2 q
      refine r_iload_n (pc := 11) dX7_isHour_11 rfl ?_
      refine r_bipush (pc := 12) (v := 24) dX7_isHour_12 (by decide) ?_
      refine r_icmp_ge (pc := 14) (tgt := 21) dX7_isHour_14 (by decide) (fun q => ?_) (fun q => ?_)
      · have K0 := K0.1 q
        refine r_iconst (pc := 21) (v := 0) dX7_isHour_21 (by decide) ?_
        exact s_zret rfl (by decide) dX7_isHour_22 K0
      · have K0 := K0.2 q
        refine r_iconst (pc := 17) (v := 1) dX7_isHour_17 (by decide) ?_
        refine r_goto (pc := 18) (tgt := 22) dX7_isHour_18 (by decide) ?_
        exact s_zret rfl (by decide) dX7_isHour_22 K0
section
variable {K : Sh} {x : Cn} {Q : Int32 → Cn → Prop} {b t n : Nat}
theorem sp_X7_isHour {l1 : Int32} (h1 : kk K b = some (7, 0)) (h2 : gr x b 2 = some t) (h3 : kk K t = some (4, 0)) (k : Q (b2i (0 < gi x t 0 ∧ 0 ≤ l1 ∧ l1 < 24)) x) : mSI mX7_isHour [.ref b, .int l1] K x Q :=
  v_X7_isHour_0 h1 h2 h3 ⟨fun h => (b2i_k k).2 (fun z => h z.1), fun h => ⟨fun g => (b2i_k k).2 (fun z => Int32.not_le.mpr g z.2.1), fun g => ⟨fun f => (b2i_k k).2 (fun z => Int32.not_lt.mpr f z.2.2), fun f => (b2i_k k).1 ⟨h, Int32.not_lt.mp g, Int32.not_le.mp f⟩⟩⟩⟩
end
set_option maxHeartbeats 2000000 in
theorem v_X7_isCell_0 {K : Sh} {x : Cn} {Q : Int32 → Cn → Prop} {b0 : Nat} {l1 : Int32} {l2 : Int32} {l3 : Int32} {b0_2 : Nat} (k_b0 : kk K b0 = some (7, 0)) (g_b0_2 : gr x b0 2 = some b0_2) (k_b0_2 : kk K b0_2 = some (4, 0)) (K0 : (¬ (0 ≤ l1 ∧ l1 < gi x b0_2 0) → (Q 0 x)) ∧ ((0 ≤ l1 ∧ l1 < gi x b0_2 0) → ((¬ (0 < gi x b0_2 0 ∧ 0 ≤ l2 ∧ l2 < 7) → (Q 0 x)) ∧ ((0 < gi x b0_2 0 ∧ 0 ≤ l2 ∧ l2 < 7) → ((¬ (0 < gi x b0_2 0 ∧ 0 ≤ l3 ∧ l3 < 24) → (Q 0 x)) ∧ ((0 < gi x b0_2 0 ∧ 0 ≤ l3 ∧ l3 < 24) → (Q 1 x))))))) : mSI mX7_isCell [.ref b0, .int l1, .int l2, .int l3] K x Q := by
  refine s_I (by decide) (by simp [Value.category]) (Nat.le_of_ble_eq_true rfl) ?_
  show mGM mX7_isCell 0 [some (.ref b0), some (.int l1), some (.int l2), some (.int l3)] [] (hp K x) (PI K Q)
  refine r_aload_n (pc := 0) dX7_isCell_0 rfl ?_
  refine r_iload_n (pc := 1) dX7_isCell_1 rfl ?_
  refine s_VI (pc := 2) mX7_isWeek (ci := 7) (a := b0) (As := [.int l1]) dX7_isCell_2 lk_X7_167 in_X7_isWeek mo_X7_isWeek ⟨by decide, rfl⟩ ⟨by decide, by decide⟩ (Nat.le_of_ble_eq_true rfl) k_b0 (sp_X7_isWeek k_b0 g_b0_2 k_b0_2 ?_)
  refine r_if_eq (pc := 5) (tgt := 28) dX7_isCell_5 (by decide) (fun q => ?_) (fun q => ?_)
  · have q := (b2i_z _).mp q
    have K0 := K0.1 q
    refine r_iconst (pc := 28) (v := 0) dX7_isCell_28 (by decide) ?_
    exact s_zret rfl (by decide) dX7_isCell_29 K0
  · have q := b2i_nz q
    have K0 := K0.2 q
    refine r_aload_n (pc := 8) dX7_isCell_8 rfl ?_
    refine r_iload_n (pc := 9) dX7_isCell_9 rfl ?_
    refine s_VI (pc := 10) mX7_isDay (ci := 7) (a := b0) (As := [.int l2]) dX7_isCell_10 lk_X7_245 in_X7_isDay mo_X7_isDay ⟨by decide, rfl⟩ ⟨by decide, by decide⟩ (Nat.le_of_ble_eq_true rfl) k_b0 (sp_X7_isDay k_b0 g_b0_2 k_b0_2 ?_)
    refine r_if_eq (pc := 13) (tgt := 28) dX7_isCell_13 (by decide) (fun q => ?_) (fun q => ?_)
    · have q := (b2i_z _).mp q
      have K0 := K0.1 q
      refine r_iconst (pc := 28) (v := 0) dX7_isCell_28 (by decide) ?_
      exact s_zret rfl (by decide) dX7_isCell_29 K0
    · have q := b2i_nz q
      have K0 := K0.2 q
      refine r_aload_n (pc := 16) dX7_isCell_16 rfl ?_
      refine r_iload_n (pc := 17) dX7_isCell_17 rfl ?_
      refine s_VI (pc := 18) mX7_isHour (ci := 7) (a := b0) (As := [.int l3]) dX7_isCell_18 lk_X7_195 in_X7_isHour mo_X7_isHour ⟨by decide, rfl⟩ ⟨by decide, by decide⟩ (Nat.le_of_ble_eq_true rfl) k_b0 (sp_X7_isHour k_b0 g_b0_2 k_b0_2 ?_)
      refine r_if_eq (pc := 21) (tgt := 28) dX7_isCell_21 (by decide) (fun q => ?_) (fun q => ?_)
      · have q := (b2i_z _).mp q
        have K0 := K0.1 q
        refine r_iconst (pc := 28) (v := 0) dX7_isCell_28 (by decide) ?_
        exact s_zret rfl (by decide) dX7_isCell_29 K0
      · have q := b2i_nz q
        have K0 := K0.2 q
        refine r_iconst (pc := 24) (v := 1) dX7_isCell_24 (by decide) ?_
        refine r_goto (pc := 25) (tgt := 29) dX7_isCell_25 (by decide) ?_
        exact s_zret rfl (by decide) dX7_isCell_29 K0
section
variable {K : Sh} {x : Cn} {Q : Int32 → Cn → Prop} {b t n : Nat}
theorem sp_X7_isCell {l1 l2 l3 : Int32} (h1 : kk K b = some (7, 0)) (h2 : gr x b 2 = some t) (h3 : kk K t = some (4, 0)) (k : Q (b2i (0 ≤ l1 ∧ l1 < gi x t 0 ∧ 0 < gi x t 0 ∧ 0 ≤ l2 ∧ l2 < 7 ∧ 0 ≤ l3 ∧ l3 < 24)) x) : mSI mX7_isCell [.ref b, .int l1, .int l2, .int l3] K x Q :=
  v_X7_isCell_0 h1 h2 h3 ⟨fun h => (b2i_k k).2 (fun z => h ⟨z.1, z.2.1⟩), fun h => ⟨fun g => (b2i_k k).2 (fun z => g ⟨z.2.2.1, z.2.2.2.1, z.2.2.2.2.1⟩), fun g => ⟨fun f => (b2i_k k).2 (fun z => f ⟨z.2.2.1, z.2.2.2.2.2⟩), fun f => (b2i_k k).1 ⟨h.1, h.2, g.1, g.2.1, g.2.2, f.2⟩⟩⟩⟩
end
end
/-! 23.world.lean.txt -/
section
/-! the shape behind both constructors -/
def skd (j : Nat) : Nat × Nat := if j = 0 then (4, 0) else if j ≤ 2 then (20, 24) else if j = 3 then (23, 24) else if j = 4 then (24, 24) else if j = 5 then (20, 25) else if j < 30 then (5, 0) else (0, 0)
def kwf (a : Nat) : Nat × Nat := if a = 0 then (7, 0) else if a = 1 then (21, 1200) else if a < 56 then skd (a - 2) else if a = 56 then (1, 0) else if a = 57 then (20, 48) else if a = 58 then (22, 10) else if a = 59 then (3, 0) else if a < 114 then skd (a - 60) else if a = 114 then (1, 0) else if a = 115 then (20, 48) else if a = 116 then (21, 0) else if a = 117 then (2, 0) else if a < 172 then skd (a - 118) else if a = 172 then (20, 56) else if a ≤ 174 then (20, 24) else if a = 175 then (6, 0) else if a = 176 then (21, 2400) else if a < 717 then skd ((a - 177) % 54) else if a = 717 then (8, 0) else if a ≤ 719 then (20, 518) else if a = 720 then (21, 1200) else if a = 721 then (20, 7) else if a ≤ 723 then (20, 24) else if a = 724 then (20, 5180) else (21, 3000)
def KW : Sh := (726, kwf)
/-- where seasons lie -/
def Isea (q : Nat) : Prop := q = 2 ∨ q = 60 ∨ q = 118 ∨ ∃ i, i < 10 ∧ q = 177 + 54 * i
theorem ksea {q : Nat} (h : Isea q) : ∀ j, j < 54 → kk KW (q + j) = some (skd j) := by
  rcases h with rfl | rfl | rfl | ⟨i, hi, rfl⟩
  · decide +kernel
  · decide +kernel
  · decide +kernel
  · have : ∀ i, i < 10 → ∀ j, j < 54 → kk KW (177 + 54 * i + j) = some (skd j) := by decide +kernel
    exact this i hi
theorem Isea.lt {q : Nat} (h : Isea q) : 2 ≤ q ∧ q + 54 ≤ 717 := by
  rcases h with rfl | rfl | rfl | ⟨i, hi, rfl⟩ <;> omega
section KS
variable {q : Nat}
theorem ks0 (h : Isea q) : kk KW q = some (4, 0) := ksea h 0 (by decide)
theorem ks1 (h : Isea q) : kk KW (q + 1) = some (20, 24) := ksea h 1 (by decide)
theorem ks2 (h : Isea q) : kk KW (q + 2) = some (20, 24) := ksea h 2 (by decide)
theorem ks3 (h : Isea q) : kk KW (q + 3) = some (23, 24) := ksea h 3 (by decide)
theorem ks4 (h : Isea q) : kk KW (q + 4) = some (24, 24) := ksea h 4 (by decide)
theorem ks5 (h : Isea q) : kk KW (q + 5) = some (20, 25) := ksea h 5 (by decide)
theorem ks6 (h : Isea q) {j : Nat} (hj : j < 24) : kk KW (q + 6 + j) = some (5, 0) := by
  have := ksea h (6 + j) (by omega)
  rw [Nat.add_assoc, this]
  unfold skd
  rw [if_neg (by omega), if_neg (by omega), if_neg (by omega), if_neg (by omega), if_neg (by omega), if_pos (by omega)]
theorem ks30 (h : Isea q) {j : Nat} (hj : j < 24) : kk KW (q + 30 + j) = some (0, 0) := by
  have := ksea h (30 + j) (by omega)
  rw [Nat.add_assoc, this]
  unfold skd
  rw [if_neg (by omega), if_neg (by omega), if_neg (by omega), if_neg (by omega), if_neg (by omega), if_neg (by omega)]
end KS
/-! the told row as the state of all -/
abbrev TT : Type := Nat → Int32
def so (T : TT) (s k : Nat) : Int32 := T (62 + 12 * s + k)
def ao (T : TT) (a k : Nat) : Int32 := T (350 + 7 * a + k)
def bas (T : TT) (s : Nat) : Int32 := ((so T s 7 ||| so T s 8) ||| so T s 9) ||| so T s 10
/-- a series of the row is sound: C carriers, W weeks -/
def Wse (T : TT) (C W s : Nat) : Prop := (∃ c, c < C ∧ so T s 0 = nI c) ∧ (∃ d, d < 7 ∧ so T s 1 = nI d) ∧ (∃ h, h < 24 ∧ so T s 2 = nI h) ∧ (so T s 3 = 0 ∨ so T s 3 = 1) ∧ (so T s 4 = 0 ∨ so T s 4 = 1) ∧ (∃ f l, f ≤ l ∧ l < W ∧ so T s 5 = nI f ∧ so T s 6 = nI l) ∧ (∀ i, i < 32 → ∀ k j, k < 5 → j < 5 → tb (so T s (7 + k)) i = true → tb (so T s (7 + j)) i = true → k = j) ∧ ∀ i k, k < 5 → tb (so T s (7 + k)) i = true → i < W
def Was (T : TT) (C W a : Nat) : Prop := (∃ c, c < C ∧ ao T a 0 = nI c) ∧ (∃ d, d < 7 ∧ ao T a 1 = nI d) ∧ (∃ h, h < 24 ∧ ao T a 2 = nI h) ∧ (ao T a 3 = 0 ∨ ao T a 3 = 1) ∧ (∃ f l, f + 4 ≤ l ∧ l < W ∧ ao T a 4 = nI f ∧ ao T a 5 = nI l) ∧ ∃ b, b ≤ 9 ∧ ao T a 6 = nI b
/-- the row is sound: W weeks, C carriers, S series, A asks, now N -/
def WF (T : TT) (W C S A N : Nat) : Prop := T 0 = nI W ∧ ((W = 0 ∧ C = 0) ∨ 5 ≤ W) ∧ W ≤ 30 ∧ T 1 = nI C ∧ C ≤ 8 ∧ T 2 = nI S ∧ S ≤ 24 ∧ T 3 = nI A ∧ A ≤ 24 ∧ T 4 = nI N ∧ N ≤ W ∧ (∀ h, h < 24 → ∃ a b, a ≤ 10 ∧ b ≤ 10 ∧ T (6 + 2 * h) = nI a ∧ T (7 + 2 * h) = nI b) ∧ (∀ s, s < S → Wse T C W s) ∧ ∀ a, a < A → Was T C W a
/-! a season of the landed one shows the row -/
def SER (x : Cn) (p : Nat) (T : TT) (s : Nat) : Prop := (∀ k, k < 12 → k ≠ 7 → gi x p k = so T s k) ∧ gi x p 7 = bas T s ||| so T s 11
def ASR (x : Cn) (p : Nat) (T : TT) (a : Nat) : Prop := ∀ k, k < 7 → gi x p k = ao T a k
def SRf (x : Cn) (q : Nat) : Prop := gr x q 5 = some (q + 1) ∧ gr x q 6 = some (q + 2) ∧ gr x q 7 = some (q + 3) ∧ gr x q 8 = some (q + 4) ∧ gr x q 9 = some (q + 5) ∧ (∀ s, s < 24 → ∃ j, j < 24 ∧ gr x (q + 3) s = some (q + 6 + j)) ∧ (∀ s t, s < 24 → t < 24 → gr x (q + 3) s = gr x (q + 3) t → s = t) ∧ (∀ s, s < 24 → ∃ j, j < 24 ∧ gr x (q + 4) s = some (q + 30 + j)) ∧ ∀ s t, s < 24 → t < 24 → gr x (q + 4) s = gr x (q + 4) t → s = t
def SVl (x : Cn) (q : Nat) (T : TT) (S A : Nat) : Prop := gi x q 0 = T 0 ∧ gi x q 1 = T 4 ∧ gi x q 2 = T 5 ∧ gi x q 3 = T 2 ∧ gi x q 4 = T 3 ∧ (∀ h, h < 24 → gi x (q + 1) h = T (6 + 2 * h) ∧ gi x (q + 2) h = T (7 + 2 * h)) ∧ (∀ s p, s < S → gr x (q + 3) s = some p → SER x p T s) ∧ ∀ a p, a < A → gr x (q + 4) a = some p → ASR x p T a
/-- all of it -/
def SEA (x : Cn) (q : Nat) (T : TT) (W C S A N : Nat) : Prop := Isea q ∧ SRf x q ∧ SVl x q T S A ∧ WF T W C S A N
/-! bits of a series -/
theorem tb_bas (T : TT) (s i : Nat) : tb (bas T s) i = (((tb (so T s 7) i || tb (so T s 8) i) || tb (so T s 9) i) || tb (so T s 10) i) := by
  unfold bas
  rw [tb_or, tb_or, tb_or]
theorem SER.held {x : Cn} {p : Nat} {T : TT} {C W s : Nat} (h : SER x p T s) (w : Wse T C W s) : f_held x p = bas T s := by
  obtain ⟨-, -, -, -, -, -, hd, -⟩ := w
  unfold f_held
  rw [h.2, h.1 11 (by decide) (by decide)]
  apply tb_ext
  intro i hi
  rw [tb_and, tb_or, tb_not _ hi, tb_bas]
  have d0 := hd i hi 0 4 (by decide) (by decide)
  have d1 := hd i hi 1 4 (by decide) (by decide)
  have d2 := hd i hi 2 4 (by decide) (by decide)
  have d3 := hd i hi 3 4 (by decide) (by decide)
  simp only [Nat.add_zero, Nat.reduceAdd] at d0 d1 d2 d3
  cases h7 : tb (so T s 7) i <;> cases h8 : tb (so T s 8) i <;> cases h9 : tb (so T s 9) i <;> cases h10 : tb (so T s 10) i <;> cases h11 : tb (so T s 11) i <;> simp_all
theorem SER.opn {x : Cn} {p : Nat} {T : TT} {C W s : Nat} (h : SER x p T s) (w : Wse T C W s) : f_open x p = so T s 7 := by
  obtain ⟨-, -, -, -, -, -, hd, -⟩ := w
  unfold f_open
  rw [h.2, h.1 8 (by decide) (by decide), h.1 9 (by decide) (by decide), h.1 10 (by decide) (by decide), h.1 11 (by decide) (by decide)]
  apply tb_ext
  intro i hi
  rw [tb_and, tb_or, tb_not _ hi, tb_bas, tb_or, tb_or, tb_or]
  have d1 := hd i hi 0 1 (by decide) (by decide)
  have d2 := hd i hi 0 2 (by decide) (by decide)
  have d3 := hd i hi 0 3 (by decide) (by decide)
  have d4 := hd i hi 0 4 (by decide) (by decide)
  simp only [Nat.add_zero, Nat.reduceAdd] at d1 d2 d3 d4
  cases h7 : tb (so T s 7) i <;> cases h8 : tb (so T s 8) i <;> cases h9 : tb (so T s 9) i <;> cases h10 : tb (so T s 10) i <;> cases h11 : tb (so T s 11) i <;> simp_all
/-! places in the rows -/
theorem ix1 (s : Nat) {v : Int32} (k : Nat) (hk : v = nI k) : ((62 + (12 * nI s)) + v) = nI (62 + 12 * s + k) := by
  rw [hk, show (62 : Int32) = nI 62 by decide, show (12 : Int32) = nI 12 by decide, pk_mul, nI_add, nI_add]
theorem ix2 (s : Nat) {v : Int32} (k : Nat) (hk : v = nI k) : ((350 + (7 * nI s)) + v) = nI (350 + 7 * s + k) := by
  rw [hk, show (350 : Int32) = nI 350 by decide, show (7 : Int32) = nI 7 by decide, pk_mul, nI_add, nI_add]
theorem ic1 {s : Nat} (hs : s < 24) {v : Int32} (k : Nat) (hk : v = nI k) (h12 : k < 12) : (((62 + (12 * nI s)) + v) : Int32).toNatClampNeg = 62 + 12 * s + k := by rw [ix1 s k hk, nI_clamp (by omega)]
theorem ic2 {s : Nat} (hs : s < 24) {v : Int32} (k : Nat) (hk : v = nI k) (h12 : k < 7) : (((350 + (7 * nI s)) + v) : Int32).toNatClampNeg = 350 + 7 * s + k := by rw [ix2 s k hk, nI_clamp (by omega)]
theorem iv1 {s : Nat} (hs : s < 24) {v : Int32} (k : Nat) (hk : v = nI k) (h12 : k < 12) : vp_in (((62 + (12 * nI s)) + v) : Int32) 518 := by rw [ix1 s k hk]; exact vp_in_nI (by omega) (by decide)
theorem iv2 {s : Nat} (hs : s < 24) {v : Int32} (k : Nat) (hk : v = nI k) (h12 : k < 7) : vp_in (((350 + (7 * nI s)) + v) : Int32) 518 := by rw [ix2 s k hk]; exact vp_in_nI (by omega) (by decide)
theorem iv0 {v : Int32} (k N : Nat) (hk : v = nI k) (h : k < N) (hN : N < 2 ^ 31) : vp_in v N := by rw [hk]; exact vp_in_nI h hN
/-! the references of the reference itself: t is the row at hand -/
def MRf (x : Cn) (t : Nat) : Prop := gr x 717 1 = some 718 ∧ gr x 717 2 = some 719 ∧ gr x 717 3 = some t ∧ gr x 717 4 = some 720 ∧ gr x 717 15 = some 721 ∧ gr x 717 16 = some 722 ∧ gr x 717 17 = some 723 ∧ gr x 717 20 = some 724 ∧ gr x 717 21 = some 725
theorem km : kk KW 717 = some (8, 0) := by decide
theorem km1 : kk KW 718 = some (20, 518) := by decide
theorem km2 : kk KW 719 = some (20, 518) := by decide
/-- an int within 0 .. n-1 -/
theorem inN {v : Int32} {n : Nat} (hn : n < 2 ^ 31) (h : 0 ≤ v ∧ v < nI n) : ∃ j, j < n ∧ v = nI j := by
  obtain ⟨j, hj, rfl⟩ := nI_of (Int32.not_lt.mpr h.1)
  exact ⟨j, (nI_ltI hj hn).mp h.2, rfl⟩
theorem inN' {v : Int32} {n : Nat} (hn : n < 2 ^ 31) : (0 ≤ v ∧ v ≤ nI n - 1) ↔ (0 ≤ v ∧ v < nI n) := by
  cases n with
  | zero =>
    constructor
    · intro h
      have h1 : v ≤ -1 := h.2
      exact absurd (Int32.le_trans h.1 h1) (by decide)
    · intro h
      exact absurd h.2 (Int32.not_lt.mpr h.1)
  | succ n =>
    rw [nI_pred]
    constructor
    · intro h
      refine ⟨h.1, ?_⟩
      obtain ⟨j, hj, rfl⟩ := nI_of (Int32.not_lt.mpr h.1)
      have := (nI_leI hj (by omega)).mp h.2
      exact nI_lt (by omega) hn
    · intro h
      refine ⟨h.1, ?_⟩
      obtain ⟨j, hj, rfl⟩ := nI_of (Int32.not_lt.mpr h.1)
      have := (nI_ltI hj hn).mp h.2
      exact nI_le (by omega) (by omega)
end
/-! 24.rows.lean.txt -/
section
/-! reads of the reference's rows, by number of series or ask -/
def l24 (v : Int32) (n : Nat) : Prop := 0 ≤ v ∧ v < 24 ∧ n = 518
def l12 (v : Int32) : Prop := 0 ≤ v ∧ v < 12
def l7 (v : Int32) : Prop := 0 ≤ v ∧ v < 7
theorem l24_nI {s n : Nat} (h : s < 24) (hn : n = 518) : l24 (nI s) n := ⟨nI_pos' (by omega), nI_lt h (by decide), hn⟩
theorem l24_of {v : Int32} {n : Nat} (h : l24 v n) : ∃ s, s < 24 ∧ v = nI s ∧ n = 518 := by
  obtain ⟨h1, h2, h3⟩ := h
  obtain ⟨j, hj, e⟩ := inN (n := 24) (by decide) ⟨h1, h2⟩
  exact ⟨j, hj, e, h3⟩
theorem l12_of {v : Int32} (h : l12 v) : ∃ s, s < 12 ∧ v = nI s := inN (n := 12) (by decide) h
theorem l7_of {v : Int32} (h : l7 v) : ∃ s, s < 7 ∧ v = nI s := inN (n := 7) (by decide) h
section SRX
variable {K : Sh} {x : Cn} {Q : Int32 → Cn → Prop} {b t n : Nat}
theorem sr_X8_one {l1 l2 : Int32} (h1 : kk K b = some (8, 0)) (h2 : gr x b 3 = some t) (h3 : kk K t = some (20, n)) (h4 : l24 l1 n) (h5 : l12 l2) (k : Q (so (gi x t) l1.toNatClampNeg l2.toNatClampNeg) x) : mSI mX8_one [.ref b, .int l1, .int l2] K x Q := by
  obtain ⟨s, hs, rfl, rfl⟩ := l24_of h4
  obtain ⟨j, hj, rfl⟩ := l12_of h5
  refine sp_X8_one h1 h2 h3 (iv1 hs j rfl hj) ?_
  rw [ic1 hs j rfl hj]
  rw [nI_clamp (by omega), nI_clamp (by omega)] at k
  exact k
theorem sr_X8_ask0 {l1 l2 : Int32} (h1 : kk K b = some (8, 0)) (h2 : gr x b 3 = some t) (h3 : kk K t = some (20, n)) (h4 : l24 l1 n) (h5 : l7 l2) (k : Q (ao (gi x t) l1.toNatClampNeg l2.toNatClampNeg) x) : mSI mX8_ask0 [.ref b, .int l1, .int l2] K x Q := by
  obtain ⟨s, hs, rfl, rfl⟩ := l24_of h4
  obtain ⟨j, hj, rfl⟩ := l7_of h5
  refine sp_X8_ask0 h1 h2 h3 (iv2 hs j rfl hj) ?_
  rw [ic2 hs j rfl hj]
  rw [nI_clamp (by omega), nI_clamp (by omega)] at k
  exact k
theorem sr_X8_basisOf {l1 : Int32} (h1 : kk K b = some (8, 0)) (h2 : gr x b 3 = some t) (h3 : kk K t = some (20, n)) (h4 : l24 l1 n) (k : Q (bas (gi x t) l1.toNatClampNeg) x) : mSI mX8_basisOf [.ref b, .int l1] K x Q := by
  obtain ⟨s, hs, rfl, rfl⟩ := l24_of h4
  refine sp_X8_basisOf h1 h2 h3 (iv1 hs 7 (by decide) (by decide)) (iv1 hs 8 (by decide) (by decide)) (iv1 hs 9 (by decide) (by decide)) (iv1 hs 10 (by decide) (by decide)) ?_
  rw [ic1 hs 7 (by decide) (by decide), ic1 hs 8 (by decide) (by decide), ic1 hs 9 (by decide) (by decide), ic1 hs 10 (by decide) (by decide)]
  rw [nI_clamp (by omega)] at k
  exact k
theorem sr_X8_goodOf {l1 : Int32} (h1 : kk K b = some (8, 0)) (h2 : gr x b 3 = some t) (h3 : kk K t = some (20, n)) (h4 : l24 l1 n) (k : Q (nI (cpt (so (gi x t) l1.toNatClampNeg 8 ||| so (gi x t) l1.toNatClampNeg 10))) x) : mSI mX8_goodOf [.ref b, .int l1] K x Q := by
  obtain ⟨s, hs, rfl, rfl⟩ := l24_of h4
  refine sp_X8_goodOf h1 h2 h3 (iv1 hs 8 (by decide) (by decide)) (iv1 hs 10 (by decide) (by decide)) ?_
  rw [ic1 hs 8 (by decide) (by decide), ic1 hs 10 (by decide) (by decide)]
  rw [nI_clamp (by omega)] at k
  exact k
theorem sr_X8_isNew {l1 : Int32} (h1 : kk K b = some (8, 0)) (h2 : gr x b 3 = some t) (h3 : kk K t = some (20, n)) (h4 : l24 l1 n) (k : Q (b2i (so (gi x t) l1.toNatClampNeg 4 = 1)) x) : mSI mX8_isNew [.ref b, .int l1] K x Q := by
  obtain ⟨s, hs, rfl, rfl⟩ := l24_of h4
  refine sp_X8_isNew h1 h2 h3 (iv1 hs 4 (by decide) (by decide)) ?_
  rw [ic1 hs 4 (by decide) (by decide)]
  rw [nI_clamp (by omega)] at k
  exact k
theorem sr_X8_weeksOf {l1 : Int32} (h1 : kk K b = some (8, 0)) (h2 : gr x b 3 = some t) (h3 : kk K t = some (20, n)) (h4 : l24 l1 n) (k : Q (f_span (ao (gi x t) l1.toNatClampNeg 4) (ao (gi x t) l1.toNatClampNeg 5) &&& f_span (gi x t 4) (gi x t 0 - 1)) x) : mSI mX8_weeksOf [.ref b, .int l1] K x Q := by
  obtain ⟨s, hs, rfl, rfl⟩ := l24_of h4
  refine sp_X8_weeksOf h1 h2 h3 (iv2 hs 4 (by decide) (by decide)) (iv2 hs 5 (by decide) (by decide)) (iv0 4 518 (by decide) (by decide) (by decide)) (iv0 0 518 (by decide) (by decide) (by decide)) ?_
  rw [ic2 hs 4 (by decide) (by decide), ic2 hs 5 (by decide) (by decide)]
  rw [nI_clamp (by omega)] at k
  exact k
end SRX
/-! sums and sets over the first n numbers -/
def sumT (f : Nat → Int32) : Nat → Int32
  | 0 => 0
  | n + 1 => sumT f n + f n
def orT (f : Nat → Bool) : Nat → Int32
  | 0 => 0
  | n + 1 => orT f n ||| (if f n = true then (1 : Int32) <<< (nI n &&& 31) else 0)
theorem sumT_congr {f g : Nat → Int32} : ∀ n, (∀ i, i < n → f i = g i) → sumT f n = sumT g n := by
  intro n
  induction n with
  | zero => intro _; rfl
  | succ n ih =>
    intro h
    simp only [sumT]
    rw [ih (fun i hi => h i (by omega)), h n (by omega)]
theorem orT_congr {f g : Nat → Bool} : ∀ n, (∀ i, i < n → f i = g i) → orT f n = orT g n := by
  intro n
  induction n with
  | zero => intro _; rfl
  | succ n ih =>
    intro h
    simp only [orT]
    rw [ih (fun i hi => h i (by omega)), h n (by omega)]
end
/-! 25.load.lean.txt -/
section
abbrev cB (T : TT) (s w : Nat) (d h k b : Int32) : Prop := ¬ nI s = b ∧ so T s 1 = d ∧ so T s 2 = h ∧ (k ≤ 0 ∨ so T s 3 = k - 1) ∧ tb (bas T s) w = true
/-- LOAD: of a kind (0 all, 1 in, 2 out), but one -/
def ldB (T : TT) (S w : Nat) (d h k b : Int32) : Int32 := sumT (fun s => if cB T s w d h k b then 1 else 0) S
theorem ldB_t {T : TT} {s w : Nat} {d h k b : Int32} (z : cB T s w d h k b) : ldB T (s + 1) w d h k b = ldB T s w d h k b + 1 := by
  show sumT _ s + (if cB T s w d h k b then 1 else 0) = _
  rw [if_pos z]
  rfl
theorem ldB_f {T : TT} {s w : Nat} {d h k b : Int32} (z : ¬ cB T s w d h k b) : ldB T (s + 1) w d h k b = ldB T s w d h k b := by
  show sumT _ s + (if cB T s w d h k b then 1 else 0) = _
  rw [if_neg z, Int32.add_zero]
  rfl
theorem SEA.ser {x : Cn} {q : Nat} {T : TT} {W C S A N s : Nat} (E : SEA x q T W C S A N) (hs : s < S) : ∃ p, gr x (q + 3) s = some p ∧ kk KW p = some (5, 0) ∧ SER x p T s ∧ f_held x p = bas T s ∧ f_open x p = so T s 7 ∧ Wse T C W s := by
  obtain ⟨h1, ⟨-, -, -, -, -, h2, -⟩, ⟨-, -, -, -, -, -, h3, -⟩, ⟨-, -, -, -, -, -, hS, -, -, -, -, -, h4, -⟩⟩ := E
  obtain ⟨j, hj, e⟩ := h2 s (by omega)
  have hse := h3 s _ hs e
  exact ⟨_, e, ks6 h1 hj, hse, hse.held (h4 s hs), hse.opn (h4 s hs), h4 s hs⟩
theorem SEA.ask {x : Cn} {q : Nat} {T : TT} {W C S A N s : Nat} (E : SEA x q T W C S A N) (hs : s < A) : ∃ p, gr x (q + 4) s = some p ∧ kk KW p = some (0, 0) ∧ ASR x p T s ∧ Was T C W s := by
  obtain ⟨h1, ⟨-, -, -, -, -, -, -, h2, -⟩, ⟨-, -, -, -, -, -, -, h3⟩, ⟨-, -, -, -, -, -, -, -, hA, -, -, -, -, h4⟩⟩ := E
  obtain ⟨j, hj, e⟩ := h2 s (by omega)
  exact ⟨_, e, ks30 h1 hj, h3 s _ hs e, h4 s hs⟩
theorem SEA.nums {x : Cn} {q : Nat} {T : TT} {W C S A N : Nat} (E : SEA x q T W C S A N) : gi x q 0 = nI W ∧ gi x q 1 = nI N ∧ gi x q 3 = nI S ∧ gi x q 4 = nI A ∧ W ≤ 30 ∧ C ≤ 8 ∧ S ≤ 24 ∧ A ≤ 24 ∧ N ≤ W := by
  obtain ⟨h1, -, ⟨v0, v1, -, v3, v4, -⟩, ⟨w0, -, w1, -, w2, w3, w4, w5, w6, w7, w8, -⟩⟩ := E
  exact ⟨v0.trans w0, v1.trans w7, v3.trans w3, v4.trans w5, w1, w2, w4, w6, w8⟩
set_option maxHeartbeats 2000000 in
theorem v_X4_loadOf_0 {K : Sh} {x : Cn} {Q : Int32 → Cn → Prop} {b0 : Nat} {l1 : Int32} {l2 : Int32} {l3 : Int32}   (K0 : GI mX4_loadOf 6 [some (.ref b0), some (.int l1), some (.int l2), some (.int l3), some (.int 0), some (.int 0)] [] K x Q) : mSI mX4_loadOf [.ref b0, .int l1, .int l2, .int l3] K x Q := by
  refine s_I (by decide) (by simp [Value.category]) (Nat.le_of_ble_eq_true rfl) ?_
  show mGM mX4_loadOf 0 [some (.ref b0), some (.int l1), some (.int l2), some (.int l3), none, none] [] (hp K x) (PI K Q)
  refine r_iconst (pc := 0) (v := 0) dX4_loadOf_0 (by decide) ?_
  refine r_istore (pc := 1) dX4_loadOf_1 (by decide) ?_
  refine r_iconst (pc := 3) (L := [some (.ref b0), some (.int l1), some (.int l2), some (.int l3), some (.int 0), none]) (v := 0) dX4_loadOf_3 (by decide) ?_
  refine r_istore (pc := 4) dX4_loadOf_4 (by decide) ?_
  exact r_le (L' := [some (.ref b0), some (.int l1), some (.int l2), some (.int l3), some (.int 0), some (.int 0)]) ⟨rfl, ⟨rfl, ⟨rfl, ⟨rfl, ⟨rfl, ⟨rfl, trivial⟩⟩⟩⟩⟩⟩ K0
set_option maxHeartbeats 2000000 in
theorem v_X4_loadOf_6 {K : Sh} {x : Cn} {Q : Int32 → Cn → Prop} {b0 : Nat} {l1 : Int32} {l2 : Int32} {l3 : Int32} {l4 : Int32} {l5 : Int32} {b0_7 : Nat} {n_b0_7 : Nat} (k_b0 : kk K b0 = some (4, 0)) (g_b0_7 : gr x b0 7 = some b0_7) (k_b0_7 : kk K b0_7 = some (23, n_b0_7)) (K0 : ((gi x b0 3) ≤ l5 → (Q l4 x)) ∧ (¬ (gi x b0 3) ≤ l5 → (vp_in l5 n_b0_7 ∧ (∃ c_3 : Nat, gr x b0_7 ((l5 : Int32).toNatClampNeg) = some c_3 ∧ (kk K c_3 = some (5, 0) ∧ ((¬ (gi x c_3 1 = l2 ∧ gi x c_3 2 = l3 ∧ f_bit (f_held x c_3) l1) → (GI mX4_loadOf 6 [some (.ref b0), some (.int l1), some (.int l2), some (.int l3), some (.int l4), some (.int (l5 + 1))] [] K x Q)) ∧ ((gi x c_3 1 = l2 ∧ gi x c_3 2 = l3 ∧ f_bit (f_held x c_3) l1) → (GI mX4_loadOf 6 [some (.ref b0), some (.int l1), some (.int l2), some (.int l3), some (.int (l4 + 1)), some (.int (l5 + 1))] [] K x Q)))))))) : GI mX4_loadOf 6 [some (.ref b0), some (.int l1), some (.int l2), some (.int l3), some (.int l4), some (.int l5)] [] K x Q := by
  show mGM mX4_loadOf 6 [some (.ref b0), some (.int l1), some (.int l2), some (.int l3), some (.int l4), some (.int l5)] [] (hp K x) (PI K Q)
  refine r_iload (pc := 6) dX4_loadOf_6 rfl ?_
  refine r_aload_n (pc := 8) dX4_loadOf_8 rfl ?_
  refine s_getI (pc := 9) dX4_loadOf_9 fl_X4_21 rfl k_b0 ?_
  refine r_icmp_ge (pc := 12) (tgt := 40) dX4_loadOf_12 (by decide) (fun q => ?_) (fun q => ?_)
  · have K0 := K0.1 q
    refine r_iload (pc := 40) dX4_loadOf_40 rfl ?_
    exact s_iret rfl dX4_loadOf_42 K0
  · have K0 := K0.2 q
    refine r_aload_n (pc := 15) dX4_loadOf_15 rfl ?_
    refine s_getR (pc := 16) dX4_loadOf_16 fl_X4_36 rfl k_b0 g_b0_7 ?_
    refine r_iload (pc := 19) dX4_loadOf_19 rfl ?_
    obtain ⟨i_2, K0⟩ := K0
    obtain ⟨c_3, g_4, K0⟩ := K0
    refine s_aald (pc := 21) dX4_loadOf_21 (by decide) rfl k_b0_7 i_2 g_4 ?_
    refine r_iload_n (pc := 22) dX4_loadOf_22 rfl ?_
    refine r_iload_n (pc := 23) dX4_loadOf_23 rfl ?_
    refine r_iload_n (pc := 24) dX4_loadOf_24 rfl ?_
    obtain ⟨e_5, K0⟩ := K0
    refine s_VI (pc := 25) mX5_fills (ci := 5) (a := c_3) (As := [.int l1, .int l2, .int l3]) dX4_loadOf_25 lk_X4_71 in_X5_fills mo_X5_fills ⟨by decide, rfl⟩ ⟨by decide, by decide⟩ (Nat.le_of_ble_eq_true rfl) e_5 (sp_X5_fills e_5 ?_)
    refine r_if_eq (pc := 28) (tgt := 34) dX4_loadOf_28 (by decide) (fun q => ?_) (fun q => ?_)
    · have q := (b2i_z _).mp q
      have K0 := K0.1 q
      refine r_iinc (pc := 34) (v := l5 + 1) dX4_loadOf_34 rfl rfl (by decide) ?_
      refine r_goto (pc := 37) (L := [some (.ref b0), some (.int l1), some (.int l2), some (.int l3), some (.int l4), some (.int (l5 + 1))]) (tgt := 6) dX4_loadOf_37 (by decide) ?_
      exact r_le (L' := [some (.ref b0), some (.int l1), some (.int l2), some (.int l3), some (.int l4), some (.int (l5 + 1))]) ⟨rfl, ⟨rfl, ⟨rfl, ⟨rfl, ⟨rfl, ⟨rfl, trivial⟩⟩⟩⟩⟩⟩ K0
    · have q := b2i_nz q
      have K0 := K0.2 q
      refine r_iinc (pc := 31) (v := l4 + 1) dX4_loadOf_31 rfl rfl (by decide) ?_
      refine r_iinc (pc := 34) (L := [some (.ref b0), some (.int l1), some (.int l2), some (.int l3), some (.int (l4 + 1)), some (.int l5)]) (v := l5 + 1) dX4_loadOf_34 rfl rfl (by decide) ?_
      refine r_goto (pc := 37) (L := [some (.ref b0), some (.int l1), some (.int l2), some (.int l3), some (.int (l4 + 1)), some (.int (l5 + 1))]) (tgt := 6) dX4_loadOf_37 (by decide) ?_
      exact r_le (L' := [some (.ref b0), some (.int l1), some (.int l2), some (.int l3), some (.int (l4 + 1)), some (.int (l5 + 1))]) ⟨rfl, ⟨rfl, ⟨rfl, ⟨rfl, ⟨rfl, ⟨rfl, trivial⟩⟩⟩⟩⟩⟩ K0
section
variable {x : Cn} {Q : Int32 → Cn → Prop} {q : Nat} {T : TT} {W C S A N : Nat}
theorem lp_X4_loadOf (E : SEA x q T W C S A N) {w : Nat} {d h : Int32} (hw : w < 32) (k : Q (ldB T S w d h 0 (-1)) x) : ∀ (n s : Nat) (acc : Int32), s + n = S → acc = ldB T s w d h 0 (-1) → GI mX4_loadOf 6 [some (.ref q), some (.int (nI w)), some (.int d), some (.int h), some (.int acc), some (.int (nI s))] [] KW x Q := by
  have hn := E.nums
  intro n
  induction n with
  | zero =>
    intro s acc hs ha
    refine v_X4_loadOf_6 (ks0 E.1) E.2.1.2.2.1 (ks3 E.1) ⟨fun _ => ?_, fun z => ?_⟩
    · rw [ha, show s = S by omega]
      exact k
    · exact absurd (by rw [hn.2.2.1]; exact nI_le (by omega) (by omega)) z
  | succ n ih =>
    intro s acc hs ha
    refine v_X4_loadOf_6 (ks0 E.1) E.2.1.2.2.1 (ks3 E.1) ⟨fun z => ?_, fun _ => ?_⟩
    · rw [hn.2.2.1] at z
      exact absurd z (nI_ge (by omega) (by omega))
    · obtain ⟨p, e1, e2, e3, e4, -, -⟩ := E.ser (s := s) (by omega)
      refine ⟨vp_in_nI (by omega) (by decide), p, by rw [nI_clamp (by omega)]; exact e1, e2, ?_⟩
      rw [e3.1 1 (by decide) (by decide), e3.1 2 (by decide) (by decide), e4, f_bit_tb _ hw, nI_1]
      have hm : ¬ nI s = -1 := fun z => absurd (show (0 : Int32) ≤ -1 by rw [← z]; exact nI_pos' (by omega)) (by decide)
      refine ⟨fun z => ih (s + 1) acc (by omega) ?_, fun z => ih (s + 1) (acc + 1) (by omega) ?_⟩
      · rw [ldB_f (fun g => z ⟨g.2.1, g.2.2.1, g.2.2.2.2⟩)]
        exact ha
      · rw [ldB_t ⟨hm, z.1, z.2.1, Or.inl (by decide), z.2.2⟩, ha]
theorem sp_X4_loadOf (E : SEA x q T W C S A N) {w : Nat} {d h : Int32} (hw : w < 32) (k : Q (ldB T S w d h 0 (-1)) x) : mSI mX4_loadOf [.ref q, .int (nI w), .int d, .int h] KW x Q := v_X4_loadOf_0 (lp_X4_loadOf E hw k S 0 0 (by omega) rfl)
end
set_option maxHeartbeats 2000000 in
theorem v_X4_loadIn_0 {K : Sh} {x : Cn} {Q : Int32 → Cn → Prop} {b0 : Nat} {l1 : Int32} {l2 : Int32} {l3 : Int32}   (K0 : GI mX4_loadIn 6 [some (.ref b0), some (.int l1), some (.int l2), some (.int l3), some (.int 0), some (.int 0)] [] K x Q) : mSI mX4_loadIn [.ref b0, .int l1, .int l2, .int l3] K x Q := by
  refine s_I (by decide) (by simp [Value.category]) (Nat.le_of_ble_eq_true rfl) ?_
  show mGM mX4_loadIn 0 [some (.ref b0), some (.int l1), some (.int l2), some (.int l3), none, none] [] (hp K x) (PI K Q)
  refine r_iconst (pc := 0) (v := 0) dX4_loadIn_0 (by decide) ?_
  refine r_istore (pc := 1) dX4_loadIn_1 (by decide) ?_
  refine r_iconst (pc := 3) (L := [some (.ref b0), some (.int l1), some (.int l2), some (.int l3), some (.int 0), none]) (v := 0) dX4_loadIn_3 (by decide) ?_
  refine r_istore (pc := 4) dX4_loadIn_4 (by decide) ?_
  exact r_le (L' := [some (.ref b0), some (.int l1), some (.int l2), some (.int l3), some (.int 0), some (.int 0)]) ⟨rfl, ⟨rfl, ⟨rfl, ⟨rfl, ⟨rfl, ⟨rfl, trivial⟩⟩⟩⟩⟩⟩ K0
set_option maxHeartbeats 2000000 in
theorem v_X4_loadIn_6 {K : Sh} {x : Cn} {Q : Int32 → Cn → Prop} {b0 : Nat} {l1 : Int32} {l2 : Int32} {l3 : Int32} {l4 : Int32} {l5 : Int32} {b0_7 : Nat} {n_b0_7 : Nat} (k_b0 : kk K b0 = some (4, 0)) (g_b0_7 : gr x b0 7 = some b0_7) (k_b0_7 : kk K b0_7 = some (23, n_b0_7)) (K0 : ((gi x b0 3) ≤ l5 → (Q l4 x)) ∧ (¬ (gi x b0 3) ≤ l5 → (vp_in l5 n_b0_7 ∧ (∃ c_3 : Nat, gr x b0_7 ((l5 : Int32).toNatClampNeg) = some c_3 ∧ (kk K c_3 = some (5, 0) ∧ ((¬ (gi x c_3 3) = 0 → (GI mX4_loadIn 6 [some (.ref b0), some (.int l1), some (.int l2), some (.int l3), some (.int l4), some (.int (l5 + 1))] [] K x Q)) ∧ ((gi x c_3 3) = 0 → ((¬ (gi x c_3 1 = l2 ∧ gi x c_3 2 = l3 ∧ f_bit (f_held x c_3) l1) → (GI mX4_loadIn 6 [some (.ref b0), some (.int l1), some (.int l2), some (.int l3), some (.int l4), some (.int (l5 + 1))] [] K x Q)) ∧ ((gi x c_3 1 = l2 ∧ gi x c_3 2 = l3 ∧ f_bit (f_held x c_3) l1) → (GI mX4_loadIn 6 [some (.ref b0), some (.int l1), some (.int l2), some (.int l3), some (.int (l4 + 1)), some (.int (l5 + 1))] [] K x Q)))))))))) : GI mX4_loadIn 6 [some (.ref b0), some (.int l1), some (.int l2), some (.int l3), some (.int l4), some (.int l5)] [] K x Q := by
  show mGM mX4_loadIn 6 [some (.ref b0), some (.int l1), some (.int l2), some (.int l3), some (.int l4), some (.int l5)] [] (hp K x) (PI K Q)
  refine r_iload (pc := 6) dX4_loadIn_6 rfl ?_
  refine r_aload_n (pc := 8) dX4_loadIn_8 rfl ?_
  refine s_getI (pc := 9) dX4_loadIn_9 fl_X4_21 rfl k_b0 ?_
  refine r_icmp_ge (pc := 12) (tgt := 53) dX4_loadIn_12 (by decide) (fun q => ?_) (fun q => ?_)
  · have K0 := K0.1 q
    refine r_iload (pc := 53) dX4_loadIn_53 rfl ?_
    exact s_iret rfl dX4_loadIn_55 K0
  · have K0 := K0.2 q
    refine r_aload_n (pc := 15) dX4_loadIn_15 rfl ?_
    refine s_getR (pc := 16) dX4_loadIn_16 fl_X4_36 rfl k_b0 g_b0_7 ?_
    refine r_iload (pc := 19) dX4_loadIn_19 rfl ?_
    obtain ⟨i_2, K0⟩ := K0
    obtain ⟨c_3, g_4, K0⟩ := K0
    refine s_aald (pc := 21) dX4_loadIn_21 (by decide) rfl k_b0_7 i_2 g_4 ?_
    obtain ⟨e_5, K0⟩ := K0
    refine s_getI (pc := 22) dX4_loadIn_22 fl_X4_75 rfl e_5 ?_
    refine r_if_ne (pc := 25) (tgt := 47) dX4_loadIn_25 (by decide) (fun q => ?_) (fun q => ?_)
    · have K0 := K0.1 q
      refine r_iinc (pc := 47) (v := l5 + 1) dX4_loadIn_47 rfl rfl (by decide) ?_
      refine r_goto (pc := 50) (L := [some (.ref b0), some (.int l1), some (.int l2), some (.int l3), some (.int l4), some (.int (l5 + 1))]) (tgt := 6) dX4_loadIn_50 (by decide) ?_
      exact r_le (L' := [some (.ref b0), some (.int l1), some (.int l2), some (.int l3), some (.int l4), some (.int (l5 + 1))]) ⟨rfl, ⟨rfl, ⟨rfl, ⟨rfl, ⟨rfl, ⟨rfl, trivial⟩⟩⟩⟩⟩⟩ K0
    · have K0 := K0.2 q
      refine r_aload_n (pc := 28) dX4_loadIn_28 rfl ?_
      refine s_getR (pc := 29) dX4_loadIn_29 fl_X4_36 rfl k_b0 g_b0_7 ?_
      refine r_iload (pc := 32) dX4_loadIn_32 rfl ?_
      refine s_aald (pc := 34) dX4_loadIn_34 (by decide) rfl k_b0_7 i_2 g_4 ?_
      refine r_iload_n (pc := 35) dX4_loadIn_35 rfl ?_
      refine r_iload_n (pc := 36) dX4_loadIn_36 rfl ?_
      refine r_iload_n (pc := 37) dX4_loadIn_37 rfl ?_
      refine s_VI (pc := 38) mX5_fills (ci := 5) (a := c_3) (As := [.int l1, .int l2, .int l3]) dX4_loadIn_38 lk_X4_71 in_X5_fills mo_X5_fills ⟨by decide, rfl⟩ ⟨by decide, by decide⟩ (Nat.le_of_ble_eq_true rfl) e_5 (sp_X5_fills e_5 ?_)
      refine r_if_eq (pc := 41) (tgt := 47) dX4_loadIn_41 (by decide) (fun q => ?_) (fun q => ?_)
      · have q := (b2i_z _).mp q
        have K0 := K0.1 q
        refine r_iinc (pc := 47) (v := l5 + 1) dX4_loadIn_47 rfl rfl (by decide) ?_
        refine r_goto (pc := 50) (L := [some (.ref b0), some (.int l1), some (.int l2), some (.int l3), some (.int l4), some (.int (l5 + 1))]) (tgt := 6) dX4_loadIn_50 (by decide) ?_
        exact r_le (L' := [some (.ref b0), some (.int l1), some (.int l2), some (.int l3), some (.int l4), some (.int (l5 + 1))]) ⟨rfl, ⟨rfl, ⟨rfl, ⟨rfl, ⟨rfl, ⟨rfl, trivial⟩⟩⟩⟩⟩⟩ K0
      · have q := b2i_nz q
        have K0 := K0.2 q
        refine r_iinc (pc := 44) (v := l4 + 1) dX4_loadIn_44 rfl rfl (by decide) ?_
        refine r_iinc (pc := 47) (L := [some (.ref b0), some (.int l1), some (.int l2), some (.int l3), some (.int (l4 + 1)), some (.int l5)]) (v := l5 + 1) dX4_loadIn_47 rfl rfl (by decide) ?_
        refine r_goto (pc := 50) (L := [some (.ref b0), some (.int l1), some (.int l2), some (.int l3), some (.int (l4 + 1)), some (.int (l5 + 1))]) (tgt := 6) dX4_loadIn_50 (by decide) ?_
        exact r_le (L' := [some (.ref b0), some (.int l1), some (.int l2), some (.int l3), some (.int (l4 + 1)), some (.int (l5 + 1))]) ⟨rfl, ⟨rfl, ⟨rfl, ⟨rfl, ⟨rfl, ⟨rfl, trivial⟩⟩⟩⟩⟩⟩ K0
section
variable {x : Cn} {Q : Int32 → Cn → Prop} {q : Nat} {T : TT} {W C S A N : Nat}
theorem lp_X4_loadIn (E : SEA x q T W C S A N) {w : Nat} {d h : Int32} (hw : w < 32) (k : Q (ldB T S w d h 1 (-1)) x) : ∀ (n s : Nat) (acc : Int32), s + n = S → acc = ldB T s w d h 1 (-1) → GI mX4_loadIn 6 [some (.ref q), some (.int (nI w)), some (.int d), some (.int h), some (.int acc), some (.int (nI s))] [] KW x Q := by
  have hn := E.nums
  intro n
  induction n with
  | zero =>
    intro s acc hs ha
    refine v_X4_loadIn_6 (ks0 E.1) E.2.1.2.2.1 (ks3 E.1) ⟨fun _ => ?_, fun z => ?_⟩
    · rw [ha, show s = S by omega]
      exact k
    · exact absurd (by rw [hn.2.2.1]; exact nI_le (by omega) (by omega)) z
  | succ n ih =>
    intro s acc hs ha
    refine v_X4_loadIn_6 (ks0 E.1) E.2.1.2.2.1 (ks3 E.1) ⟨fun z => ?_, fun _ => ?_⟩
    · rw [hn.2.2.1] at z
      exact absurd z (nI_ge (by omega) (by omega))
    · obtain ⟨p, e1, e2, e3, e4, -, -⟩ := E.ser (s := s) (by omega)
      refine ⟨vp_in_nI (by omega) (by decide), p, by rw [nI_clamp (by omega)]; exact e1, e2, ?_⟩
      rw [e3.1 1 (by decide) (by decide), e3.1 2 (by decide) (by decide), e3.1 3 (by decide) (by decide), e4, f_bit_tb _ hw, nI_1]
      have hm : ¬ nI s = -1 := fun z => absurd (show (0 : Int32) ≤ -1 by rw [← z]; exact nI_pos' (by omega)) (by decide)
      have hk : ((1 : Int32) ≤ 0 ∨ so T s 3 = 1 - 1) ↔ so T s 3 = 0 := ⟨fun z => z.elim (fun z => absurd z (by decide)) (fun z => z), fun z => Or.inr z⟩
      refine ⟨fun z => ih (s + 1) acc (by omega) ?_, fun z1 => ⟨fun z => ih (s + 1) acc (by omega) ?_, fun z => ih (s + 1) (acc + 1) (by omega) ?_⟩⟩
      · rw [ldB_f (fun g => z (hk.mp g.2.2.2.1))]
        exact ha
      · rw [ldB_f (fun g => z ⟨g.2.1, g.2.2.1, g.2.2.2.2⟩)]
        exact ha
      · rw [ldB_t ⟨hm, z.1, z.2.1, hk.mpr z1, z.2.2⟩, ha]
theorem sp_X4_loadIn (E : SEA x q T W C S A N) {w : Nat} {d h : Int32} (hw : w < 32) (k : Q (ldB T S w d h 1 (-1)) x) : mSI mX4_loadIn [.ref q, .int (nI w), .int d, .int h] KW x Q := v_X4_loadIn_0 (lp_X4_loadIn E hw k S 0 0 (by omega) rfl)
end
set_option maxHeartbeats 2000000 in
theorem v_X8_loadBut_0 {K : Sh} {x : Cn} {Q : Int32 → Cn → Prop} {b0 : Nat} {l1 : Int32} {l2 : Int32} {l3 : Int32} {l4 : Int32} {l5 : Int32}   (K0 : GI mX8_loadBut 6 [some (.ref b0), some (.int l1), some (.int l2), some (.int l3), some (.int l4), some (.int l5), some (.int 0), some (.int 0)] [] K x Q) : mSI mX8_loadBut [.ref b0, .int l1, .int l2, .int l3, .int l4, .int l5] K x Q := by
  refine s_I (by decide) (by simp [Value.category]) (Nat.le_of_ble_eq_true rfl) ?_
  show mGM mX8_loadBut 0 [some (.ref b0), some (.int l1), some (.int l2), some (.int l3), some (.int l4), some (.int l5), none, none] [] (hp K x) (PI K Q)
  refine r_iconst (pc := 0) (v := 0) dX8_loadBut_0 (by decide) ?_
  refine r_istore (pc := 1) dX8_loadBut_1 (by decide) ?_
  refine r_iconst (pc := 3) (L := [some (.ref b0), some (.int l1), some (.int l2), some (.int l3), some (.int l4), some (.int l5), some (.int 0), none]) (v := 0) dX8_loadBut_3 (by decide) ?_
  refine r_istore (pc := 4) dX8_loadBut_4 (by decide) ?_
  exact r_le (L' := [some (.ref b0), some (.int l1), some (.int l2), some (.int l3), some (.int l4), some (.int l5), some (.int 0), some (.int 0)]) ⟨rfl, ⟨rfl, ⟨rfl, ⟨rfl, ⟨rfl, ⟨rfl, ⟨rfl, ⟨rfl, trivial⟩⟩⟩⟩⟩⟩⟩⟩ K0
set_option maxHeartbeats 2000000 in
theorem v_X8_loadBut_6 {K : Sh} {x : Cn} {Q : Int32 → Cn → Prop} {b0 : Nat} {l1 : Int32} {l2 : Int32} {l3 : Int32} {l4 : Int32} {l5 : Int32} {l6 : Int32} {l7 : Int32} {b0_3 : Nat} {n_b0_3 : Nat} (k_b0 : kk K b0 = some (8, 0)) (g_b0_3 : gr x b0 3 = some b0_3) (k_b0_3 : kk K b0_3 = some (20, n_b0_3)) (K0 : vp_in 2 n_b0_3 ∧ (((gi x b0_3 2) ≤ l7 → (Q l6 x)) ∧ (¬ (gi x b0_3 2) ≤ l7 → ((l7 = l5 → (GI mX8_loadBut 6 [some (.ref b0), some (.int l1), some (.int l2), some (.int l3), some (.int l4), some (.int l5), some (.int l6), some (.int (l7 + 1))] [] K x Q)) ∧ (¬ l7 = l5 → ((l24 l7 n_b0_3) ∧ ((¬ (so (gi x b0_3) (l7 : Int32).toNatClampNeg 1) = l2 → (GI mX8_loadBut 6 [some (.ref b0), some (.int l1), some (.int l2), some (.int l3), some (.int l4), some (.int l5), some (.int l6), some (.int (l7 + 1))] [] K x Q)) ∧ ((so (gi x b0_3) (l7 : Int32).toNatClampNeg 1) = l2 → ((¬ (so (gi x b0_3) (l7 : Int32).toNatClampNeg 2) = l3 → (GI mX8_loadBut 6 [some (.ref b0), some (.int l1), some (.int l2), some (.int l3), some (.int l4), some (.int l5), some (.int l6), some (.int (l7 + 1))] [] K x Q)) ∧ ((so (gi x b0_3) (l7 : Int32).toNatClampNeg 2) = l3 → ((l4 ≤ 0 → ((¬ (f_has (bas (gi x b0_3) (l7 : Int32).toNatClampNeg) l1) → (GI mX8_loadBut 6 [some (.ref b0), some (.int l1), some (.int l2), some (.int l3), some (.int l4), some (.int l5), some (.int (l6 + 0)), some (.int (l7 + 1))] [] K x Q)) ∧ ((f_has (bas (gi x b0_3) (l7 : Int32).toNatClampNeg) l1) → (GI mX8_loadBut 6 [some (.ref b0), some (.int l1), some (.int l2), some (.int l3), some (.int l4), some (.int l5), some (.int (l6 + 1)), some (.int (l7 + 1))] [] K x Q)))) ∧ (¬ l4 ≤ 0 → (((so (gi x b0_3) (l7 : Int32).toNatClampNeg 3) = (l4 - 1) → ((¬ (f_has (bas (gi x b0_3) (l7 : Int32).toNatClampNeg) l1) → (GI mX8_loadBut 6 [some (.ref b0), some (.int l1), some (.int l2), some (.int l3), some (.int l4), some (.int l5), some (.int (l6 + 0)), some (.int (l7 + 1))] [] K x Q)) ∧ ((f_has (bas (gi x b0_3) (l7 : Int32).toNatClampNeg) l1) → (GI mX8_loadBut 6 [some (.ref b0), some (.int l1), some (.int l2), some (.int l3), some (.int l4), some (.int l5), some (.int (l6 + 1)), some (.int (l7 + 1))] [] K x Q)))) ∧ (¬ (so (gi x b0_3) (l7 : Int32).toNatClampNeg 3) = (l4 - 1) → (GI mX8_loadBut 6 [some (.ref b0), some (.int l1), some (.int l2), some (.int l3), some (.int l4), some (.int l5), some (.int l6), some (.int (l7 + 1))] [] K x Q))))))))))))))) : GI mX8_loadBut 6 [some (.ref b0), some (.int l1), some (.int l2), some (.int l3), some (.int l4), some (.int l5), some (.int l6), some (.int l7)] [] K x Q := by
  show mGM mX8_loadBut 6 [some (.ref b0), some (.int l1), some (.int l2), some (.int l3), some (.int l4), some (.int l5), some (.int l6), some (.int l7)] [] (hp K x) (PI K Q)
  refine r_iload (pc := 6) dX8_loadBut_6 rfl ?_
  refine r_aload_n (pc := 8) dX8_loadBut_8 rfl ?_
  refine s_getR (pc := 9) dX8_loadBut_9 fl_X8_16 rfl k_b0 g_b0_3 ?_
  refine r_iconst (pc := 12) (v := 2) dX8_loadBut_12 (by decide) ?_
  obtain ⟨i_1, K0⟩ := K0
  refine s_iald (pc := 13) dX8_loadBut_13 k_b0_3 i_1 ?_
  refine r_icmp_ge (pc := 14) (tgt := 97) dX8_loadBut_14 (by decide) (fun q => ?_) (fun q => ?_)
  · have K0 := K0.1 q
    refine r_iload (pc := 97) dX8_loadBut_97 rfl ?_
    exact s_iret rfl dX8_loadBut_99 K0
  · have K0 := K0.2 q
    refine r_iload (pc := 17) dX8_loadBut_17 rfl ?_
    refine r_iload (pc := 19) dX8_loadBut_19 rfl ?_
    refine r_icmp_eq (pc := 21) (tgt := 91) dX8_loadBut_21 (by decide) (fun q => ?_) (fun q => ?_)
    · have K0 := K0.1 q
      refine r_iinc (pc := 91) (v := l7 + 1) dX8_loadBut_91 rfl rfl (by decide) ?_
      refine r_goto (pc := 94) (L := [some (.ref b0), some (.int l1), some (.int l2), some (.int l3), some (.int l4), some (.int l5), some (.int l6), some (.int (l7 + 1))]) (tgt := 6) dX8_loadBut_94 (by decide) ?_
      exact r_le (L' := [some (.ref b0), some (.int l1), some (.int l2), some (.int l3), some (.int l4), some (.int l5), some (.int l6), some (.int (l7 + 1))]) ⟨rfl, ⟨rfl, ⟨rfl, ⟨rfl, ⟨rfl, ⟨rfl, ⟨rfl, ⟨rfl, trivial⟩⟩⟩⟩⟩⟩⟩⟩ K0
    · have K0 := K0.2 q
      refine r_aload_n (pc := 24) dX8_loadBut_24 rfl ?_
      refine r_iload (pc := 25) dX8_loadBut_25 rfl ?_
      refine r_iconst (pc := 27) (v := 1) dX8_loadBut_27 (by decide) ?_
      obtain ⟨p_4, K0⟩ := K0
      refine s_VI (pc := 28) mX8_one (ci := 8) (a := b0) (As := [.int l7, .int 1]) dX8_loadBut_28 lk_X8_67 in_X8_one mo_X8_one ⟨by decide, rfl⟩ ⟨by decide, by decide⟩ (Nat.le_of_ble_eq_true rfl) k_b0 (sr_X8_one k_b0 g_b0_3 k_b0_3 p_4 ⟨by decide, by decide⟩ ?_)
      refine r_iload_n (pc := 31) dX8_loadBut_31 rfl ?_
      refine r_icmp_ne (pc := 32) (tgt := 91) dX8_loadBut_32 (by decide) (fun q => ?_) (fun q => ?_)
      · have K0 := K0.1 q
        refine r_iinc (pc := 91) (v := l7 + 1) dX8_loadBut_91 rfl rfl (by decide) ?_
        refine r_goto (pc := 94) (L := [some (.ref b0), some (.int l1), some (.int l2), some (.int l3), some (.int l4), some (.int l5), some (.int l6), some (.int (l7 + 1))]) (tgt := 6) dX8_loadBut_94 (by decide) ?_
        exact r_le (L' := [some (.ref b0), some (.int l1), some (.int l2), some (.int l3), some (.int l4), some (.int l5), some (.int l6), some (.int (l7 + 1))]) ⟨rfl, ⟨rfl, ⟨rfl, ⟨rfl, ⟨rfl, ⟨rfl, ⟨rfl, ⟨rfl, trivial⟩⟩⟩⟩⟩⟩⟩⟩ K0
      · have K0 := K0.2 q
        refine r_aload_n (pc := 35) dX8_loadBut_35 rfl ?_
        refine r_iload (pc := 36) dX8_loadBut_36 rfl ?_
        refine r_iconst (pc := 38) (v := 2) dX8_loadBut_38 (by decide) ?_
        refine s_VI (pc := 39) mX8_one (ci := 8) (a := b0) (As := [.int l7, .int 2]) dX8_loadBut_39 lk_X8_67 in_X8_one mo_X8_one ⟨by decide, rfl⟩ ⟨by decide, by decide⟩ (Nat.le_of_ble_eq_true rfl) k_b0 (sr_X8_one k_b0 g_b0_3 k_b0_3 p_4 ⟨by decide, by decide⟩ ?_)
        refine r_iload_n (pc := 42) dX8_loadBut_42 rfl ?_
        refine r_icmp_ne (pc := 43) (tgt := 91) dX8_loadBut_43 (by decide) (fun q => ?_) (fun q => ?_)
        · have K0 := K0.1 q
          refine r_iinc (pc := 91) (v := l7 + 1) dX8_loadBut_91 rfl rfl (by decide) ?_
          refine r_goto (pc := 94) (L := [some (.ref b0), some (.int l1), some (.int l2), some (.int l3), some (.int l4), some (.int l5), some (.int l6), some (.int (l7 + 1))]) (tgt := 6) dX8_loadBut_94 (by decide) ?_
          exact r_le (L' := [some (.ref b0), some (.int l1), some (.int l2), some (.int l3), some (.int l4), some (.int l5), some (.int l6), some (.int (l7 + 1))]) ⟨rfl, ⟨rfl, ⟨rfl, ⟨rfl, ⟨rfl, ⟨rfl, ⟨rfl, ⟨rfl, trivial⟩⟩⟩⟩⟩⟩⟩⟩ K0
        · have K0 := K0.2 q
          refine r_iload (pc := 46) dX8_loadBut_46 rfl ?_
          refine r_if_le (pc := 48) (tgt := 68) dX8_loadBut_48 (by decide) (fun q => ?_) (fun q => ?_)
          · have K0 := K0.1 q
            refine r_iload (pc := 68) dX8_loadBut_68 rfl ?_
            refine r_aload_n (pc := 70) dX8_loadBut_70 rfl ?_
            refine r_iload (pc := 71) dX8_loadBut_71 rfl ?_
            refine s_VI (pc := 73) mX8_basisOf (ci := 8) (a := b0) (As := [.int l7]) dX8_loadBut_73 lk_X8_71 in_X8_basisOf mo_X8_basisOf ⟨by decide, rfl⟩ ⟨by decide, by decide⟩ (Nat.le_of_ble_eq_true rfl) k_b0 (sr_X8_basisOf k_b0 g_b0_3 k_b0_3 p_4 ?_)
            refine r_iload_n (pc := 76) dX8_loadBut_76 rfl ?_
            refine s_SI (pc := 77) mX8_has (As := [.int (bas (gi x b0_3) (l7 : Int32).toNatClampNeg), .int l1]) dX8_loadBut_77 lk_X8_75 st_X8_has mo_X8_has ⟨by decide, by decide⟩ (Nat.le_of_ble_eq_true rfl) (sp_X8_has  ?_)
            refine r_if_eq (pc := 80) (tgt := 87) dX8_loadBut_80 (by decide) (fun q => ?_) (fun q => ?_)
            · have q := (b2i_z _).mp q
              have K0 := K0.1 q
              refine r_iconst (pc := 87) (v := 0) dX8_loadBut_87 (by decide) ?_
              refine r_iadd (pc := 88) dX8_loadBut_88 ?_
              refine r_istore (pc := 89) dX8_loadBut_89 (by decide) ?_
              refine r_iinc (pc := 91) (L := [some (.ref b0), some (.int l1), some (.int l2), some (.int l3), some (.int l4), some (.int l5), some (.int (l6 + 0)), some (.int l7)]) (v := l7 + 1) dX8_loadBut_91 rfl rfl (by decide) ?_
              refine r_goto (pc := 94) (L := [some (.ref b0), some (.int l1), some (.int l2), some (.int l3), some (.int l4), some (.int l5), some (.int (l6 + 0)), some (.int (l7 + 1))]) (tgt := 6) dX8_loadBut_94 (by decide) ?_
              exact r_le (L' := [some (.ref b0), some (.int l1), some (.int l2), some (.int l3), some (.int l4), some (.int l5), some (.int (l6 + 0)), some (.int (l7 + 1))]) ⟨rfl, ⟨rfl, ⟨rfl, ⟨rfl, ⟨rfl, ⟨rfl, ⟨rfl, ⟨rfl, trivial⟩⟩⟩⟩⟩⟩⟩⟩ K0
            · have q := b2i_nz q
              have K0 := K0.2 q
              refine r_iconst (pc := 83) (v := 1) dX8_loadBut_83 (by decide) ?_
              refine r_goto (pc := 84) (tgt := 88) dX8_loadBut_84 (by decide) ?_
              refine r_iadd (pc := 88) dX8_loadBut_88 ?_
              refine r_istore (pc := 89) dX8_loadBut_89 (by decide) ?_
              refine r_iinc (pc := 91) (L := [some (.ref b0), some (.int l1), some (.int l2), some (.int l3), some (.int l4), some (.int l5), some (.int (l6 + 1)), some (.int l7)]) (v := l7 + 1) dX8_loadBut_91 rfl rfl (by decide) ?_
              refine r_goto (pc := 94) (L := [some (.ref b0), some (.int l1), some (.int l2), some (.int l3), some (.int l4), some (.int l5), some (.int (l6 + 1)), some (.int (l7 + 1))]) (tgt := 6) dX8_loadBut_94 (by decide) ?_
              exact r_le (L' := [some (.ref b0), some (.int l1), some (.int l2), some (.int l3), some (.int l4), some (.int l5), some (.int (l6 + 1)), some (.int (l7 + 1))]) ⟨rfl, ⟨rfl, ⟨rfl, ⟨rfl, ⟨rfl, ⟨rfl, ⟨rfl, ⟨rfl, trivial⟩⟩⟩⟩⟩⟩⟩⟩ K0
          · have K0 := K0.2 q
            refine r_aload_n (pc := 51) dX8_loadBut_51 rfl ?_
            refine r_iload (pc := 52) dX8_loadBut_52 rfl ?_
            refine r_iconst (pc := 54) (v := 3) dX8_loadBut_54 (by decide) ?_
            refine s_VI (pc := 55) mX8_one (ci := 8) (a := b0) (As := [.int l7, .int 3]) dX8_loadBut_55 lk_X8_67 in_X8_one mo_X8_one ⟨by decide, rfl⟩ ⟨by decide, by decide⟩ (Nat.le_of_ble_eq_true rfl) k_b0 (sr_X8_one k_b0 g_b0_3 k_b0_3 p_4 ⟨by decide, by decide⟩ ?_)
            refine r_iload (pc := 58) dX8_loadBut_58 rfl ?_
            refine r_iconst (pc := 60) (v := 1) dX8_loadBut_60 (by decide) ?_
            refine r_isub (pc := 61) dX8_loadBut_61 ?_
            refine r_icmp_eq (pc := 62) (tgt := 68) dX8_loadBut_62 (by decide) (fun q => ?_) (fun q => ?_)
            · have K0 := K0.1 q
              refine r_iload (pc := 68) dX8_loadBut_68 rfl ?_
              refine r_aload_n (pc := 70) dX8_loadBut_70 rfl ?_
              refine r_iload (pc := 71) dX8_loadBut_71 rfl ?_
              refine s_VI (pc := 73) mX8_basisOf (ci := 8) (a := b0) (As := [.int l7]) dX8_loadBut_73 lk_X8_71 in_X8_basisOf mo_X8_basisOf ⟨by decide, rfl⟩ ⟨by decide, by decide⟩ (Nat.le_of_ble_eq_true rfl) k_b0 (sr_X8_basisOf k_b0 g_b0_3 k_b0_3 p_4 ?_)
              refine r_iload_n (pc := 76) dX8_loadBut_76 rfl ?_
              refine s_SI (pc := 77) mX8_has (As := [.int (bas (gi x b0_3) (l7 : Int32).toNatClampNeg), .int l1]) dX8_loadBut_77 lk_X8_75 st_X8_has mo_X8_has ⟨by decide, by decide⟩ (Nat.le_of_ble_eq_true rfl) (sp_X8_has  ?_)
              refine r_if_eq (pc := 80) (tgt := 87) dX8_loadBut_80 (by decide) (fun q => ?_) (fun q => ?_)
              · have q := (b2i_z _).mp q
                have K0 := K0.1 q
                refine r_iconst (pc := 87) (v := 0) dX8_loadBut_87 (by decide) ?_
                refine r_iadd (pc := 88) dX8_loadBut_88 ?_
                refine r_istore (pc := 89) dX8_loadBut_89 (by decide) ?_
                refine r_iinc (pc := 91) (L := [some (.ref b0), some (.int l1), some (.int l2), some (.int l3), some (.int l4), some (.int l5), some (.int (l6 + 0)), some (.int l7)]) (v := l7 + 1) dX8_loadBut_91 rfl rfl (by decide) ?_
                refine r_goto (pc := 94) (L := [some (.ref b0), some (.int l1), some (.int l2), some (.int l3), some (.int l4), some (.int l5), some (.int (l6 + 0)), some (.int (l7 + 1))]) (tgt := 6) dX8_loadBut_94 (by decide) ?_
                exact r_le (L' := [some (.ref b0), some (.int l1), some (.int l2), some (.int l3), some (.int l4), some (.int l5), some (.int (l6 + 0)), some (.int (l7 + 1))]) ⟨rfl, ⟨rfl, ⟨rfl, ⟨rfl, ⟨rfl, ⟨rfl, ⟨rfl, ⟨rfl, trivial⟩⟩⟩⟩⟩⟩⟩⟩ K0
              · have q := b2i_nz q
                have K0 := K0.2 q
                refine r_iconst (pc := 83) (v := 1) dX8_loadBut_83 (by decide) ?_
                refine r_goto (pc := 84) (tgt := 88) dX8_loadBut_84 (by decide) ?_
                refine r_iadd (pc := 88) dX8_loadBut_88 ?_
                refine r_istore (pc := 89) dX8_loadBut_89 (by decide) ?_
                refine r_iinc (pc := 91) (L := [some (.ref b0), some (.int l1), some (.int l2), some (.int l3), some (.int l4), some (.int l5), some (.int (l6 + 1)), some (.int l7)]) (v := l7 + 1) dX8_loadBut_91 rfl rfl (by decide) ?_
                refine r_goto (pc := 94) (L := [some (.ref b0), some (.int l1), some (.int l2), some (.int l3), some (.int l4), some (.int l5), some (.int (l6 + 1)), some (.int (l7 + 1))]) (tgt := 6) dX8_loadBut_94 (by decide) ?_
                exact r_le (L' := [some (.ref b0), some (.int l1), some (.int l2), some (.int l3), some (.int l4), some (.int l5), some (.int (l6 + 1)), some (.int (l7 + 1))]) ⟨rfl, ⟨rfl, ⟨rfl, ⟨rfl, ⟨rfl, ⟨rfl, ⟨rfl, ⟨rfl, trivial⟩⟩⟩⟩⟩⟩⟩⟩ K0
            · have K0 := K0.2 q
              refine r_goto (pc := 65) (tgt := 91) dX8_loadBut_65 (by decide) ?_
              refine r_iinc (pc := 91) (v := l7 + 1) dX8_loadBut_91 rfl rfl (by decide) ?_
              refine r_goto (pc := 94) (L := [some (.ref b0), some (.int l1), some (.int l2), some (.int l3), some (.int l4), some (.int l5), some (.int l6), some (.int (l7 + 1))]) (tgt := 6) dX8_loadBut_94 (by decide) ?_
              exact r_le (L' := [some (.ref b0), some (.int l1), some (.int l2), some (.int l3), some (.int l4), some (.int l5), some (.int l6), some (.int (l7 + 1))]) ⟨rfl, ⟨rfl, ⟨rfl, ⟨rfl, ⟨rfl, ⟨rfl, ⟨rfl, ⟨rfl, trivial⟩⟩⟩⟩⟩⟩⟩⟩ K0
section
variable {x : Cn} {Q : Int32 → Cn → Prop} {q : Nat} {T : TT} {W C S A N : Nat}
theorem lp_X8_loadBut {t : Nat} (M : MRf x t) (ht : kk KW t = some (20, 518)) (hS : gi x t 2 = nI S) (h24 : S ≤ 24) {w : Nat} {d h kd b : Int32} (hw : w < 32) (k : Q (ldB (gi x t) S w d h kd b) x) : ∀ (n s : Nat) (acc : Int32), s + n = S → acc = ldB (gi x t) s w d h kd b → GI mX8_loadBut 6 [some (.ref 717), some (.int (nI w)), some (.int d), some (.int h), some (.int kd), some (.int b), some (.int acc), some (.int (nI s))] [] KW x Q := by
  intro n
  induction n with
  | zero =>
    intro s acc hs ha
    refine v_X8_loadBut_6 km M.2.2.1 ht ⟨iv0 2 518 (by decide) (by decide) (by decide), fun _ => ?_, fun z => ?_⟩
    · rw [ha, show s = S by omega]
      exact k
    · exact absurd (by rw [hS]; exact nI_le (by omega) (by omega)) z
  | succ n ih =>
    intro s acc hs ha
    have next0 : ¬ cB (gi x t) s w d h kd b → GI mX8_loadBut 6 [some (.ref 717), some (.int (nI w)), some (.int d), some (.int h), some (.int kd), some (.int b), some (.int acc), some (.int (nI s + 1))] [] KW x Q := by
      intro z
      rw [nI_1]
      refine ih (s + 1) acc (by omega) ?_
      rw [ldB_f z]
      exact ha
    have next1 : cB (gi x t) s w d h kd b → GI mX8_loadBut 6 [some (.ref 717), some (.int (nI w)), some (.int d), some (.int h), some (.int kd), some (.int b), some (.int (acc + 1)), some (.int (nI s + 1))] [] KW x Q := by
      intro z
      rw [nI_1]
      refine ih (s + 1) (acc + 1) (by omega) ?_
      rw [ldB_t z, ha]
    refine v_X8_loadBut_6 km M.2.2.1 ht ⟨iv0 2 518 (by decide) (by decide) (by decide), fun z => ?_, fun _ => ?_⟩
    · rw [hS] at z
      exact absurd z (nI_ge (by omega) (by omega))
    · rw [nI_clamp (show s < 2 ^ 31 by omega), f_has_tb _ hw, Int32.add_zero]
      refine ⟨fun z => next0 (fun g => g.1 z), fun z1 => ⟨l24_nI (by omega) rfl, fun z => next0 (fun g => z g.2.1), fun z2 => ⟨fun z => next0 (fun g => z g.2.2.1), fun z3 => ⟨fun z4 => ⟨fun z => next0 (fun g => z g.2.2.2.2), fun z => next1 ⟨z1, z2, z3, Or.inl z4, z⟩⟩, fun z4 => ⟨fun z5 => ⟨fun z => next0 (fun g => z g.2.2.2.2), fun z => next1 ⟨z1, z2, z3, Or.inr z5, z⟩⟩, fun z5 => next0 (fun g => g.2.2.2.1.elim z4 z5)⟩⟩⟩⟩⟩
theorem sp_X8_loadBut {t : Nat} (M : MRf x t) (ht : kk KW t = some (20, 518)) (hS : gi x t 2 = nI S) (h24 : S ≤ 24) {w : Nat} {d h kd b : Int32} (hw : w < 32) (k : Q (ldB (gi x t) S w d h kd b) x) : mSI mX8_loadBut [.ref 717, .int (nI w), .int d, .int h, .int kd, .int b] KW x Q := v_X8_loadBut_0 (lp_X8_loadBut M ht hS h24 hw k S 0 0 (by omega) rfl)
end
end
/-! 26.alloc.lean.txt -/
section
/-! making cells -/
def nw (h : HP) (q : Nat × Nat) : HP := (h.1 + 1, fun a => if a = h.1 then q else h.2.1 a, fun a k => if a = h.1 then 0 else h.2.2.1 a k, fun a k => if a = h.1 then none else h.2.2.2 a k)
def WFh (h : HP) : Prop := ∀ a k b, rR h a k = some b → b < h.1
def adN {α : Type} (ad : Nat → α) (n : Nat) (q : α) : Nat → α := fun a => if a = n then q else ad a
theorem adN_s {α : Type} (ad : Nat → α) (n : Nat) (q : α) : adN ad n q n = q := if_pos rfl
theorem adN_n {α : Type} (ad : Nat → α) {n a : Nat} (q : α) (h : a ≠ n) : adN ad n q a = ad a := if_neg h
theorem kd_nw (h : HP) (q : Nat × Nat) : kd (nw h q) h.1 = some q := by
  unfold kd
  rw [if_pos (show h.1 < (nw h q).1 from Nat.lt_succ_self _)]
  exact congrArg some (if_pos rfl)
def FF : MP := fun _ _ => False
theorem mEnt_nw {ad ad' : Nat → Nat} {ca ca' : Nat → ClassId} {h : HP} {q : Nat × Nat} {a : Nat} (hw : WFh h) (ha : a < h.1) (e : ∀ a, a ≠ h.1 → ad' a = ad a) (ec : ca' a = ca a) : mEnt ad' ca' (nw h q) a = mEnt ad ca h a := by
  have hne : ¬ a = h.1 := by omega
  have e1 : (nw h q).2.1 a = h.2.1 a := if_neg hne
  have e2 : rI (nw h q) a = rI h a := by funext k; exact if_neg hne
  have e3 : ∀ k, (rR (nw h q) a k).map ad' = (rR h a k).map ad := by
    intro k
    have : rR (nw h q) a k = rR h a k := if_neg hne
    rw [this]
    cases hb : rR h a k with
    | none => rfl
    | some b =>
      have := hw a k b hb
      show some (ad' b) = some (ad b)
      rw [e b (by omega)]
  have e4 : ∀ ci, mfv ad' (nw h q) ci a = mfv ad h ci a := by
    intro ci
    funext k
    unfold mfv
    rw [e2, e3]
  unfold mEnt
  rw [e1, e2, e4, ec]
  congr 1
  congr 1
  congr 7
  funext k
  exact e3 k
theorem mWl_nw {ad ad' : Nat → Nat} {ca ca' : Nat → ClassId} {h : HP} {q : Nat × Nat} (hw : WFh h) (e : ∀ a, a ≠ h.1 → ad' a = ad a) (ec : ∀ a, a ≠ h.1 → ca' a = ca a) : mWl ad' ca' (nw h q) = mWl ad ca h ++ [(ad' h.1, mEnt ad' ca' (nw h q) h.1)] := by
  unfold mWl
  show (List.range (h.1 + 1)).map _ = _
  rw [List.range_succ, List.map_append]
  congr 1
  apply List.map_congr_left
  intro a ha
  have ha := List.mem_range.mp ha
  rw [e a (by omega), mEnt_nw hw ha e (ec a (by omega))]
theorem mcv_ad {ad ad' : Nat → Nat} {v : Value} (h : ∀ b, v = .ref b → ad' b = ad b) : mcv ad' v = mcv ad v := by
  cases v with
  | ref b => show Value.ref _ = Value.ref _; rw [h b rfl]
  | _ => rfl
theorem mLoc.ad {ad ad' : Nat → Nat} {nL : Nat} {L : List (Option Value)} {ls : Array Slot} (h : mLoc ad nL L ls) (e : ∀ b, some (.ref b) ∈ L → ad' b = ad b) : mLoc ad' nL L ls := by
  refine ⟨⟨h.1.1, h.1.2.1, fun q hq => ?_⟩, h.2⟩
  obtain ⟨v, hv, eq⟩ := mAsc_of hq
  obtain ⟨i, w⟩ := q
  subst eq
  rw [mcv_ad (fun b hb => e b (by subst hb; exact List.mem_of_getElem? hv))]
  exact h.at hv
theorem mSt_ad {ad ad' : Nat → Nat} {st : List Value} (e : ∀ b, Value.ref b ∈ st → ad' b = ad b) : st.map (mcv ad') = st.map (mcv ad) := by
  apply List.map_congr_left
  intro v hv
  exact mcv_ad (fun b hb => e b (by subst hb; exact hv))
theorem mCx_ad {B : BT} {c c' : Nat × Nat} {ad ad' : Nat → Nat} {M : MR} {P : MP} (X : mCx B c ad M P) (hc : c'.1 ≤ B.2.2.2.1.cells ∧ c'.2 ≤ B.2.2.2.1.slots) (e : ∀ a, mSB ≤ a → ad' a = ad a) : mCx B c' ad' M FF := by
  obtain ⟨p, l, e0, R, s, m, args, below, meth, cd, Q, D, A⟩ := B
  obtain ⟨x1, x2, x3, x4, x5, x6, x7, ⟨x8, x9, x10, x11⟩, x12, x13, -⟩ := X
  exact ⟨x1, x2, x3, x4, x5, x6, x7, ⟨x8, x9, hc.1, hc.2⟩, x12.ad e, x13, fun _ _ _ _ _ _ z => absurd z (fun z => z)⟩
section MAL
variable {B : BT} {c : Nat × Nat} {ad : Nat → Nat} {M : MR} {P : MP} {pc : Nat} {L : List (Option Value)} {st : List Value} {h : HP}
theorem g_new {ci i : Nat} (X : mCx B c ad M P) (d : decode M.2.1 pc = .ok (.new i, 3)) (hl : Cond.classLink M.1.cls i (mCn ci) ∈ mTb) (hi : Cond.instantiable (mCn ci) (mNF ci) ∈ mTb) (hn : Cond.initialized (mCn ci) ∈ mTb) (hci : ci < 9) (hw : WFh h) (hsb : h.1 < mSB) (hL : ∀ b, some (.ref b) ∈ L → b ≠ h.1) (hS : ∀ b, Value.ref b ∈ st → b ≠ h.1) (hc : c.1 + 1 ≤ B.2.2.2.1.cells ∧ c.2 + mNF ci ≤ B.2.2.2.1.slots)
    (k : ∀ ad', (∀ a, a ≠ h.1 → ad' a = ad a) → mG B (c.1 + 1, c.2 + mNF ci) ad' M.2.2.1 (pc + 3) L (.ref h.1 :: st) (nw h (ci, 0))) : mG B c ad M.2.2.1 pc L st h := by
  obtain ⟨p, l, e0, R, s, m, args, below, meth, cd, Q, D, A⟩ := B
  intro H locs ls h1 h2 h3
  obtain ⟨x1, x2, x3, x4, x5, x6, x7, ⟨x8, x9, x10, x11⟩, x12, x13, -⟩ := X
  obtain ⟨ca, hP, hD, hT⟩ := h1
  have hfs : ∀ j, j < mNF ci → defaultValue (mTy ci j) = vp_V ((List.range (mNF ci)).map (mfv ad (nw h (ci, 0)) ci h.1)) j := by
    intro j hj
    have e1 : rI (nw h (ci, 0)) h.1 j = 0 := if_pos rfl
    have e2 : rR (nw h (ci, 0)) h.1 j = none := if_pos rfl
    unfold vp_V
    rw [List.getD_eq_getElem?_getD, mfs_at hj]
    show _ = mfv ad (nw h (ci, 0)) ci h.1 j
    unfold mfv
    rw [e1, e2]
    have hty : ∀ ci, ci < 9 → ∀ j, j < mNF ci → defaultValue (mTy ci j) = if mIs (mTy ci j) = true then .int 0 else va_rf none := by decide +kernel
    exact hty ci hci j hj
  refine va_new (cl := vwCl) (ci := ci) (fs := (List.range (mNF ci)).map (mfv ad (nw h (ci, 0)) ci h.1)) x1 x2 x5 (mIn hci) (mTy ci) (mTyOk hci) x4 (x5 _ hl) (x5 _ hi) (x5 _ hn) x6 hP hD h2 x7 (mCl_at hci) hfs hc.1 hc.2 d (fun q H1 q1 q2 q3 => ?_)
  have ead : ∀ a, a ≠ h.1 → (adN ad h.1 q) a = ad a := fun a ha => adN_n _ _ ha
  have k1 := k (adN ad h.1 q) ead
  have hent : mEnt (adN ad h.1 q) ca (nw h (ci, 0)) h.1 = .inr (ci, (List.range (mNF ci)).map (mfv ad (nw h (ci, 0)) ci h.1)) := by
    have hkd := kd_nw h (ci, 0)
    rw [mEnt_obj hkd hci]
    congr 3
    funext j
    unfold mfv
    rw [show rR (nw h (ci, 0)) h.1 j = none from if_pos rfl]
    rfl
  have hWl := mWl_nw (ad := ad) (ad' := adN ad h.1 q) (ca := ca) (ca' := ca) (q := (ci, 0)) hw ead (fun _ _ => rfl)
  rw [hent, adN_s] at hWl
  rw [← hWl] at q1 q2
  have := k1 H1 locs ls ⟨ca, q1, q2, fun a ha h9 => ?_⟩ q3 (h3.ad (fun b hb => ead b (hL b hb)))
  · rw [List.map_cons, mSt_ad (fun b hb => ead b (hS b hb)), show mcv (adN ad h.1 q) (.ref h.1) = .ref q by show Value.ref _ = _; rw [adN_s]] at this
    exact this
  · have ha : a < h.1 + 1 := ha
    by_cases hq : a = h.1
    · have : (nw h (ci, 0)).2.1 a = (ci, 0) := if_pos hq
      rw [this] at h9
      exact absurd h9 (by show ¬ 9 ≤ ci; omega)
    · have e9 : (nw h (ci, 0)).2.1 a = h.2.1 a := if_neg hq
      rw [e9] at h9 ⊢
      exact hT a (by omega) h9
theorem mRep_arr {D : va_G} {A : Nat → Prop} {s : State} {ca : Nat → ClassId} {H1 : Heap} {q cA kn N : Nat} {a0 : vp_A} (hw : WFh h) (hT : ∀ a, a < h.1 → 9 ≤ (h.2.1 a).1 → ArrOfT s (ca a) (mAty (h.2.1 a).1) ∧ va_RA s (ca a) (mAty (h.2.1 a).1)) (hk : ¬ kn < 9) (ha : (kn < 22 ∧ a0 = (N, .inl (fun _ => 0))) ∨ (¬ kn < 22 ∧ a0 = (N, .inr (.inr (.inr (.inr (fun _ => none))))))) (hA : ArrOfT s cA (mAty kn) ∧ va_RA s cA (mAty kn)) (q1 : va_P D vwCl (mWl ad ca h ++ [(q, .inl (cA, a0))]) H1) (q2 : va_D A (mWl ad ca h ++ [(q, .inl (cA, a0))])) : mRep D A s (adN ad h.1 q) (nw h (kn, N)) H1 := by
  have ead : ∀ a, a ≠ h.1 → (adN ad h.1 q) a = ad a := fun a ha => adN_n _ _ ha
  have hkd := kd_nw h (kn, N)
  have hWl := mWl_nw (ad := ad) (ad' := adN ad h.1 q) (ca := ca) (ca' := adN ca h.1 cA) (q := (kn, N)) hw ead (fun a ha => adN_n _ _ ha)
  have hent : mEnt (adN ad h.1 q) (adN ca h.1 cA) (nw h (kn, N)) h.1 = .inl (cA, a0) := by
    rcases ha with ⟨h22, rfl⟩ | ⟨h22, rfl⟩
    · rw [mEnt_int hkd hk h22, adN_s]
      congr 4
      funext k
      exact if_pos rfl
    · rw [mEnt_ref hkd h22, adN_s]
      congr 7
      funext k
      rw [show rR (nw h (kn, N)) h.1 k = none from if_pos rfl]
      rfl
  rw [hent, adN_s] at hWl
  refine ⟨adN ca h.1 cA, by rw [hWl]; exact q1, by rw [hWl]; exact q2, fun a ha h9 => ?_⟩
  have ha : a < h.1 + 1 := ha
  by_cases hq : a = h.1
  · have e9 : (nw h (kn, N)).2.1 a = (kn, N) := if_pos hq
    rw [e9, show adN ca h.1 cA a = cA from if_pos hq]
    exact hA
  · have e9 : (nw h (kn, N)).2.1 a = h.2.1 a := if_neg hq
    rw [e9] at h9 ⊢
    rw [show adN ca h.1 cA a = ca a from if_neg hq]
    exact hT a (by omega) h9
theorem va_K_last {D : va_G} {s : State} {cA : ClassId} {ty : FieldType} (hK : va_K D vwCl ([] ++ [(cA, ty)]) s) : ArrOfT s cA ty ∧ va_RA s cA ty := hK.2 0 (cA, ty) rfl
theorem g_newa {at9 : ArrayType} {kn N : Nat} {v : Int32} (X : mCx B c ad M P) (d : decode M.2.1 pc = .ok (.newarray at9, 2)) (hat : (at9 = .int ∧ kn = 20) ∨ (at9 = .byte ∧ kn = 21)) (hwd : Cond.arrayClass (newarray.typeOf at9) ∈ mTb) (hv : v = nI N) (hN : N ≤ 100000) (hw : WFh h) (hsb : h.1 < mSB) (hL : ∀ b, some (.ref b) ∈ L → b ≠ h.1) (hS : ∀ b, Value.ref b ∈ st → b ≠ h.1) (hc : c.1 + 1 ≤ B.2.2.2.1.cells ∧ c.2 + N ≤ B.2.2.2.1.slots)
    (k : ∀ ad', (∀ a, a ≠ h.1 → ad' a = ad a) → mG B (c.1 + 1, c.2 + N) ad' M.2.2.1 (pc + 2) L (.ref h.1 :: st) (nw h (kn, N))) : mG B c ad M.2.2.1 pc L (.int v :: st) h := by
  obtain ⟨p, l, e0, R, s, m, args, below, meth, cd, Q, D, A⟩ := B
  intro H locs ls h1 h2 h3
  obtain ⟨x1, x2, x3, x4, x5, x6, x7, ⟨x8, x9, x10, x11⟩, x12, x13, -⟩ := X
  obtain ⟨ca, hP, hD, hT⟩ := h1
  have ead : ∀ q, ∀ a, a ≠ h.1 → (adN ad h.1 q) a = ad a := fun q a ha => adN_n _ _ ha
  have fin : ∀ (q : Nat) (cA : ClassId) (H1 : Heap) (a0 : vp_A), a0 = (N, .inl (fun _ => 0)) → ¬ kn < 9 → kn < 22 → ArrOfT s cA (mAty kn) ∧ va_RA s cA (mAty kn) → va_P D vwCl (mWl ad ca h ++ [(q, .inl (cA, a0))]) H1 → va_D A (mWl ad ca h ++ [(q, .inl (cA, a0))]) → va_S A s.heap H1 locs → W p l e0 R s m args below meth cd H1 locs (c.1 + 1) (c.2 + N) Q (F0 m (pc + 2) ls (.ref q :: st.map (mcv ad))) := by
    intro q cA H1 a0 ea h9 h22 hA q1 q2 q3
    have := k (adN ad h.1 q) (ead q) H1 locs ls (mRep_arr hw hT h9 (Or.inl ⟨h22, ea⟩) hA q1 q2) q3 (h3.ad (fun b hb => ead q b (hL b hb)))
    rw [List.map_cons, mSt_ad (fun b hb => ead q b (hS b hb)), show mcv (adN ad h.1 q) (.ref h.1) = .ref q by show Value.ref _ = _; rw [adN_s]] at this
    exact this
  subst hv
  rcases hat with ⟨rfl, rfl⟩ | ⟨rfl, rfl⟩
  · exact va_newa (atype := .int) (ty := .int) (N' := N) (a0 := (N, .inl (fun _ => 0))) x1 x2 (x5 _ hwd) rfl x6 hP hD h2 x7 (fun cA => rfl) (nI_pos (by omega)) (nI_clamp (by omega)) (by show N * 4 ≤ _; omega) hc.1 hc.2 d (fun q cA H1 q0 q1 q2 q3 => fin q cA H1 _ rfl (by decide) (by decide) (va_K_last q0) q1 q2 q3)
  · exact va_newa (atype := .byte) (ty := .byte) (N' := N) (a0 := (N, .inl (fun _ => 0))) x1 x2 (x5 _ hwd) rfl x6 hP hD h2 x7 (fun cA => rfl) (nI_pos (by omega)) (nI_clamp (by omega)) (by show N * 1 ≤ _; omega) hc.1 hc.2 d (fun q cA H1 q0 q1 q2 q3 => fin q cA H1 _ rfl (by decide) (by decide) (va_K_last q0) q1 q2 q3)
theorem g_anew {C : String} {kn N i : Nat} {v : Int32} (X : mCx B c ad M P) (d : decode M.2.1 pc = .ok (.anewarray i, 3)) (hl : Cond.classLink M.1.cls i C ∈ mTb) (hC : (C = RX4 ∧ kn = 22) ∨ (C = RX5 ∧ kn = 23) ∨ (C = RX0 ∧ kn = 24)) (hv : v = nI N) (hN : N ≤ 100000) (hw : WFh h) (hsb : h.1 < mSB) (hL : ∀ b, some (.ref b) ∈ L → b ≠ h.1) (hS : ∀ b, Value.ref b ∈ st → b ≠ h.1) (hc : c.1 + 1 ≤ B.2.2.2.1.cells ∧ c.2 + N ≤ B.2.2.2.1.slots)
    (k : ∀ ad', (∀ a, a ≠ h.1 → ad' a = ad a) → mG B (c.1 + 1, c.2 + N) ad' M.2.2.1 (pc + 3) L (.ref h.1 :: st) (nw h (kn, N))) : mG B c ad M.2.2.1 pc L (.int v :: st) h := by
  obtain ⟨p, l, e0, R, s, m, args, below, meth, cd, Q, D, A⟩ := B
  intro H locs ls h1 h2 h3
  obtain ⟨x1, x2, x3, x4, x5, x6, x7, ⟨x8, x9, x10, x11⟩, x12, x13, -⟩ := X
  obtain ⟨ca, hP, hD, hT⟩ := h1
  have ead : ∀ q, ∀ a, a ≠ h.1 → (adN ad h.1 q) a = ad a := fun q a ha => adN_n _ _ ha
  have hao : va_AO C s := by
    rcases hC with ⟨rfl, -⟩ | ⟨rfl, -⟩ | ⟨rfl, -⟩
    · exact x12.2.2.2.2.1
    · exact x12.2.2.2.2.2.1
    · exact x12.2.2.2.2.2.2
  have hty : ¬ kn < 22 ∧ mAty kn = .object C := by
    rcases hC with ⟨rfl, rfl⟩ | ⟨rfl, rfl⟩ | ⟨rfl, rfl⟩ <;> exact ⟨by decide, rfl⟩
  subst hv
  refine va_newq (N' := N) x1 x2 x4 (x5 _ hl) hao x6 hP hD h2 x7 (nI_pos (by omega)) (nI_clamp (by omega)) (by omega) hc.1 hc.2 d (fun q cA H1 q0 q1 q2 q3 => ?_)
  have := k (adN ad h.1 q) (ead q) H1 locs ls (mRep_arr (N := N) hw hT (by omega) (Or.inr ⟨hty.1, rfl⟩) (by rw [hty.2]; exact va_K_last q0) q1 q2) q3 (h3.ad (fun b hb => ead q b (hL b hb)))
  rw [List.map_cons, mSt_ad (fun b hb => ead q b (hS b hb)), show mcv (adN ad h.1 q) (.ref h.1) = .ref q by show Value.ref _ = _; rw [adN_s]] at this
  exact this
theorem g_objInit {i a : Nat} (X : mCx B c ad M P) (d : decode M.2.1 pc = .ok (.invokespecial i, 3)) (hl : Cond.methodLink M.1.cls i objectInit ∈ mTb) (hi : Cond.instanceMethod objectInit ∈ mTb) (hcd : Cond.code objectInit ⟨#[0xb1]⟩ 1 none ∈ mTb) (hR : 1 ≤ M.2.2.2.2.1 ∧ 21 ≤ M.2.2.2.2.2) (hst : (st.map fun v => v.category).sum ≤ 8) (k : mG B c ad M.2.2.1 (pc + 3) L st h) : mG B c ad M.2.2.1 pc L (.ref a :: st) h := by
  obtain ⟨p, l, e0, R, s, m, args, below, meth, cd, Q, D, A⟩ := B
  intro H locs ls h1 h2 h3
  obtain ⟨x1, x2, x3, x4, x5, x6, x7, ⟨x8, x9, x10, x11⟩, x12, x13, -⟩ := X
  refine W.objInit x1 x2 x4 (x5 _ hl) (x5 _ hi) (x5 _ hcd) rfl (h3.1.1.trans x3.symm) (a := ad a) (rest := st.map (mcv ad)) rfl d (Nat.le_trans hR.1 x8) ?_ (k H locs ls h1 h2 h3)
  show 2 * 0 + _ + 12 ≤ R.locals
  rw [mCats]
  have : 21 ≤ R.locals := Nat.le_trans hR.2 x9
  omega
end MAL
end

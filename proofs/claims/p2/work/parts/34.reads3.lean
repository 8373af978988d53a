theorem SEA.cw {x : Cn} {q : Nat} {T : TT} {W C S A N : Nat} (E : SEA x q T W C S A N) (h : 0 < C) : 0 < W := by
  rcases E.2.2.2.2.1 with z | z <;> omega
theorem ldB_3 {T : TT} {w : Nat} {d h b : Int32} : ∀ S, (∀ s, s < S → so T s 3 = 0 ∨ so T s 3 = 1) → ldB T S w d h 0 b = ldB T S w d h 2 b + ldB T S w d h 1 b := by
  intro S
  induction S with
  | zero => intro _; rfl
  | succ S ih =>
    intro g
    have i := ih (fun s hs => g s (by omega))
    have k1 : (∀ k : Int32, (k ≤ 0 ∨ so T S 3 = k - 1) → cB T S w d h 0 b → cB T S w d h k b) := fun k hk z => ⟨z.1, z.2.1, z.2.2.1, hk, z.2.2.2.2⟩
    have k2 : ∀ k : Int32, cB T S w d h k b → cB T S w d h 0 b := fun k z => ⟨z.1, z.2.1, z.2.2.1, Or.inl (by decide), z.2.2.2.2⟩
    by_cases c0 : cB T S w d h 0 b
    · rw [ldB_t c0]
      rcases g S (by omega) with g3 | g3
      · rw [ldB_t (k1 1 (Or.inr (by rw [g3]; rfl)) c0), ldB_f (fun z => by rcases z.2.2.2.1 with u | u; exact absurd u (by decide); rw [g3] at u; exact absurd u (by decide)), i, Int32.add_assoc]
      · rw [ldB_t (k1 2 (Or.inr (by rw [g3]; rfl)) c0), ldB_f (fun z => by rcases z.2.2.2.1 with u | u; exact absurd u (by decide); rw [g3] at u; exact absurd u (by decide)), i]
        rw [Int32.add_assoc, Int32.add_assoc, Int32.add_comm (ldB T S w d h 1 b)]
    · rw [ldB_f c0, ldB_f (fun z => c0 (k2 2 z)), ldB_f (fun z => c0 (k2 1 z)), i]
theorem mm0 (p : Int32) : (if 0 < p then p else 0) = (if p < 0 then 0 else p) := by
  by_cases h : 0 < p
  · rw [if_pos h, if_neg (Int32.not_lt.mpr (Int32.le_of_lt h))]
  · rw [if_neg h]
    by_cases g : p < 0
    · rw [if_pos g]
    · rw [if_neg g]
      exact Int32.le_antisymm (Int32.not_lt.mp g) (Int32.not_lt.mp h)
abbrev cAt (T : TT) (w : Nat) (d h : Int32) (s : Nat) : Prop := so T s 1 = d ∧ so T s 2 = h ∧ tb (bas T s) w = true
def stAt (T : TT) (w : Nat) (d h : Int32) : Nat → Int32 → Int32 ⊕ Int32 := fun s l => if cAt T w d h s then (if l = 0 then .inr (nI s) else .inl (l + (-1))) else .inl l
set_option maxHeartbeats 2000000 in
theorem v_X7_load_0 {K : Sh} {x : Cn} {Q : Int32 → Cn → Prop} {b0 : Nat} {l1 : Int32} {l2 : Int32} {l3 : Int32} {l4 : Int32} {b0_2 : Nat} (k_b0 : kk K b0 = some (7, 0)) (g_b0_2 : gr x b0 2 = some b0_2) (k_b0_2 : kk K b0_2 = some (4, 0)) (K0 : (¬ (0 ≤ l1 ∧ l1 < gi x b0_2 0 ∧ 0 < gi x b0_2 0 ∧ 0 ≤ l2 ∧ l2 < 7 ∧ 0 ≤ l3 ∧ l3 < 24) → (Q (-2) x)) ∧ ((0 ≤ l1 ∧ l1 < gi x b0_2 0 ∧ 0 < gi x b0_2 0 ∧ 0 ≤ l2 ∧ l2 < 7 ∧ 0 ≤ l3 ∧ l3 < 24) → (((0 ≤ l4 ∧ l4 ≤ 2) → ((¬ l4 = 0 → (mSI mX4_loadIn [.ref b0_2, .int l1, .int l2, .int l3] K x (fun r_5 y_4 => (¬ l4 = 1 → (gr y_4 b0 2 = some b0_2 ∧ (mSI mX4_loadOf [.ref b0_2, .int l1, .int l2, .int l3] K y_4 (fun r_9 y_8 => Q (r_9 - r_5) y_8)))) ∧ (l4 = 1 → (Q r_5 y_4))))) ∧ (l4 = 0 → (mSI mX4_loadOf [.ref b0_2, .int l1, .int l2, .int l3] K x (fun r_11 y_10 => Q r_11 y_10))))) ∧ (¬ (0 ≤ l4 ∧ l4 ≤ 2) → (Q (-2) x))))) : mSI mX7_load [.ref b0, .int l1, .int l2, .int l3, .int l4] K x Q := by
  refine s_I (by decide) (by simp [Value.category]) (Nat.le_of_ble_eq_true rfl) ?_
  show mGM mX7_load 0 [some (.ref b0), some (.int l1), some (.int l2), some (.int l3), some (.int l4), none] [] (hp K x) (PI K Q)
  refine r_aload_n (pc := 0) dX7_load_0 rfl ?_
  refine r_iload_n (pc := 1) dX7_load_1 rfl ?_
  refine r_iload_n (pc := 2) dX7_load_2 rfl ?_
  refine r_iload_n (pc := 3) dX7_load_3 rfl ?_
  refine s_VI (pc := 4) mX7_isCell (ci := 7) (a := b0) (As := [.int l1, .int l2, .int l3]) dX7_load_4 lk_X7_205 in_X7_isCell mo_X7_isCell ⟨by decide, rfl⟩ ⟨by decide, by decide⟩ (Nat.le_of_ble_eq_true rfl) k_b0 (sp_X7_isCell k_b0 g_b0_2 k_b0_2 ?_)
  refine r_if_eq (pc := 7) (tgt := 20) dX7_load_7 (by decide) (fun q => ?_) (fun q => ?_)
  · have q := (b2i_z _).mp q
    have K0 := K0.1 q
    refine r_bipush (pc := 20) (v := (-2)) dX7_load_20 (by decide) ?_
    exact s_iret rfl dX7_load_22 K0
  · have q := b2i_nz q
    have K0 := K0.2 q
    refine r_iload (pc := 10) dX7_load_10 rfl ?_
    refine r_iconst (pc := 12) (v := 0) dX7_load_12 (by decide) ?_
    refine r_iconst (pc := 13) (v := 2) dX7_load_13 (by decide) ?_
    refine s_SI (pc := 14) mX7_isWithin (As := [.int l4, .int 0, .int 2]) dX7_load_14 lk_X7_113 st_X7_isWithin mo_X7_isWithin ⟨by decide, by decide⟩ (Nat.le_of_ble_eq_true rfl) (sp_X7_isWithin  ?_)
    refine r_if_ne (pc := 17) (tgt := 23) dX7_load_17 (by decide) (fun q => ?_) (fun q => ?_)
    · have q := b2i_nz q
      have K0 := K0.1 q
      refine r_iload (pc := 23) dX7_load_23 rfl ?_
      refine r_if_ne (pc := 25) (tgt := 39) dX7_load_25 (by decide) (fun q => ?_) (fun q => ?_)
      · have K0 := K0.1 q
        refine r_aload_n (pc := 39) dX7_load_39 rfl ?_
        refine s_getR (pc := 40) dX7_load_40 fl_X7_20 rfl k_b0 g_b0_2 ?_
        refine r_iload_n (pc := 43) dX7_load_43 rfl ?_
        refine r_iload_n (pc := 44) dX7_load_44 rfl ?_
        refine r_iload_n (pc := 45) dX7_load_45 rfl ?_
        refine s_VI (pc := 46) mX4_loadIn (ci := 4) (a := b0_2) (As := [.int l1, .int l2, .int l3]) dX7_load_46 lk_X7_212 in_X4_loadIn mo_X4_loadIn ⟨by decide, rfl⟩ ⟨by decide, by decide⟩ (Nat.le_of_ble_eq_true rfl) k_b0_2 (mSI_mono K0 (fun r_5 y_4 K0 => ?_))
        refine r_istore (pc := 49) dX7_load_49 (by decide) ?_
        refine r_iload (pc := 51) (L := [some (.ref b0), some (.int l1), some (.int l2), some (.int l3), some (.int l4), some (.int r_5)]) dX7_load_51 rfl ?_
        refine r_iconst (pc := 53) (v := 1) dX7_load_53 (by decide) ?_
        refine r_icmp_ne (pc := 54) (tgt := 62) dX7_load_54 (by decide) (fun q => ?_) (fun q => ?_)
        · have K0 := K0.1 q
          refine r_aload_n (pc := 62) dX7_load_62 rfl ?_
          obtain ⟨g_7, K0⟩ := K0
          refine s_getR (pc := 63) dX7_load_63 fl_X7_20 rfl k_b0 g_7 ?_
          refine r_iload_n (pc := 66) dX7_load_66 rfl ?_
          refine r_iload_n (pc := 67) dX7_load_67 rfl ?_
          refine r_iload_n (pc := 68) dX7_load_68 rfl ?_
          refine s_VI (pc := 69) mX4_loadOf (ci := 4) (a := b0_2) (As := [.int l1, .int l2, .int l3]) dX7_load_69 lk_X7_208 in_X4_loadOf mo_X4_loadOf ⟨by decide, rfl⟩ ⟨by decide, by decide⟩ (Nat.le_of_ble_eq_true rfl) k_b0_2 (mSI_mono K0 (fun r_9 y_8 K0 => ?_))
          refine r_iload (pc := 72) dX7_load_72 rfl ?_
          refine r_isub (pc := 74) dX7_load_74 ?_
          exact s_iret rfl dX7_load_75 K0
        · have K0 := K0.2 q
          refine r_iload (pc := 57) dX7_load_57 rfl ?_
          refine r_goto (pc := 59) (tgt := 75) dX7_load_59 (by decide) ?_
          exact s_iret rfl dX7_load_75 K0
      · have K0 := K0.2 q
        refine r_aload_n (pc := 28) dX7_load_28 rfl ?_
        refine s_getR (pc := 29) dX7_load_29 fl_X7_20 rfl k_b0 g_b0_2 ?_
        refine r_iload_n (pc := 32) dX7_load_32 rfl ?_
        refine r_iload_n (pc := 33) dX7_load_33 rfl ?_
        refine r_iload_n (pc := 34) dX7_load_34 rfl ?_
        refine s_VI (pc := 35) mX4_loadOf (ci := 4) (a := b0_2) (As := [.int l1, .int l2, .int l3]) dX7_load_35 lk_X7_208 in_X4_loadOf mo_X4_loadOf ⟨by decide, rfl⟩ ⟨by decide, by decide⟩ (Nat.le_of_ble_eq_true rfl) k_b0_2 (mSI_mono K0 (fun r_11 y_10 K0 => ?_))
        exact s_iret rfl dX7_load_38 K0
    · have q := (b2i_z _).mp q
      have K0 := K0.2 q
      refine r_bipush (pc := 20) (v := (-2)) dX7_load_20 (by decide) ?_
      exact s_iret rfl dX7_load_22 K0
set_option maxHeartbeats 2000000 in
theorem v_X8_load_0 {K : Sh} {x : Cn} {Q : Int32 → Cn → Prop} {b0 : Nat} {l1 : Int32} {l2 : Int32} {l3 : Int32} {l4 : Int32} {b0_1 : Nat} {n_b0_1 : Nat} (k_b0 : kk K b0 = some (8, 0)) (g_b0_1 : gr x b0 1 = some b0_1) (k_b0_1 : kk K b0_1 = some (20, n_b0_1)) (K0 : vp_in 0 n_b0_1 ∧ ((¬ (0 ≤ l1 ∧ l1 ≤ gi x b0_1 0 - 1 ∧ 0 < gi x b0_1 0 ∧ 0 ≤ l2 ∧ l2 ≤ 6 ∧ 0 ≤ l3 ∧ l3 ≤ 23) → (Q (-2) x)) ∧ ((0 ≤ l1 ∧ l1 ≤ gi x b0_1 0 - 1 ∧ 0 < gi x b0_1 0 ∧ 0 ≤ l2 ∧ l2 ≤ 6 ∧ 0 ≤ l3 ∧ l3 ≤ 23) → ((¬ (0 ≤ l4 ∧ l4 ≤ 2) → (Q (-2) x)) ∧ ((0 ≤ l4 ∧ l4 ≤ 2) → (mSI mX8_loadBut [.ref b0, .int l1, .int l2, .int l3, .int l4, .int (-1)] K x (fun r_5 y_4 => Q r_5 y_4))))))) : mSI mX8_load [.ref b0, .int l1, .int l2, .int l3, .int l4] K x Q := by
  refine s_I (by decide) (by simp [Value.category]) (Nat.le_of_ble_eq_true rfl) ?_
  show mGM mX8_load 0 [some (.ref b0), some (.int l1), some (.int l2), some (.int l3), some (.int l4)] [] (hp K x) (PI K Q)
  refine r_aload_n (pc := 0) dX8_load_0 rfl ?_
  refine r_iload_n (pc := 1) dX8_load_1 rfl ?_
  refine r_iload_n (pc := 2) dX8_load_2 rfl ?_
  refine r_iload_n (pc := 3) dX8_load_3 rfl ?_
  obtain ⟨i_1, K0⟩ := K0
  refine s_VI (pc := 4) mX8_isPlace (ci := 8) (a := b0) (As := [.int l1, .int l2, .int l3]) dX8_load_4 lk_X8_287 in_X8_isPlace mo_X8_isPlace ⟨by decide, rfl⟩ ⟨by decide, by decide⟩ (Nat.le_of_ble_eq_true rfl) k_b0 (sp_X8_isPlace k_b0 g_b0_1 k_b0_1 i_1 ?_)
  refine r_if_eq (pc := 7) (tgt := 36) dX8_load_7 (by decide) (fun q => ?_) (fun q => ?_)
  · have q := (b2i_z _).mp q
    have K0 := K0.1 q
    refine r_bipush (pc := 36) (v := (-2)) dX8_load_36 (by decide) ?_
    exact s_iret rfl dX8_load_38 K0
  · have q := b2i_nz q
    have K0 := K0.2 q
    refine r_iload (pc := 10) dX8_load_10 rfl ?_
    refine r_i2l (pc := 12) dX8_load_12 ?_
    refine r_lconst (pc := 13) (v := 0) dX8_load_13 (by decide) ?_
    refine r_ldc2 (pc := 14) (v := 2) dX8_load_14 cn_X8_291 ?_
    refine s_SI (pc := 17) mX8_in (As := [.long ((l4 : Int32).toInt64), .long 0, .long 2]) dX8_load_17 lk_X8_45 st_X8_in mo_X8_in ⟨by decide, by decide⟩ (Nat.le_of_ble_eq_true rfl) (sq_X8_in (v := l4) (lo := 0) (hi := 2) rfl (by decide) (by decide) ?_)
    refine r_if_eq (pc := 20) (tgt := 36) dX8_load_20 (by decide) (fun q => ?_) (fun q => ?_)
    · have q := (b2i_z _).mp q
      have K0 := K0.1 q
      refine r_bipush (pc := 36) (v := (-2)) dX8_load_36 (by decide) ?_
      exact s_iret rfl dX8_load_38 K0
    · have q := b2i_nz q
      have K0 := K0.2 q
      refine r_aload_n (pc := 23) dX8_load_23 rfl ?_
      refine r_iload_n (pc := 24) dX8_load_24 rfl ?_
      refine r_iload_n (pc := 25) dX8_load_25 rfl ?_
      refine r_iload_n (pc := 26) dX8_load_26 rfl ?_
      refine r_iload (pc := 27) dX8_load_27 rfl ?_
      refine r_iconst (pc := 29) (v := (-1)) dX8_load_29 (by decide) ?_
      refine s_VI (pc := 30) mX8_loadBut (ci := 8) (a := b0) (As := [.int l1, .int l2, .int l3, .int l4, .int (-1)]) dX8_load_30 lk_X8_86 in_X8_loadBut mo_X8_loadBut ⟨by decide, rfl⟩ ⟨by decide, by decide⟩ (Nat.le_of_ble_eq_true rfl) k_b0 (mSI_mono K0 (fun r_5 y_4 K0 => ?_))
      refine r_goto (pc := 33) (tgt := 38) dX8_load_33 (by decide) ?_
      exact s_iret rfl dX8_load_38 K0
set_option maxHeartbeats 2000000 in
theorem v_X7_room_0 {K : Sh} {x : Cn} {Q : Int32 → Cn → Prop} {b0 : Nat} {l1 : Int32} {l2 : Int32} {l3 : Int32} {l4 : Int32} {b0_2 : Nat} {b0_2_5 : Nat} {n_b0_2_5 : Nat} (k_b0 : kk K b0 = some (7, 0)) (g_b0_2 : gr x b0 2 = some b0_2) (k_b0_2 : kk K b0_2 = some (4, 0)) (g_b0_2_5 : gr x b0_2 5 = some b0_2_5) (k_b0_2_5 : kk K b0_2_5 = some (20, n_b0_2_5)) (K0 : (¬ (0 ≤ l1 ∧ l1 < gi x b0_2 0 ∧ 0 < gi x b0_2 0 ∧ 0 ≤ l2 ∧ l2 < 7 ∧ 0 ≤ l3 ∧ l3 < 24) → (Q (-2) x)) ∧ ((0 ≤ l1 ∧ l1 < gi x b0_2 0 ∧ 0 < gi x b0_2 0 ∧ 0 ≤ l2 ∧ l2 < 7 ∧ 0 ≤ l3 ∧ l3 < 24) → (((l4 = 0 ∨ l4 = 1) → (vp_in l3 n_b0_2_5 ∧ (mSI mX4_loadOf [.ref b0_2, .int l1, .int l2, .int l3] K x (fun r_5 y_4 => (¬ l4 = 0 → (Q (if ((gi x b0_2_5 (l3 : Int32).toNatClampNeg) - r_5) < 0 then 0 else ((gi x b0_2_5 (l3 : Int32).toNatClampNeg) - r_5)) y_4)) ∧ (l4 = 0 → (gr y_4 b0 2 = some b0_2 ∧ (∃ c_8 : Nat, gr y_4 b0_2 6 = some c_8 ∧ (∃ n_11 : Nat, kk K c_8 = some (20, n_11) ∧ (vp_in l3 n_11 ∧ (mSI mX4_loadIn [.ref b0_2, .int l1, .int l2, .int l3] K y_4 (fun r_14 y_13 => ∀ r_15 : Int32, r_15 = (if ((gi y_4 c_8 (l3 : Int32).toNatClampNeg) - r_14) < ((gi x b0_2_5 (l3 : Int32).toNatClampNeg) - r_5) then ((gi y_4 c_8 (l3 : Int32).toNatClampNeg) - r_14) else ((gi x b0_2_5 (l3 : Int32).toNatClampNeg) - r_5)) → (Q (if r_15 < 0 then 0 else r_15) y_13)))))))))))) ∧ (¬ (l4 = 0 ∨ l4 = 1) → (Q (-2) x))))) : mSI mX7_room [.ref b0, .int l1, .int l2, .int l3, .int l4] K x Q := by
  refine s_I (by decide) (by simp [Value.category]) (Nat.le_of_ble_eq_true rfl) ?_
  show mGM mX7_room 0 [some (.ref b0), some (.int l1), some (.int l2), some (.int l3), some (.int l4), none] [] (hp K x) (PI K Q)
  refine r_aload_n (pc := 0) dX7_room_0 rfl ?_
  refine r_iload_n (pc := 1) dX7_room_1 rfl ?_
  refine r_iload_n (pc := 2) dX7_room_2 rfl ?_
  refine r_iload_n (pc := 3) dX7_room_3 rfl ?_
  refine s_VI (pc := 4) mX7_isCell (ci := 7) (a := b0) (As := [.int l1, .int l2, .int l3]) dX7_room_4 lk_X7_205 in_X7_isCell mo_X7_isCell ⟨by decide, rfl⟩ ⟨by decide, by decide⟩ (Nat.le_of_ble_eq_true rfl) k_b0 (sp_X7_isCell k_b0 g_b0_2 k_b0_2 ?_)
  refine r_if_eq (pc := 7) (tgt := 18) dX7_room_7 (by decide) (fun q => ?_) (fun q => ?_)
  · have q := (b2i_z _).mp q
    have K0 := K0.1 q
    refine r_bipush (pc := 18) (v := (-2)) dX7_room_18 (by decide) ?_
    exact s_iret rfl dX7_room_20 K0
  · have q := b2i_nz q
    have K0 := K0.2 q
    refine r_iload (pc := 10) dX7_room_10 rfl ?_
    refine s_SI (pc := 12) mX7_isWay (As := [.int l4]) dX7_room_12 lk_X7_218 st_X7_isWay mo_X7_isWay ⟨by decide, by decide⟩ (Nat.le_of_ble_eq_true rfl) (sp_X7_isWay  ?_)
    refine r_if_ne (pc := 15) (tgt := 21) dX7_room_15 (by decide) (fun q => ?_) (fun q => ?_)
    · have q := b2i_nz q
      have K0 := K0.1 q
      refine r_aload_n (pc := 21) dX7_room_21 rfl ?_
      refine s_getR (pc := 22) dX7_room_22 fl_X7_20 rfl k_b0 g_b0_2 ?_
      refine s_getR (pc := 25) dX7_room_25 fl_X7_198 rfl k_b0_2 g_b0_2_5 ?_
      refine r_iload_n (pc := 28) dX7_room_28 rfl ?_
      obtain ⟨i_3, K0⟩ := K0
      refine s_iald (pc := 29) dX7_room_29 k_b0_2_5 i_3 ?_
      refine r_aload_n (pc := 30) dX7_room_30 rfl ?_
      refine s_getR (pc := 31) dX7_room_31 fl_X7_20 rfl k_b0 g_b0_2 ?_
      refine r_iload_n (pc := 34) dX7_room_34 rfl ?_
      refine r_iload_n (pc := 35) dX7_room_35 rfl ?_
      refine r_iload_n (pc := 36) dX7_room_36 rfl ?_
      refine s_VI (pc := 37) mX4_loadOf (ci := 4) (a := b0_2) (As := [.int l1, .int l2, .int l3]) dX7_room_37 lk_X7_208 in_X4_loadOf mo_X4_loadOf ⟨by decide, rfl⟩ ⟨by decide, by decide⟩ (Nat.le_of_ble_eq_true rfl) k_b0_2 (mSI_mono K0 (fun r_5 y_4 K0 => ?_))
      refine r_isub (pc := 40) dX7_room_40 ?_
      refine r_istore (pc := 41) dX7_room_41 (by decide) ?_
      refine r_iload (pc := 43) (L := [some (.ref b0), some (.int l1), some (.int l2), some (.int l3), some (.int l4), some (.int ((gi x b0_2_5 (l3 : Int32).toNatClampNeg) - r_5))]) dX7_room_43 rfl ?_
      refine r_if_ne (pc := 45) (tgt := 75) dX7_room_45 (by decide) (fun q => ?_) (fun q => ?_)
      · have K0 := K0.1 q
        refine r_iload (pc := 75) dX7_room_75 rfl ?_
        refine r_iconst (pc := 77) (v := 0) dX7_room_77 (by decide) ?_
        refine r_mmax (pc := 78) dX7_room_78 lk_X7_226 mw_max ⟨by decide, by decide⟩ (Nat.le_of_ble_eq_true rfl) ?_
        exact s_iret rfl dX7_room_81 K0
      · have K0 := K0.2 q
        refine r_iload (pc := 48) dX7_room_48 rfl ?_
        refine r_aload_n (pc := 50) dX7_room_50 rfl ?_
        obtain ⟨g_7, K0⟩ := K0
        refine s_getR (pc := 51) dX7_room_51 fl_X7_20 rfl k_b0 g_7 ?_
        obtain ⟨c_8, g_9, K0⟩ := K0
        refine s_getR (pc := 54) dX7_room_54 fl_X7_202 rfl k_b0_2 g_9 ?_
        refine r_iload_n (pc := 57) dX7_room_57 rfl ?_
        obtain ⟨n_11, e_10, K0⟩ := K0
        obtain ⟨i_12, K0⟩ := K0
        refine s_iald (pc := 58) dX7_room_58 e_10 i_12 ?_
        refine r_aload_n (pc := 59) dX7_room_59 rfl ?_
        refine s_getR (pc := 60) dX7_room_60 fl_X7_20 rfl k_b0 g_7 ?_
        refine r_iload_n (pc := 63) dX7_room_63 rfl ?_
        refine r_iload_n (pc := 64) dX7_room_64 rfl ?_
        refine r_iload_n (pc := 65) dX7_room_65 rfl ?_
        refine s_VI (pc := 66) mX4_loadIn (ci := 4) (a := b0_2) (As := [.int l1, .int l2, .int l3]) dX7_room_66 lk_X7_212 in_X4_loadIn mo_X4_loadIn ⟨by decide, rfl⟩ ⟨by decide, by decide⟩ (Nat.le_of_ble_eq_true rfl) k_b0_2 (mSI_mono K0 (fun r_14 y_13 K0 => ?_))
        refine r_isub (pc := 69) dX7_room_69 ?_
        refine r_mmin (pc := 70) dX7_room_70 lk_X7_221 mw_min ⟨by decide, by decide⟩ (Nat.le_of_ble_eq_true rfl) ?_
        obtain ⟨r_15, w_16⟩ : ∃ z : Int32, z = (if ((gi y_4 c_8 (l3 : Int32).toNatClampNeg) - r_14) < ((gi x b0_2_5 (l3 : Int32).toNatClampNeg) - r_5) then ((gi y_4 c_8 (l3 : Int32).toNatClampNeg) - r_14) else ((gi x b0_2_5 (l3 : Int32).toNatClampNeg) - r_5)) := ⟨_, rfl⟩
        rw [← w_16]
        have K0 := K0 r_15 w_16
        refine r_istore (pc := 73) dX7_room_73 (by decide) ?_
        refine r_iload (pc := 75) (L := [some (.ref b0), some (.int l1), some (.int l2), some (.int l3), some (.int l4), some (.int r_15)]) dX7_room_75 rfl ?_
        refine r_iconst (pc := 77) (v := 0) dX7_room_77 (by decide) ?_
        refine r_mmax (pc := 78) dX7_room_78 lk_X7_226 mw_max ⟨by decide, by decide⟩ (Nat.le_of_ble_eq_true rfl) ?_
        exact s_iret rfl dX7_room_81 K0
    · have q := (b2i_z _).mp q
      have K0 := K0.2 q
      refine r_bipush (pc := 18) (v := (-2)) dX7_room_18 (by decide) ?_
      exact s_iret rfl dX7_room_20 K0
set_option maxHeartbeats 2000000 in
theorem v_X8_room_0 {K : Sh} {x : Cn} {Q : Int32 → Cn → Prop} {b0 : Nat} {l1 : Int32} {l2 : Int32} {l3 : Int32} {l4 : Int32} {b0_1 : Nat} {n_b0_1 : Nat} (k_b0 : kk K b0 = some (8, 0)) (g_b0_1 : gr x b0 1 = some b0_1) (k_b0_1 : kk K b0_1 = some (20, n_b0_1)) (K0 : vp_in 0 n_b0_1 ∧ ((¬ (0 ≤ l1 ∧ l1 ≤ gi x b0_1 0 - 1 ∧ 0 < gi x b0_1 0 ∧ 0 ≤ l2 ∧ l2 ≤ 6 ∧ 0 ≤ l3 ∧ l3 ≤ 23) → (Q (-2) x)) ∧ ((0 ≤ l1 ∧ l1 ≤ gi x b0_1 0 - 1 ∧ 0 < gi x b0_1 0 ∧ 0 ≤ l2 ∧ l2 ≤ 6 ∧ 0 ≤ l3 ∧ l3 ≤ 23) → (((0 ≤ l4 ∧ l4 ≤ 1) → (vp_in (6 + (2 * l3)) n_b0_1 ∧ (mSI mX8_loadBut [.ref b0, .int l1, .int l2, .int l3, .int 0, .int (-1)] K x (fun r_6 y_5 => gr y_5 b0 1 = some b0_1 ∧ (vp_in ((6 + (2 * l3)) + 1) n_b0_1 ∧ (mSI mX8_loadBut [.ref b0, .int l1, .int l2, .int l3, .int 1, .int (-1)] K y_5 (fun r_10 y_9 => (¬ l4 = 0 → (Q (if 0 < ((gi x b0_1 ((6 + (2 * l3)) : Int32).toNatClampNeg) - r_6) then ((gi x b0_1 ((6 + (2 * l3)) : Int32).toNatClampNeg) - r_6) else 0) y_9)) ∧ (l4 = 0 → (Q (if 0 < (if ((gi y_5 b0_1 (((6 + (2 * l3)) + 1) : Int32).toNatClampNeg) - r_10) < ((gi x b0_1 ((6 + (2 * l3)) : Int32).toNatClampNeg) - r_6) then ((gi y_5 b0_1 (((6 + (2 * l3)) + 1) : Int32).toNatClampNeg) - r_10) else ((gi x b0_1 ((6 + (2 * l3)) : Int32).toNatClampNeg) - r_6)) then (if ((gi y_5 b0_1 (((6 + (2 * l3)) + 1) : Int32).toNatClampNeg) - r_10) < ((gi x b0_1 ((6 + (2 * l3)) : Int32).toNatClampNeg) - r_6) then ((gi y_5 b0_1 (((6 + (2 * l3)) + 1) : Int32).toNatClampNeg) - r_10) else ((gi x b0_1 ((6 + (2 * l3)) : Int32).toNatClampNeg) - r_6)) else 0) y_9))))))))) ∧ (¬ (0 ≤ l4 ∧ l4 ≤ 1) → (Q (-2) x)))))) : mSI mX8_room [.ref b0, .int l1, .int l2, .int l3, .int l4] K x Q := by
  refine s_I (by decide) (by simp [Value.category]) (Nat.le_of_ble_eq_true rfl) ?_
  show mGM mX8_room 0 [some (.ref b0), some (.int l1), some (.int l2), some (.int l3), some (.int l4), none, none] [] (hp K x) (PI K Q)
  refine r_aload_n (pc := 0) dX8_room_0 rfl ?_
  refine r_iload_n (pc := 1) dX8_room_1 rfl ?_
  refine r_iload_n (pc := 2) dX8_room_2 rfl ?_
  refine r_iload_n (pc := 3) dX8_room_3 rfl ?_
  obtain ⟨i_1, K0⟩ := K0
  refine s_VI (pc := 4) mX8_isPlace (ci := 8) (a := b0) (As := [.int l1, .int l2, .int l3]) dX8_room_4 lk_X8_287 in_X8_isPlace mo_X8_isPlace ⟨by decide, rfl⟩ ⟨by decide, by decide⟩ (Nat.le_of_ble_eq_true rfl) k_b0 (sp_X8_isPlace k_b0 g_b0_1 k_b0_1 i_1 ?_)
  refine r_if_eq (pc := 7) (tgt := 21) dX8_room_7 (by decide) (fun q => ?_) (fun q => ?_)
  · have q := (b2i_z _).mp q
    have K0 := K0.1 q
    refine r_bipush (pc := 21) (v := (-2)) dX8_room_21 (by decide) ?_
    exact s_iret rfl dX8_room_23 K0
  · have q := b2i_nz q
    have K0 := K0.2 q
    refine r_iload (pc := 10) dX8_room_10 rfl ?_
    refine r_i2l (pc := 12) dX8_room_12 ?_
    refine r_lconst (pc := 13) (v := 0) dX8_room_13 (by decide) ?_
    refine r_lconst (pc := 14) (v := 1) dX8_room_14 (by decide) ?_
    refine s_SI (pc := 15) mX8_in (As := [.long ((l4 : Int32).toInt64), .long 0, .long 1]) dX8_room_15 lk_X8_45 st_X8_in mo_X8_in ⟨by decide, by decide⟩ (Nat.le_of_ble_eq_true rfl) (sq_X8_in (v := l4) (lo := 0) (hi := 1) rfl (by decide) (by decide) ?_)
    refine r_if_ne (pc := 18) (tgt := 24) dX8_room_18 (by decide) (fun q => ?_) (fun q => ?_)
    · have q := b2i_nz q
      have K0 := K0.1 q
      refine r_aload_n (pc := 24) dX8_room_24 rfl ?_
      refine s_getR (pc := 25) dX8_room_25 fl_X8_9 rfl k_b0 g_b0_1 ?_
      refine r_bipush (pc := 28) (v := 6) dX8_room_28 (by decide) ?_
      refine r_iconst (pc := 30) (v := 2) dX8_room_30 (by decide) ?_
      refine r_iload_n (pc := 31) dX8_room_31 rfl ?_
      refine r_imul (pc := 32) dX8_room_32 ?_
      refine r_iadd (pc := 33) dX8_room_33 ?_
      obtain ⟨i_4, K0⟩ := K0
      refine s_iald (pc := 34) dX8_room_34 k_b0_1 i_4 ?_
      refine r_aload_n (pc := 35) dX8_room_35 rfl ?_
      refine r_iload_n (pc := 36) dX8_room_36 rfl ?_
      refine r_iload_n (pc := 37) dX8_room_37 rfl ?_
      refine r_iload_n (pc := 38) dX8_room_38 rfl ?_
      refine r_iconst (pc := 39) (v := 0) dX8_room_39 (by decide) ?_
      refine r_iconst (pc := 40) (v := (-1)) dX8_room_40 (by decide) ?_
      refine s_VI (pc := 41) mX8_loadBut (ci := 8) (a := b0) (As := [.int l1, .int l2, .int l3, .int 0, .int (-1)]) dX8_room_41 lk_X8_86 in_X8_loadBut mo_X8_loadBut ⟨by decide, rfl⟩ ⟨by decide, by decide⟩ (Nat.le_of_ble_eq_true rfl) k_b0 (mSI_mono K0 (fun r_6 y_5 K0 => ?_))
      refine r_isub (pc := 44) dX8_room_44 ?_
      refine r_istore (pc := 45) dX8_room_45 (by decide) ?_
      refine r_aload_n (pc := 47) (L := [some (.ref b0), some (.int l1), some (.int l2), some (.int l3), some (.int l4), some (.int ((gi x b0_1 ((6 + (2 * l3)) : Int32).toNatClampNeg) - r_6)), none]) dX8_room_47 rfl ?_
      obtain ⟨g_7, K0⟩ := K0
      refine s_getR (pc := 48) dX8_room_48 fl_X8_9 rfl k_b0 g_7 ?_
      refine r_bipush (pc := 51) (v := 6) dX8_room_51 (by decide) ?_
      refine r_iconst (pc := 53) (v := 2) dX8_room_53 (by decide) ?_
      refine r_iload_n (pc := 54) dX8_room_54 rfl ?_
      refine r_imul (pc := 55) dX8_room_55 ?_
      refine r_iadd (pc := 56) dX8_room_56 ?_
      refine r_iconst (pc := 57) (v := 1) dX8_room_57 (by decide) ?_
      refine r_iadd (pc := 58) dX8_room_58 ?_
      obtain ⟨i_8, K0⟩ := K0
      refine s_iald (pc := 59) dX8_room_59 k_b0_1 i_8 ?_
      refine r_aload_n (pc := 60) dX8_room_60 rfl ?_
      refine r_iload_n (pc := 61) dX8_room_61 rfl ?_
      refine r_iload_n (pc := 62) dX8_room_62 rfl ?_
      refine r_iload_n (pc := 63) dX8_room_63 rfl ?_
      refine r_iconst (pc := 64) (v := 1) dX8_room_64 (by decide) ?_
      refine r_iconst (pc := 65) (v := (-1)) dX8_room_65 (by decide) ?_
      refine s_VI (pc := 66) mX8_loadBut (ci := 8) (a := b0) (As := [.int l1, .int l2, .int l3, .int 1, .int (-1)]) dX8_room_66 lk_X8_86 in_X8_loadBut mo_X8_loadBut ⟨by decide, rfl⟩ ⟨by decide, by decide⟩ (Nat.le_of_ble_eq_true rfl) k_b0 (mSI_mono K0 (fun r_10 y_9 K0 => ?_))
      refine r_isub (pc := 69) dX8_room_69 ?_
      refine r_istore (pc := 70) dX8_room_70 (by decide) ?_
      refine r_iconst (pc := 72) (L := [some (.ref b0), some (.int l1), some (.int l2), some (.int l3), some (.int l4), some (.int ((gi x b0_1 ((6 + (2 * l3)) : Int32).toNatClampNeg) - r_6)), some (.int ((gi y_5 b0_1 (((6 + (2 * l3)) + 1) : Int32).toNatClampNeg) - r_10))]) (v := 0) dX8_room_72 (by decide) ?_
      refine r_iload (pc := 73) dX8_room_73 rfl ?_
      refine r_if_ne (pc := 75) (tgt := 88) dX8_room_75 (by decide) (fun q => ?_) (fun q => ?_)
      · have K0 := K0.1 q
        refine r_iload (pc := 88) dX8_room_88 rfl ?_
        refine r_mmax (pc := 90) dX8_room_90 lk_X8_293 mw_max ⟨by decide, by decide⟩ (Nat.le_of_ble_eq_true rfl) ?_
        exact s_iret rfl dX8_room_93 K0
      · have K0 := K0.2 q
        refine r_iload (pc := 78) dX8_room_78 rfl ?_
        refine r_iload (pc := 80) dX8_room_80 rfl ?_
        refine r_mmin (pc := 82) dX8_room_82 lk_X8_133 mw_min ⟨by decide, by decide⟩ (Nat.le_of_ble_eq_true rfl) ?_
        refine r_goto (pc := 85) (tgt := 90) dX8_room_85 (by decide) ?_
        refine r_mmax (pc := 90) dX8_room_90 lk_X8_293 mw_max ⟨by decide, by decide⟩ (Nat.le_of_ble_eq_true rfl) ?_
        exact s_iret rfl dX8_room_93 K0
    · have q := (b2i_z _).mp q
      have K0 := K0.2 q
      refine r_bipush (pc := 21) (v := (-2)) dX8_room_21 (by decide) ?_
      exact s_iret rfl dX8_room_23 K0
set_option maxHeartbeats 2000000 in
theorem v_X7_at_0 {K : Sh} {x : Cn} {Q : Int32 → Cn → Prop} {b0 : Nat} {l1 : Int32} {l2 : Int32} {l3 : Int32} {l4 : Int32} {b0_2 : Nat} (k_b0 : kk K b0 = some (7, 0)) (g_b0_2 : gr x b0 2 = some b0_2) (k_b0_2 : kk K b0_2 = some (4, 0)) (K0 : (¬ (0 ≤ l1 ∧ l1 < gi x b0_2 0 ∧ 0 < gi x b0_2 0 ∧ 0 ≤ l2 ∧ l2 < 7 ∧ 0 ≤ l3 ∧ l3 < 24) → (Q (-2) x)) ∧ ((0 ≤ l1 ∧ l1 < gi x b0_2 0 ∧ 0 < gi x b0_2 0 ∧ 0 ≤ l2 ∧ l2 < 7 ∧ 0 ≤ l3 ∧ l3 < 24) → ((0 ≤ l4 → (GI mX7_at 25 [some (.ref b0), some (.int l1), some (.int l2), some (.int l3), some (.int l4), some (.int l4), some (.int 0)] [] K x Q)) ∧ (¬ 0 ≤ l4 → (Q (-2) x))))) : mSI mX7_at [.ref b0, .int l1, .int l2, .int l3, .int l4] K x Q := by
  refine s_I (by decide) (by simp [Value.category]) (Nat.le_of_ble_eq_true rfl) ?_
  show mGM mX7_at 0 [some (.ref b0), some (.int l1), some (.int l2), some (.int l3), some (.int l4), none, none] [] (hp K x) (PI K Q)
  refine r_aload_n (pc := 0) dX7_at_0 rfl ?_
  refine r_iload_n (pc := 1) dX7_at_1 rfl ?_
  refine r_iload_n (pc := 2) dX7_at_2 rfl ?_
  refine r_iload_n (pc := 3) dX7_at_3 rfl ?_
  refine s_VI (pc := 4) mX7_isCell (ci := 7) (a := b0) (As := [.int l1, .int l2, .int l3]) dX7_at_4 lk_X7_205 in_X7_isCell mo_X7_isCell ⟨by decide, rfl⟩ ⟨by decide, by decide⟩ (Nat.le_of_ble_eq_true rfl) k_b0 (sp_X7_isCell k_b0 g_b0_2 k_b0_2 ?_)
  refine r_if_eq (pc := 7) (tgt := 15) dX7_at_7 (by decide) (fun q => ?_) (fun q => ?_)
  · have q := (b2i_z _).mp q
    have K0 := K0.1 q
    refine r_bipush (pc := 15) (v := (-2)) dX7_at_15 (by decide) ?_
    exact s_iret rfl dX7_at_17 K0
  · have q := b2i_nz q
    have K0 := K0.2 q
    refine r_iload (pc := 10) dX7_at_10 rfl ?_
    refine r_if_ge (pc := 12) (tgt := 18) dX7_at_12 (by decide) (fun q => ?_) (fun q => ?_)
    · have K0 := K0.1 q
      refine r_iload (pc := 18) dX7_at_18 rfl ?_
      refine r_istore (pc := 20) dX7_at_20 (by decide) ?_
      refine r_iconst (pc := 22) (L := [some (.ref b0), some (.int l1), some (.int l2), some (.int l3), some (.int l4), some (.int l4), none]) (v := 0) dX7_at_22 (by decide) ?_
      refine r_istore (pc := 23) dX7_at_23 (by decide) ?_
      exact r_le (L' := [some (.ref b0), some (.int l1), some (.int l2), some (.int l3), some (.int l4), some (.int l4), some (.int 0)]) ⟨rfl, ⟨rfl, ⟨rfl, ⟨rfl, ⟨rfl, ⟨rfl, ⟨rfl, trivial⟩⟩⟩⟩⟩⟩⟩ K0
    · have K0 := K0.2 q
      refine r_bipush (pc := 15) (v := (-2)) dX7_at_15 (by decide) ?_
      exact s_iret rfl dX7_at_17 K0
set_option maxHeartbeats 2000000 in
theorem v_X7_at_25 {K : Sh} {x : Cn} {Q : Int32 → Cn → Prop} {b0 : Nat} {l1 : Int32} {l2 : Int32} {l3 : Int32} {l4 : Int32} {l5 : Int32} {l6 : Int32} {b0_2 : Nat} {b0_2_7 : Nat} {n_b0_2_7 : Nat} (k_b0 : kk K b0 = some (7, 0)) (g_b0_2 : gr x b0 2 = some b0_2) (k_b0_2 : kk K b0_2 = some (4, 0)) (g_b0_2_7 : gr x b0_2 7 = some b0_2_7) (k_b0_2_7 : kk K b0_2_7 = some (23, n_b0_2_7)) (K0 : ((gi x b0_2 3) ≤ l6 → (Q (-1) x)) ∧ (¬ (gi x b0_2 3) ≤ l6 → (vp_in l6 n_b0_2_7 ∧ (∃ c_3 : Nat, gr x b0_2_7 ((l6 : Int32).toNatClampNeg) = some c_3 ∧ (kk K c_3 = some (5, 0) ∧ ((¬ (gi x c_3 1 = l2 ∧ gi x c_3 2 = l3 ∧ f_bit (f_held x c_3) l1) → (GI mX7_at 25 [some (.ref b0), some (.int l1), some (.int l2), some (.int l3), some (.int l4), some (.int l5), some (.int (l6 + 1))] [] K x Q)) ∧ ((gi x c_3 1 = l2 ∧ gi x c_3 2 = l3 ∧ f_bit (f_held x c_3) l1) → ((¬ l5 = 0 → (GI mX7_at 25 [some (.ref b0), some (.int l1), some (.int l2), some (.int l3), some (.int l4), some (.int (l5 + (-1))), some (.int (l6 + 1))] [] K x Q)) ∧ (l5 = 0 → (Q l6 x)))))))))) : GI mX7_at 25 [some (.ref b0), some (.int l1), some (.int l2), some (.int l3), some (.int l4), some (.int l5), some (.int l6)] [] K x Q := by
  show mGM mX7_at 25 [some (.ref b0), some (.int l1), some (.int l2), some (.int l3), some (.int l4), some (.int l5), some (.int l6)] [] (hp K x) (PI K Q)
  refine r_iload (pc := 25) dX7_at_25 rfl ?_
  refine r_aload_n (pc := 27) dX7_at_27 rfl ?_
  refine s_getR (pc := 28) dX7_at_28 fl_X7_20 rfl k_b0 g_b0_2 ?_
  refine s_getI (pc := 31) dX7_at_31 fl_X7_97 rfl k_b0_2 ?_
  refine r_icmp_ge (pc := 34) (tgt := 73) dX7_at_34 (by decide) (fun q => ?_) (fun q => ?_)
  · have K0 := K0.1 q
    refine r_iconst (pc := 73) (v := (-1)) dX7_at_73 (by decide) ?_
    exact s_iret rfl dX7_at_74 K0
  · have K0 := K0.2 q
    refine r_aload_n (pc := 37) dX7_at_37 rfl ?_
    refine s_getR (pc := 38) dX7_at_38 fl_X7_20 rfl k_b0 g_b0_2 ?_
    refine s_getR (pc := 41) dX7_at_41 fl_X7_135 rfl k_b0_2 g_b0_2_7 ?_
    refine r_iload (pc := 44) dX7_at_44 rfl ?_
    obtain ⟨i_2, K0⟩ := K0
    obtain ⟨c_3, g_4, K0⟩ := K0
    refine s_aald (pc := 46) dX7_at_46 (by decide) rfl k_b0_2_7 i_2 g_4 ?_
    refine r_iload_n (pc := 47) dX7_at_47 rfl ?_
    refine r_iload_n (pc := 48) dX7_at_48 rfl ?_
    refine r_iload_n (pc := 49) dX7_at_49 rfl ?_
    obtain ⟨e_5, K0⟩ := K0
    refine s_VI (pc := 50) mX5_fills (ci := 5) (a := c_3) (As := [.int l1, .int l2, .int l3]) dX7_at_50 lk_X7_215 in_X5_fills mo_X5_fills ⟨by decide, rfl⟩ ⟨by decide, by decide⟩ (Nat.le_of_ble_eq_true rfl) e_5 (sp_X5_fills e_5 ?_)
    refine r_if_eq (pc := 53) (tgt := 67) dX7_at_53 (by decide) (fun q => ?_) (fun q => ?_)
    · have q := (b2i_z _).mp q
      have K0 := K0.1 q
      refine r_iinc (pc := 67) (v := l6 + 1) dX7_at_67 rfl rfl (by decide) ?_
      refine r_goto (pc := 70) (L := [some (.ref b0), some (.int l1), some (.int l2), some (.int l3), some (.int l4), some (.int l5), some (.int (l6 + 1))]) (tgt := 25) dX7_at_70 (by decide) ?_
      exact r_le (L' := [some (.ref b0), some (.int l1), some (.int l2), some (.int l3), some (.int l4), some (.int l5), some (.int (l6 + 1))]) ⟨rfl, ⟨rfl, ⟨rfl, ⟨rfl, ⟨rfl, ⟨rfl, ⟨rfl, trivial⟩⟩⟩⟩⟩⟩⟩ K0
    · have q := b2i_nz q
      have K0 := K0.2 q
      refine r_iload (pc := 56) dX7_at_56 rfl ?_
      refine r_if_ne (pc := 58) (tgt := 64) dX7_at_58 (by decide) (fun q => ?_) (fun q => ?_)
      · have K0 := K0.1 q
        refine r_iinc (pc := 64) (v := l5 + (-1)) dX7_at_64 rfl rfl (by decide) ?_
        refine r_iinc (pc := 67) (L := [some (.ref b0), some (.int l1), some (.int l2), some (.int l3), some (.int l4), some (.int (l5 + (-1))), some (.int l6)]) (v := l6 + 1) dX7_at_67 rfl rfl (by decide) ?_
        refine r_goto (pc := 70) (L := [some (.ref b0), some (.int l1), some (.int l2), some (.int l3), some (.int l4), some (.int (l5 + (-1))), some (.int (l6 + 1))]) (tgt := 25) dX7_at_70 (by decide) ?_
        exact r_le (L' := [some (.ref b0), some (.int l1), some (.int l2), some (.int l3), some (.int l4), some (.int (l5 + (-1))), some (.int (l6 + 1))]) ⟨rfl, ⟨rfl, ⟨rfl, ⟨rfl, ⟨rfl, ⟨rfl, ⟨rfl, trivial⟩⟩⟩⟩⟩⟩⟩ K0
      · have K0 := K0.2 q
        refine r_iload (pc := 61) dX7_at_61 rfl ?_
        exact s_iret rfl dX7_at_63 K0
set_option maxHeartbeats 2000000 in
theorem v_X8_at_0 {K : Sh} {x : Cn} {Q : Int32 → Cn → Prop} {b0 : Nat} {l1 : Int32} {l2 : Int32} {l3 : Int32} {l4 : Int32} {b0_1 : Nat} {n_b0_1 : Nat} (k_b0 : kk K b0 = some (8, 0)) (g_b0_1 : gr x b0 1 = some b0_1) (k_b0_1 : kk K b0_1 = some (20, n_b0_1)) (K0 : vp_in 0 n_b0_1 ∧ ((¬ (0 ≤ l1 ∧ l1 ≤ gi x b0_1 0 - 1 ∧ 0 < gi x b0_1 0 ∧ 0 ≤ l2 ∧ l2 ≤ 6 ∧ 0 ≤ l3 ∧ l3 ≤ 23) → (Q (-2) x)) ∧ ((0 ≤ l1 ∧ l1 ≤ gi x b0_1 0 - 1 ∧ 0 < gi x b0_1 0 ∧ 0 ≤ l2 ∧ l2 ≤ 6 ∧ 0 ≤ l3 ∧ l3 ≤ 23) → ((0 ≤ l4 → (GI mX8_at 25 [some (.ref b0), some (.int l1), some (.int l2), some (.int l3), some (.int l4), some (.int l4), some (.int 0)] [] K x Q)) ∧ (¬ 0 ≤ l4 → (Q (-2) x)))))) : mSI mX8_at [.ref b0, .int l1, .int l2, .int l3, .int l4] K x Q := by
  refine s_I (by decide) (by simp [Value.category]) (Nat.le_of_ble_eq_true rfl) ?_
  show mGM mX8_at 0 [some (.ref b0), some (.int l1), some (.int l2), some (.int l3), some (.int l4), none, none] [] (hp K x) (PI K Q)
  refine r_aload_n (pc := 0) dX8_at_0 rfl ?_
  refine r_iload_n (pc := 1) dX8_at_1 rfl ?_
  refine r_iload_n (pc := 2) dX8_at_2 rfl ?_
  refine r_iload_n (pc := 3) dX8_at_3 rfl ?_
  obtain ⟨i_1, K0⟩ := K0
  refine s_VI (pc := 4) mX8_isPlace (ci := 8) (a := b0) (As := [.int l1, .int l2, .int l3]) dX8_at_4 lk_X8_287 in_X8_isPlace mo_X8_isPlace ⟨by decide, rfl⟩ ⟨by decide, by decide⟩ (Nat.le_of_ble_eq_true rfl) k_b0 (sp_X8_isPlace k_b0 g_b0_1 k_b0_1 i_1 ?_)
  refine r_if_eq (pc := 7) (tgt := 15) dX8_at_7 (by decide) (fun q => ?_) (fun q => ?_)
  · have q := (b2i_z _).mp q
    have K0 := K0.1 q
    refine r_bipush (pc := 15) (v := (-2)) dX8_at_15 (by decide) ?_
    exact s_iret rfl dX8_at_17 K0
  · have q := b2i_nz q
    have K0 := K0.2 q
    refine r_iload (pc := 10) dX8_at_10 rfl ?_
    refine r_if_ge (pc := 12) (tgt := 18) dX8_at_12 (by decide) (fun q => ?_) (fun q => ?_)
    · have K0 := K0.1 q
      refine r_iload (pc := 18) dX8_at_18 rfl ?_
      refine r_istore (pc := 20) dX8_at_20 (by decide) ?_
      refine r_iconst (pc := 22) (L := [some (.ref b0), some (.int l1), some (.int l2), some (.int l3), some (.int l4), some (.int l4), none]) (v := 0) dX8_at_22 (by decide) ?_
      refine r_istore (pc := 23) dX8_at_23 (by decide) ?_
      exact r_le (L' := [some (.ref b0), some (.int l1), some (.int l2), some (.int l3), some (.int l4), some (.int l4), some (.int 0)]) ⟨rfl, ⟨rfl, ⟨rfl, ⟨rfl, ⟨rfl, ⟨rfl, ⟨rfl, trivial⟩⟩⟩⟩⟩⟩⟩ K0
    · have K0 := K0.2 q
      refine r_bipush (pc := 15) (v := (-2)) dX8_at_15 (by decide) ?_
      exact s_iret rfl dX8_at_17 K0
set_option maxHeartbeats 2000000 in
theorem v_X8_at_25 {K : Sh} {x : Cn} {Q : Int32 → Cn → Prop} {b0 : Nat} {l1 : Int32} {l2 : Int32} {l3 : Int32} {l4 : Int32} {l5 : Int32} {l6 : Int32} {b0_1 : Nat} {n_b0_1 : Nat} {b0_3 : Nat} {n_b0_3 : Nat} (k_b0 : kk K b0 = some (8, 0)) (g_b0_1 : gr x b0 1 = some b0_1) (k_b0_1 : kk K b0_1 = some (20, n_b0_1)) (g_b0_3 : gr x b0 3 = some b0_3) (k_b0_3 : kk K b0_3 = some (20, n_b0_3)) (K0 : vp_in 2 n_b0_1 ∧ (((gi x b0_1 2) ≤ l6 → (Q (-1) x)) ∧ (¬ (gi x b0_1 2) ≤ l6 → ((l24 l6 n_b0_3) ∧ ((¬ (so (gi x b0_3) (l6 : Int32).toNatClampNeg 1) = l2 → (GI mX8_at 25 [some (.ref b0), some (.int l1), some (.int l2), some (.int l3), some (.int l4), some (.int l5), some (.int (l6 + 1))] [] K x Q)) ∧ ((so (gi x b0_3) (l6 : Int32).toNatClampNeg 1) = l2 → ((¬ (so (gi x b0_3) (l6 : Int32).toNatClampNeg 2) = l3 → (GI mX8_at 25 [some (.ref b0), some (.int l1), some (.int l2), some (.int l3), some (.int l4), some (.int l5), some (.int (l6 + 1))] [] K x Q)) ∧ ((so (gi x b0_3) (l6 : Int32).toNatClampNeg 2) = l3 → (((f_has (bas (gi x b0_3) (l6 : Int32).toNatClampNeg) l1) → ((¬ l5 = 0 → (GI mX8_at 25 [some (.ref b0), some (.int l1), some (.int l2), some (.int l3), some (.int l4), some (.int (l5 + (-1))), some (.int (l6 + 1))] [] K x Q)) ∧ (l5 = 0 → (Q l6 x)))) ∧ (¬ (f_has (bas (gi x b0_3) (l6 : Int32).toNatClampNeg) l1) → (GI mX8_at 25 [some (.ref b0), some (.int l1), some (.int l2), some (.int l3), some (.int l4), some (.int l5), some (.int (l6 + 1))] [] K x Q))))))))))) : GI mX8_at 25 [some (.ref b0), some (.int l1), some (.int l2), some (.int l3), some (.int l4), some (.int l5), some (.int l6)] [] K x Q := by
  show mGM mX8_at 25 [some (.ref b0), some (.int l1), some (.int l2), some (.int l3), some (.int l4), some (.int l5), some (.int l6)] [] (hp K x) (PI K Q)
  refine r_iload (pc := 25) dX8_at_25 rfl ?_
  refine r_aload_n (pc := 27) dX8_at_27 rfl ?_
  refine s_getR (pc := 28) dX8_at_28 fl_X8_9 rfl k_b0 g_b0_1 ?_
  refine r_iconst (pc := 31) (v := 2) dX8_at_31 (by decide) ?_
  obtain ⟨i_1, K0⟩ := K0
  refine s_iald (pc := 32) dX8_at_32 k_b0_1 i_1 ?_
  refine r_icmp_ge (pc := 33) (tgt := 91) dX8_at_33 (by decide) (fun q => ?_) (fun q => ?_)
  · have K0 := K0.1 q
    refine r_iconst (pc := 91) (v := (-1)) dX8_at_91 (by decide) ?_
    exact s_iret rfl dX8_at_92 K0
  · have K0 := K0.2 q
    refine r_aload_n (pc := 36) dX8_at_36 rfl ?_
    refine r_iload (pc := 37) dX8_at_37 rfl ?_
    refine r_iconst (pc := 39) (v := 1) dX8_at_39 (by decide) ?_
    obtain ⟨p_3, K0⟩ := K0
    refine s_VI (pc := 40) mX8_one (ci := 8) (a := b0) (As := [.int l6, .int 1]) dX8_at_40 lk_X8_67 in_X8_one mo_X8_one ⟨by decide, rfl⟩ ⟨by decide, by decide⟩ (Nat.le_of_ble_eq_true rfl) k_b0 (sr_X8_one k_b0 g_b0_3 k_b0_3 p_3 ⟨by decide, by decide⟩ ?_)
    refine r_iload_n (pc := 43) dX8_at_43 rfl ?_
    refine r_icmp_ne (pc := 44) (tgt := 85) dX8_at_44 (by decide) (fun q => ?_) (fun q => ?_)
    · have K0 := K0.1 q
      refine r_iinc (pc := 85) (v := l6 + 1) dX8_at_85 rfl rfl (by decide) ?_
      refine r_goto (pc := 88) (L := [some (.ref b0), some (.int l1), some (.int l2), some (.int l3), some (.int l4), some (.int l5), some (.int (l6 + 1))]) (tgt := 25) dX8_at_88 (by decide) ?_
      exact r_le (L' := [some (.ref b0), some (.int l1), some (.int l2), some (.int l3), some (.int l4), some (.int l5), some (.int (l6 + 1))]) ⟨rfl, ⟨rfl, ⟨rfl, ⟨rfl, ⟨rfl, ⟨rfl, ⟨rfl, trivial⟩⟩⟩⟩⟩⟩⟩ K0
    · have K0 := K0.2 q
      refine r_aload_n (pc := 47) dX8_at_47 rfl ?_
      refine r_iload (pc := 48) dX8_at_48 rfl ?_
      refine r_iconst (pc := 50) (v := 2) dX8_at_50 (by decide) ?_
      refine s_VI (pc := 51) mX8_one (ci := 8) (a := b0) (As := [.int l6, .int 2]) dX8_at_51 lk_X8_67 in_X8_one mo_X8_one ⟨by decide, rfl⟩ ⟨by decide, by decide⟩ (Nat.le_of_ble_eq_true rfl) k_b0 (sr_X8_one k_b0 g_b0_3 k_b0_3 p_3 ⟨by decide, by decide⟩ ?_)
      refine r_iload_n (pc := 54) dX8_at_54 rfl ?_
      refine r_icmp_ne (pc := 55) (tgt := 85) dX8_at_55 (by decide) (fun q => ?_) (fun q => ?_)
      · have K0 := K0.1 q
        refine r_iinc (pc := 85) (v := l6 + 1) dX8_at_85 rfl rfl (by decide) ?_
        refine r_goto (pc := 88) (L := [some (.ref b0), some (.int l1), some (.int l2), some (.int l3), some (.int l4), some (.int l5), some (.int (l6 + 1))]) (tgt := 25) dX8_at_88 (by decide) ?_
        exact r_le (L' := [some (.ref b0), some (.int l1), some (.int l2), some (.int l3), some (.int l4), some (.int l5), some (.int (l6 + 1))]) ⟨rfl, ⟨rfl, ⟨rfl, ⟨rfl, ⟨rfl, ⟨rfl, ⟨rfl, trivial⟩⟩⟩⟩⟩⟩⟩ K0
      · have K0 := K0.2 q
        refine r_aload_n (pc := 58) dX8_at_58 rfl ?_
        refine r_iload (pc := 59) dX8_at_59 rfl ?_
        refine s_VI (pc := 61) mX8_basisOf (ci := 8) (a := b0) (As := [.int l6]) dX8_at_61 lk_X8_71 in_X8_basisOf mo_X8_basisOf ⟨by decide, rfl⟩ ⟨by decide, by decide⟩ (Nat.le_of_ble_eq_true rfl) k_b0 (sr_X8_basisOf k_b0 g_b0_3 k_b0_3 p_3 ?_)
        refine r_iload_n (pc := 64) dX8_at_64 rfl ?_
        refine s_SI (pc := 65) mX8_has (As := [.int (bas (gi x b0_3) (l6 : Int32).toNatClampNeg), .int l1]) dX8_at_65 lk_X8_75 st_X8_has mo_X8_has ⟨by decide, by decide⟩ (Nat.le_of_ble_eq_true rfl) (sp_X8_has  ?_)
        refine r_if_ne (pc := 68) (tgt := 74) dX8_at_68 (by decide) (fun q => ?_) (fun q => ?_)
        · have q := b2i_nz q
          have K0 := K0.1 q
          refine r_iload (pc := 74) dX8_at_74 rfl ?_
          refine r_if_ne (pc := 76) (tgt := 82) dX8_at_76 (by decide) (fun q => ?_) (fun q => ?_)
          · have K0 := K0.1 q
            refine r_iinc (pc := 82) (v := l5 + (-1)) dX8_at_82 rfl rfl (by decide) ?_
            refine r_iinc (pc := 85) (L := [some (.ref b0), some (.int l1), some (.int l2), some (.int l3), some (.int l4), some (.int (l5 + (-1))), some (.int l6)]) (v := l6 + 1) dX8_at_85 rfl rfl (by decide) ?_
            refine r_goto (pc := 88) (L := [some (.ref b0), some (.int l1), some (.int l2), some (.int l3), some (.int l4), some (.int (l5 + (-1))), some (.int (l6 + 1))]) (tgt := 25) dX8_at_88 (by decide) ?_
            exact r_le (L' := [some (.ref b0), some (.int l1), some (.int l2), some (.int l3), some (.int l4), some (.int (l5 + (-1))), some (.int (l6 + 1))]) ⟨rfl, ⟨rfl, ⟨rfl, ⟨rfl, ⟨rfl, ⟨rfl, ⟨rfl, trivial⟩⟩⟩⟩⟩⟩⟩ K0
          · have K0 := K0.2 q
            refine r_iload (pc := 79) dX8_at_79 rfl ?_
            exact s_iret rfl dX8_at_81 K0
        · have q := (b2i_z _).mp q
          have K0 := K0.2 q
          refine r_goto (pc := 71) (tgt := 85) dX8_at_71 (by decide) ?_
          refine r_iinc (pc := 85) (v := l6 + 1) dX8_at_85 rfl rfl (by decide) ?_
          refine r_goto (pc := 88) (L := [some (.ref b0), some (.int l1), some (.int l2), some (.int l3), some (.int l4), some (.int l5), some (.int (l6 + 1))]) (tgt := 25) dX8_at_88 (by decide) ?_
          exact r_le (L' := [some (.ref b0), some (.int l1), some (.int l2), some (.int l3), some (.int l4), some (.int l5), some (.int (l6 + 1))]) ⟨rfl, ⟨rfl, ⟨rfl, ⟨rfl, ⟨rfl, ⟨rfl, ⟨rfl, trivial⟩⟩⟩⟩⟩⟩⟩ K0
set_option maxHeartbeats 2000000 in
theorem v_X7_common_0 {K : Sh} {x : Cn} {Q : Int32 → Cn → Prop} {b0 : Nat} {l1 : Int32} {l2 : Int32} {b0_2 : Nat} {b0_2_7 : Nat} {n_b0_2_7 : Nat} (k_b0 : kk K b0 = some (7, 0)) (g_b0_2 : gr x b0 2 = some b0_2) (k_b0_2 : kk K b0_2 = some (4, 0)) (g_b0_2_7 : gr x b0_2 7 = some b0_2_7) (k_b0_2_7 : kk K b0_2_7 = some (23, n_b0_2_7)) (K0 : (¬ (0 ≤ l1 ∧ l1 < gi x b0_2 3) → (Q (-2) x)) ∧ ((0 ≤ l1 ∧ l1 < gi x b0_2 3) → (((0 ≤ l2 ∧ l2 < gi x b0_2 3) → (vp_in l1 n_b0_2_7 ∧ (∃ c_4 : Nat, gr x b0_2_7 ((l1 : Int32).toNatClampNeg) = some c_4 ∧ (vp_in l2 n_b0_2_7 ∧ (∃ c_7 : Nat, gr x b0_2_7 ((l2 : Int32).toNatClampNeg) = some c_7 ∧ (kk K c_4 = some (5, 0) ∧ (kk K c_7 = some (5, 0) ∧ ((¬ (gi x c_4 1) = (gi x c_7 1) → (Q 0 x)) ∧ ((gi x c_4 1) = (gi x c_7 1) → (((gi x c_4 2) = (gi x c_7 2) → (Q (nI (cpt ((f_held x c_4) &&& (f_held x c_7)))) x)) ∧ (¬ (gi x c_4 2) = (gi x c_7 2) → (Q 0 x)))))))))))) ∧ (¬ (0 ≤ l2 ∧ l2 < gi x b0_2 3) → (Q (-2) x))))) : mSI mX7_common [.ref b0, .int l1, .int l2] K x Q := by
  refine s_I (by decide) (by simp [Value.category]) (Nat.le_of_ble_eq_true rfl) ?_
  show mGM mX7_common 0 [some (.ref b0), some (.int l1), some (.int l2), none, none] [] (hp K x) (PI K Q)
  refine r_aload_n (pc := 0) dX7_common_0 rfl ?_
  refine r_iload_n (pc := 1) dX7_common_1 rfl ?_
  refine s_VI (pc := 2) mX7_isSeries (ci := 7) (a := b0) (As := [.int l1]) dX7_common_2 lk_X7_132 in_X7_isSeries mo_X7_isSeries ⟨by decide, rfl⟩ ⟨by decide, by decide⟩ (Nat.le_of_ble_eq_true rfl) k_b0 (sp_X7_isSeries k_b0 g_b0_2 k_b0_2 ?_)
  refine r_if_eq (pc := 5) (tgt := 16) dX7_common_5 (by decide) (fun q => ?_) (fun q => ?_)
  · have q := (b2i_z _).mp q
    have K0 := K0.1 q
    refine r_bipush (pc := 16) (v := (-2)) dX7_common_16 (by decide) ?_
    exact s_iret rfl dX7_common_18 K0
  · have q := b2i_nz q
    have K0 := K0.2 q
    refine r_aload_n (pc := 8) dX7_common_8 rfl ?_
    refine r_iload_n (pc := 9) dX7_common_9 rfl ?_
    refine s_VI (pc := 10) mX7_isSeries (ci := 7) (a := b0) (As := [.int l2]) dX7_common_10 lk_X7_132 in_X7_isSeries mo_X7_isSeries ⟨by decide, rfl⟩ ⟨by decide, by decide⟩ (Nat.le_of_ble_eq_true rfl) k_b0 (sp_X7_isSeries k_b0 g_b0_2 k_b0_2 ?_)
    refine r_if_ne (pc := 13) (tgt := 19) dX7_common_13 (by decide) (fun q => ?_) (fun q => ?_)
    · have q := b2i_nz q
      have K0 := K0.1 q
      refine r_aload_n (pc := 19) dX7_common_19 rfl ?_
      refine s_getR (pc := 20) dX7_common_20 fl_X7_20 rfl k_b0 g_b0_2 ?_
      refine s_getR (pc := 23) dX7_common_23 fl_X7_135 rfl k_b0_2 g_b0_2_7 ?_
      refine r_iload_n (pc := 26) dX7_common_26 rfl ?_
      obtain ⟨i_3, K0⟩ := K0
      obtain ⟨c_4, g_5, K0⟩ := K0
      refine s_aald (pc := 27) dX7_common_27 (by decide) rfl k_b0_2_7 i_3 g_5 ?_
      refine r_astore_n (pc := 28) dX7_common_28 (by decide) ?_
      refine r_aload_n (pc := 29) (L := [some (.ref b0), some (.int l1), some (.int l2), some (.ref c_4), none]) dX7_common_29 rfl ?_
      refine s_getR (pc := 30) dX7_common_30 fl_X7_20 rfl k_b0 g_b0_2 ?_
      refine s_getR (pc := 33) dX7_common_33 fl_X7_135 rfl k_b0_2 g_b0_2_7 ?_
      refine r_iload_n (pc := 36) dX7_common_36 rfl ?_
      obtain ⟨i_6, K0⟩ := K0
      obtain ⟨c_7, g_8, K0⟩ := K0
      refine s_aald (pc := 37) dX7_common_37 (by decide) rfl k_b0_2_7 i_6 g_8 ?_
      refine r_astore (pc := 38) dX7_common_38 (by decide) ?_
      refine r_aload_n (pc := 40) (L := [some (.ref b0), some (.int l1), some (.int l2), some (.ref c_4), some (.ref c_7)]) dX7_common_40 rfl ?_
      obtain ⟨e_9, K0⟩ := K0
      refine s_getI (pc := 41) dX7_common_41 fl_X7_144 rfl e_9 ?_
      refine r_aload (pc := 44) dX7_common_44 rfl ?_
      obtain ⟨e_10, K0⟩ := K0
      refine s_getI (pc := 46) dX7_common_46 fl_X7_144 rfl e_10 ?_
      refine r_icmp_ne (pc := 49) (tgt := 64) dX7_common_49 (by decide) (fun q => ?_) (fun q => ?_)
      · have K0 := K0.1 q
        refine r_iconst (pc := 64) (v := 0) dX7_common_64 (by decide) ?_
        exact s_iret rfl dX7_common_65 K0
      · have K0 := K0.2 q
        refine r_aload_n (pc := 52) dX7_common_52 rfl ?_
        refine s_getI (pc := 53) dX7_common_53 fl_X7_147 rfl e_9 ?_
        refine r_aload (pc := 56) dX7_common_56 rfl ?_
        refine s_getI (pc := 58) dX7_common_58 fl_X7_147 rfl e_10 ?_
        refine r_icmp_eq (pc := 61) (tgt := 66) dX7_common_61 (by decide) (fun q => ?_) (fun q => ?_)
        · have K0 := K0.1 q
          refine r_aload_n (pc := 66) dX7_common_66 rfl ?_
          refine s_VI (pc := 67) mX5_heldBits (ci := 5) (a := c_4) (As := []) dX7_common_67 lk_X7_272 in_X5_heldBits mo_X5_heldBits ⟨by decide, rfl⟩ ⟨by decide, by decide⟩ (Nat.le_of_ble_eq_true rfl) e_9 (sp_X5_heldBits e_9 ?_)
          refine r_aload (pc := 70) dX7_common_70 rfl ?_
          refine s_VI (pc := 72) mX5_heldBits (ci := 5) (a := c_7) (As := []) dX7_common_72 lk_X7_272 in_X5_heldBits mo_X5_heldBits ⟨by decide, rfl⟩ ⟨by decide, by decide⟩ (Nat.le_of_ble_eq_true rfl) e_10 (sp_X5_heldBits e_10 ?_)
          refine r_iand (pc := 75) dX7_common_75 ?_
          refine s_SI (pc := 76) mJ6_bitCount_0f7a4 (As := [.int ((f_held x c_4) &&& (f_held x c_7))]) dX7_common_76 lk_X7_255 st_J6_bitCount_0f7a4 mo_J6_bitCount_0f7a4 ⟨by decide, by decide⟩ (Nat.le_of_ble_eq_true rfl) (sp_bc  ?_)
          exact s_iret rfl dX7_common_79 K0
        · have K0 := K0.2 q
          refine r_iconst (pc := 64) (v := 0) dX7_common_64 (by decide) ?_
          exact s_iret rfl dX7_common_65 K0
    · have q := (b2i_z _).mp q
      have K0 := K0.2 q
      refine r_bipush (pc := 16) (v := (-2)) dX7_common_16 (by decide) ?_
      exact s_iret rfl dX7_common_18 K0
set_option maxHeartbeats 2000000 in
theorem v_X8_common_0 {K : Sh} {x : Cn} {Q : Int32 → Cn → Prop} {b0 : Nat} {l1 : Int32} {l2 : Int32} {b0_1 : Nat} {n_b0_1 : Nat} {b0_3 : Nat} {n_b0_3 : Nat} (k_b0 : kk K b0 = some (8, 0)) (g_b0_1 : gr x b0 1 = some b0_1) (k_b0_1 : kk K b0_1 = some (20, n_b0_1)) (g_b0_3 : gr x b0 3 = some b0_3) (k_b0_3 : kk K b0_3 = some (20, n_b0_3)) (K0 : vp_in 2 n_b0_1 ∧ ((¬ (0 ≤ l1 ∧ l1 ≤ gi x b0_1 2 - 1) → (Q (-2) x)) ∧ ((0 ≤ l1 ∧ l1 ≤ gi x b0_1 2 - 1) → (((0 ≤ l2 ∧ l2 ≤ gi x b0_1 2 - 1) → ((l24 l1 n_b0_3) ∧ ((l24 l2 n_b0_3) ∧ ((¬ (so (gi x b0_3) (l1 : Int32).toNatClampNeg 1) = (so (gi x b0_3) (l2 : Int32).toNatClampNeg 1) → (Q 0 x)) ∧ ((so (gi x b0_3) (l1 : Int32).toNatClampNeg 1) = (so (gi x b0_3) (l2 : Int32).toNatClampNeg 1) → ((¬ (so (gi x b0_3) (l1 : Int32).toNatClampNeg 2) = (so (gi x b0_3) (l2 : Int32).toNatClampNeg 2) → (Q 0 x)) ∧ ((so (gi x b0_3) (l1 : Int32).toNatClampNeg 2) = (so (gi x b0_3) (l2 : Int32).toNatClampNeg 2) → (Q (nI (cpt ((bas (gi x b0_3) (l1 : Int32).toNatClampNeg) &&& (bas (gi x b0_3) (l2 : Int32).toNatClampNeg)))) x)))))))) ∧ (¬ (0 ≤ l2 ∧ l2 ≤ gi x b0_1 2 - 1) → (Q (-2) x)))))) : mSI mX8_common [.ref b0, .int l1, .int l2] K x Q := by
  refine s_I (by decide) (by simp [Value.category]) (Nat.le_of_ble_eq_true rfl) ?_
  show mGM mX8_common 0 [some (.ref b0), some (.int l1), some (.int l2)] [] (hp K x) (PI K Q)
  refine r_aload_n (pc := 0) dX8_common_0 rfl ?_
  refine r_iload_n (pc := 1) dX8_common_1 rfl ?_
  obtain ⟨i_1, K0⟩ := K0
  refine s_VI (pc := 2) mX8_isSeries (ci := 8) (a := b0) (As := [.int l1]) dX8_common_2 lk_X8_273 in_X8_isSeries mo_X8_isSeries ⟨by decide, rfl⟩ ⟨by decide, by decide⟩ (Nat.le_of_ble_eq_true rfl) k_b0 (sp_X8_isSeries k_b0 g_b0_1 k_b0_1 i_1 ?_)
  refine r_if_eq (pc := 5) (tgt := 16) dX8_common_5 (by decide) (fun q => ?_) (fun q => ?_)
  · have q := (b2i_z _).mp q
    have K0 := K0.1 q
    refine r_bipush (pc := 16) (v := (-2)) dX8_common_16 (by decide) ?_
    exact s_iret rfl dX8_common_18 K0
  · have q := b2i_nz q
    have K0 := K0.2 q
    refine r_aload_n (pc := 8) dX8_common_8 rfl ?_
    refine r_iload_n (pc := 9) dX8_common_9 rfl ?_
    refine s_VI (pc := 10) mX8_isSeries (ci := 8) (a := b0) (As := [.int l2]) dX8_common_10 lk_X8_273 in_X8_isSeries mo_X8_isSeries ⟨by decide, rfl⟩ ⟨by decide, by decide⟩ (Nat.le_of_ble_eq_true rfl) k_b0 (sp_X8_isSeries k_b0 g_b0_1 k_b0_1 i_1 ?_)
    refine r_if_ne (pc := 13) (tgt := 19) dX8_common_13 (by decide) (fun q => ?_) (fun q => ?_)
    · have q := b2i_nz q
      have K0 := K0.1 q
      refine r_aload_n (pc := 19) dX8_common_19 rfl ?_
      refine r_iload_n (pc := 20) dX8_common_20 rfl ?_
      refine r_iconst (pc := 21) (v := 1) dX8_common_21 (by decide) ?_
      obtain ⟨p_4, K0⟩ := K0
      refine s_VI (pc := 22) mX8_one (ci := 8) (a := b0) (As := [.int l1, .int 1]) dX8_common_22 lk_X8_67 in_X8_one mo_X8_one ⟨by decide, rfl⟩ ⟨by decide, by decide⟩ (Nat.le_of_ble_eq_true rfl) k_b0 (sr_X8_one k_b0 g_b0_3 k_b0_3 p_4 ⟨by decide, by decide⟩ ?_)
      refine r_aload_n (pc := 25) dX8_common_25 rfl ?_
      refine r_iload_n (pc := 26) dX8_common_26 rfl ?_
      refine r_iconst (pc := 27) (v := 1) dX8_common_27 (by decide) ?_
      obtain ⟨p_5, K0⟩ := K0
      refine s_VI (pc := 28) mX8_one (ci := 8) (a := b0) (As := [.int l2, .int 1]) dX8_common_28 lk_X8_67 in_X8_one mo_X8_one ⟨by decide, rfl⟩ ⟨by decide, by decide⟩ (Nat.le_of_ble_eq_true rfl) k_b0 (sr_X8_one k_b0 g_b0_3 k_b0_3 p_5 ⟨by decide, by decide⟩ ?_)
      refine r_icmp_ne (pc := 31) (tgt := 66) dX8_common_31 (by decide) (fun q => ?_) (fun q => ?_)
      · have K0 := K0.1 q
        refine r_iconst (pc := 66) (v := 0) dX8_common_66 (by decide) ?_
        exact s_iret rfl dX8_common_67 K0
      · have K0 := K0.2 q
        refine r_aload_n (pc := 34) dX8_common_34 rfl ?_
        refine r_iload_n (pc := 35) dX8_common_35 rfl ?_
        refine r_iconst (pc := 36) (v := 2) dX8_common_36 (by decide) ?_
        refine s_VI (pc := 37) mX8_one (ci := 8) (a := b0) (As := [.int l1, .int 2]) dX8_common_37 lk_X8_67 in_X8_one mo_X8_one ⟨by decide, rfl⟩ ⟨by decide, by decide⟩ (Nat.le_of_ble_eq_true rfl) k_b0 (sr_X8_one k_b0 g_b0_3 k_b0_3 p_4 ⟨by decide, by decide⟩ ?_)
        refine r_aload_n (pc := 40) dX8_common_40 rfl ?_
        refine r_iload_n (pc := 41) dX8_common_41 rfl ?_
        refine r_iconst (pc := 42) (v := 2) dX8_common_42 (by decide) ?_
        refine s_VI (pc := 43) mX8_one (ci := 8) (a := b0) (As := [.int l2, .int 2]) dX8_common_43 lk_X8_67 in_X8_one mo_X8_one ⟨by decide, rfl⟩ ⟨by decide, by decide⟩ (Nat.le_of_ble_eq_true rfl) k_b0 (sr_X8_one k_b0 g_b0_3 k_b0_3 p_5 ⟨by decide, by decide⟩ ?_)
        refine r_icmp_ne (pc := 46) (tgt := 66) dX8_common_46 (by decide) (fun q => ?_) (fun q => ?_)
        · have K0 := K0.1 q
          refine r_iconst (pc := 66) (v := 0) dX8_common_66 (by decide) ?_
          exact s_iret rfl dX8_common_67 K0
        · have K0 := K0.2 q
          refine r_aload_n (pc := 49) dX8_common_49 rfl ?_
          refine r_iload_n (pc := 50) dX8_common_50 rfl ?_
          refine s_VI (pc := 51) mX8_basisOf (ci := 8) (a := b0) (As := [.int l1]) dX8_common_51 lk_X8_71 in_X8_basisOf mo_X8_basisOf ⟨by decide, rfl⟩ ⟨by decide, by decide⟩ (Nat.le_of_ble_eq_true rfl) k_b0 (sr_X8_basisOf k_b0 g_b0_3 k_b0_3 p_4 ?_)
          refine r_aload_n (pc := 54) dX8_common_54 rfl ?_
          refine r_iload_n (pc := 55) dX8_common_55 rfl ?_
          refine s_VI (pc := 56) mX8_basisOf (ci := 8) (a := b0) (As := [.int l2]) dX8_common_56 lk_X8_71 in_X8_basisOf mo_X8_basisOf ⟨by decide, rfl⟩ ⟨by decide, by decide⟩ (Nat.le_of_ble_eq_true rfl) k_b0 (sr_X8_basisOf k_b0 g_b0_3 k_b0_3 p_5 ?_)
          refine r_iand (pc := 59) dX8_common_59 ?_
          refine s_SI (pc := 60) mX8_bits (As := [.int ((bas (gi x b0_3) (l1 : Int32).toNatClampNeg) &&& (bas (gi x b0_3) (l2 : Int32).toNatClampNeg))]) dX8_common_60 lk_X8_296 st_X8_bits mo_X8_bits ⟨by decide, by decide⟩ (Nat.le_of_ble_eq_true rfl) (sp_X8_bits  ?_)
          refine r_goto (pc := 63) (tgt := 67) dX8_common_63 (by decide) ?_
          exact s_iret rfl dX8_common_67 K0
    · have q := (b2i_z _).mp q
      have K0 := K0.2 q
      refine r_bipush (pc := 16) (v := (-2)) dX8_common_16 (by decide) ?_
      exact s_iret rfl dX8_common_18 K0
theorem eq_load (a b c d : Int32) : Both mX7_load mX8_load [.int a, .int b, .int c, .int d] := by
  intro x R
  obtain ⟨W, C, S, A, N, E, -, -⟩ := R.sea
  have hn := E.nums
  have ht := Rel.t2 E
  have hS : S ≤ 24 := hn.2.2.2.2.2.2.1
  have hW : W ≤ 30 := hn.2.2.2.2.1
  have iC := cell_iff (x := x) (T := gi x 718) (l1 := a) (l2 := b) (l3 := c) (g := gi x 2 0) hW hn.1 ht.1
  have rf : mSI mX8_load [.ref 717, .int a, .int b, .int c, .int d] KW x (fun r' z => (if (0 ≤ a ∧ a < gi x 2 0 ∧ 0 < gi x 2 0 ∧ 0 ≤ b ∧ b < 7 ∧ 0 ≤ c ∧ c < 24) ∧ (0 ≤ d ∧ d ≤ 2) then ldB (gi x 718) S a.toNatClampNeg b c d (-1) else -2) = r' ∧ Rel z) := by
    refine v_X8_load_0 km R.2.1.1 km1 ⟨v0 (k := 0) (by decide) rfl rfl, ?_⟩
    rw [iC]
    refine ⟨fun z => ⟨if_neg (fun w => z w.1), R⟩, fun z => ⟨fun z2 => ⟨if_neg (fun w => z2 w.2), R⟩, fun z2 => ?_⟩⟩
    rw [if_pos ⟨z, z2⟩]
    rw [hn.1] at z
    obtain ⟨w, hw, rfl⟩ := inN (by omega) ⟨z.1, z.2.1⟩
    rw [nI_clamp (by omega)]
    exact sp_X8_loadBut R.2.1 km1 ht.2.2.1 hS (by omega) ⟨rfl, R⟩
  refine v_X7_load_0 k0 R.1.2.1 (ks0 E.1) ⟨fun z => by rwa [if_neg (fun w => z w.1)] at rf, fun z => ⟨fun z2 => ?_, fun z2 => by rwa [if_neg (fun w => z2 w.2)] at rf⟩⟩
  rw [if_pos ⟨z, z2⟩] at rf
  rw [hn.1] at z
  obtain ⟨w, hw, rfl⟩ := inN (by omega) ⟨z.1, z.2.1⟩
  rw [nI_clamp (by omega)] at rf
  refine ⟨fun z3 => sp_X4_loadIn E (by omega) ⟨fun z4 => ⟨R.1.2.1, sp_X4_loadOf E (by omega) ?_⟩, fun z4 => ?_⟩, fun z3 => sp_X4_loadOf E (by omega) ?_⟩
  · obtain ⟨k, hk, rfl⟩ := nI_of2 (M := 2) (n := 2) (by decide) (Int32.not_lt.mpr z2.1) z2.2
    have hk' : k = 2 := by
      have : k = 0 ∨ k = 1 ∨ k = 2 := by omega
      rcases this with rfl | rfl | rfl
      · exact absurd (by decide) z3
      · exact absurd (by decide) z4
      · rfl
    subst hk'
    have e3 := ldB_3 (T := gi x 718) (w := w) (d := b) (h := c) (b := -1) S (fun s hs => by obtain ⟨p, -, -, -, -, -, e6⟩ := E.ser hs; exact e6.2.2.2.1)
    rw [e3, Int32.add_sub_cancel]
    exact rf
  · subst z4
    exact rf
  · subst z3
    exact rf
theorem eq_room (a b c d : Int32) : Both mX7_room mX8_room [.int a, .int b, .int c, .int d] := by
  intro x R
  obtain ⟨W, C, S, A, N, E, -, -⟩ := R.sea
  have hn := E.nums
  have ht := Rel.t2 E
  have hS : S ≤ 24 := hn.2.2.2.2.2.2.1
  have hW : W ≤ 30 := hn.2.2.2.2.1
  have iC := cell_iff (x := x) (T := gi x 718) (l1 := a) (l2 := b) (l3 := c) (g := gi x 2 0) hW hn.1 ht.1
  have d1 : (0 ≤ d ∧ d ≤ 1) ↔ (d = 0 ∨ d = 1) := by
    constructor
    · intro z
      obtain ⟨k, hk, rfl⟩ := nI_of2 (M := 1) (n := 1) (by decide) (Int32.not_lt.mpr z.1) z.2
      have : k = 0 ∨ k = 1 := by omega
      rcases this with rfl | rfl
      · exact Or.inl rfl
      · exact Or.inr rfl
    · rintro (rfl | rfl) <;> decide
  let al : Int32 := gi x 718 (6 + 2 * c.toNatClampNeg) - ldB (gi x 718) S a.toNatClampNeg b c 0 (-1)
  let il : Int32 := gi x 718 (7 + 2 * c.toNatClampNeg) - ldB (gi x 718) S a.toNatClampNeg b c 1 (-1)
  have rf : mSI mX8_room [.ref 717, .int a, .int b, .int c, .int d] KW x (fun r' z => (if (0 ≤ a ∧ a < gi x 2 0 ∧ 0 < gi x 2 0 ∧ 0 ≤ b ∧ b < 7 ∧ 0 ≤ c ∧ c < 24) ∧ (d = 0 ∨ d = 1) then (if d = 0 then (if (if il < al then il else al) < 0 then 0 else (if il < al then il else al)) else (if al < 0 then 0 else al)) else -2) = r' ∧ Rel z) := by
    refine v_X8_room_0 km R.2.1.1 km1 ⟨v0 (k := 0) (by decide) rfl rfl, ?_⟩
    rw [iC, d1]
    refine ⟨fun z => ⟨if_neg (fun w => z w.1), R⟩, fun z => ⟨fun z2 => ?_, fun z2 => ⟨if_neg (fun w => z2 w.2), R⟩⟩⟩
    rw [if_pos ⟨z, z2⟩]
    rw [hn.1] at z
    obtain ⟨w, hw, ew⟩ := inN (by omega) ⟨z.1, z.2.1⟩
    obtain ⟨h, hh, eh⟩ := inN (n := 24) (by decide) z.2.2.2.2.2
    have ea : a.toNatClampNeg = w := by rw [ew]; exact nI_clamp (by omega)
    have ec : c.toNatClampNeg = h := by rw [eh]; exact nI_clamp (by omega)
    refine ⟨by rw [eh, ixh]; exact vp_in_nI (by omega) (by decide), ?_⟩
    rw [ew]
    refine sp_X8_loadBut R.2.1 km1 ht.2.2.1 hS (by omega) ⟨R.2.1.1, by rw [eh, ixh1]; exact vp_in_nI (by omega) (by decide), sp_X8_loadBut R.2.1 km1 ht.2.2.1 hS (by omega) ?_⟩
    have e6 : ((6 : Int32) + (2 * c)).toNatClampNeg = 6 + 2 * c.toNatClampNeg := by rw [ec, eh, ixh, nI_clamp (by omega)]
    have e7 : (((6 : Int32) + (2 * c)) + 1).toNatClampNeg = 7 + 2 * c.toNatClampNeg := by rw [ec, eh, ixh1, nI_clamp (by omega)]
    rw [e6, e7, ← ea, mm0, mm0]
    exact ⟨fun z3 => ⟨if_neg z3, R⟩, fun z3 => ⟨if_pos z3, R⟩⟩
  refine v_X7_room_0 k0 R.1.2.1 (ks0 E.1) E.2.1.1 (ks1 E.1) ⟨fun z => by rwa [if_neg (fun w => z w.1)] at rf, fun z => ⟨fun z2 => ?_, fun z2 => by rwa [if_neg (fun w => z2 w.2)] at rf⟩⟩
  rw [if_pos ⟨z, z2⟩] at rf
  rw [hn.1] at z
  obtain ⟨w, hw, ew⟩ := inN (by omega) ⟨z.1, z.2.1⟩
  obtain ⟨h, hh, eh⟩ := inN (n := 24) (by decide) z.2.2.2.2.2
  have ea : a.toNatClampNeg = w := by rw [ew]; exact nI_clamp (by omega)
  have ec : c.toNatClampNeg = h := by rw [eh]; exact nI_clamp (by omega)
  have hl := E.2.2.1.2.2.2.2.2.1 h hh
  refine ⟨by rw [eh]; exact vp_in_nI hh (by decide), ?_⟩
  rw [ew]
  refine sp_X4_loadOf E (by omega) ⟨fun z3 => ?_, fun z3 => ⟨R.1.2.1, 4, E.2.1.2.1, 24, ks2 E.1, by rw [eh]; exact vp_in_nI hh (by decide), sp_X4_loadIn E (by omega) (fun r er => ?_)⟩⟩
  · rw [ec, hl.1, ← ec, ← ew, ← ea]
    rw [if_neg z3] at rf
    exact rf
  · rw [ec, hl.1, hl.2, ← ea, ← ec] at er
    rw [if_pos z3] at rf
    rw [er, ← ew]
    exact rf
theorem eq_at (a b c d : Int32) : Both mX7_at mX8_at [.int a, .int b, .int c, .int d] := by
  intro x R
  obtain ⟨W, C, S, A, N, E, -, -⟩ := R.sea
  have hn := E.nums
  have ht := Rel.t2 E
  have hS : S ≤ 24 := hn.2.2.2.2.2.2.1
  have hW : W ≤ 30 := hn.2.2.2.2.1
  have iC := cell_iff (x := x) (T := gi x 718) (l1 := a) (l2 := b) (l3 := c) (g := gi x 2 0) hW hn.1 ht.1
  have rf : mSI mX8_at [.ref 717, .int a, .int b, .int c, .int d] KW x (fun r' z => (if (0 ≤ a ∧ a < gi x 2 0 ∧ 0 < gi x 2 0 ∧ 0 ≤ b ∧ b < 7 ∧ 0 ≤ c ∧ c < 24) ∧ 0 ≤ d then lpR (stAt (gi x 718) a.toNatClampNeg b c) (fun _ => -1) S 0 d else -2) = r' ∧ Rel z) := by
    refine v_X8_at_0 km R.2.1.1 km1 ⟨v0 (k := 0) (by decide) rfl rfl, ?_⟩
    rw [iC]
    refine ⟨fun z => ⟨if_neg (fun w => z w.1), R⟩, fun z => ⟨fun z2 => ?_, fun z2 => ⟨if_neg (fun w => z2 w.2), R⟩⟩⟩
    rw [if_pos ⟨z, z2⟩]
    rw [hn.1] at z
    obtain ⟨w, hw, rfl⟩ := inN (by omega) ⟨z.1, z.2.1⟩
    rw [nI_clamp (show w < 2 ^ 31 by omega)]
    refine lp_gen (stAt (gi x 718) w b c) (fun _ => -1) (fun s l => GI mX8_at 25 [some (.ref 717), some (.int (nI w)), some (.int b), some (.int c), some (.int d), some (.int l), some (.int (nI s))] [] KW x _) (fun r => lpR (stAt (gi x 718) w b c) (fun _ => -1) S 0 d = r ∧ Rel x) S (fun l k => ?_) (fun s l hs n1 n2 => ?_) S 0 d (by omega) ⟨rfl, R⟩
    · exact v_X8_at_25 km R.2.1.1 km1 R.2.1.2.2.1 km1 ⟨v0 (k := 2) (by decide) rfl rfl, fun _ => k, fun z => absurd (by rw [ht.2.2.1]; exact nI_le (by omega) (by omega)) z⟩
    · refine v_X8_at_25 km R.2.1.1 km1 R.2.1.2.2.1 km1 ⟨v0 (k := 2) (by decide) rfl rfl, fun z => absurd (by rw [ht.2.2.1] at z; exact z) (nI_ge hs (by omega)), fun _ => ⟨l24_nI (by omega) rfl, ?_⟩⟩
      rw [nI_clamp (show s < 2 ^ 31 by omega), f_has_tb _ (by omega), nI_1]
      have no : ¬ cAt (gi x 718) w b c s → stAt (gi x 718) w b c s l = .inl l := fun z => if_neg z
      have ye : cAt (gi x 718) w b c s → stAt (gi x 718) w b c s l = if l = 0 then .inr (nI s) else .inl (l + (-1)) := fun z => if_pos z
      exact ⟨fun z => n1 _ (no (fun g => z g.1)), fun z1 => ⟨fun z => n1 _ (no (fun g => z g.2.1)), fun z2 => ⟨fun z3 => ⟨fun z => n1 _ ((ye ⟨z1, z2, z3⟩).trans (if_neg z)), fun z => n2 _ ((ye ⟨z1, z2, z3⟩).trans (if_pos z))⟩, fun z => n1 _ (no (fun g => z g.2.2))⟩⟩⟩
  refine v_X7_at_0 k0 R.1.2.1 (ks0 E.1) ⟨fun z => by rwa [if_neg (fun w => z w.1)] at rf, fun z => ⟨fun z2 => ?_, fun z2 => by rwa [if_neg (fun w => z2 w.2)] at rf⟩⟩
  rw [if_pos ⟨z, z2⟩] at rf
  rw [hn.1] at z
  obtain ⟨w, hw, rfl⟩ := inN (by omega) ⟨z.1, z.2.1⟩
  rw [nI_clamp (show w < 2 ^ 31 by omega)] at rf
  refine lp_gen (stAt (gi x 718) w b c) (fun _ => -1) (fun s l => GI mX7_at 25 [some (.ref 0), some (.int (nI w)), some (.int b), some (.int c), some (.int d), some (.int l), some (.int (nI s))] [] KW x _) (fun r => mSI mX8_at [.ref 717, .int (nI w), .int b, .int c, .int d] KW x (fun r' z => r = r' ∧ Rel z)) S (fun l k => ?_) (fun s l hs n1 n2 => ?_) S 0 d (by omega) rf
  · exact v_X7_at_25 k0 R.1.2.1 (ks0 E.1) E.2.1.2.2.1 (ks3 E.1) ⟨fun _ => k, fun z => absurd (by rw [hn.2.2.1]; exact nI_le (by omega) (by omega)) z⟩
  · obtain ⟨p, e1, e2, e3, e4, -, e6⟩ := E.ser hs
    refine v_X7_at_25 k0 R.1.2.1 (ks0 E.1) E.2.1.2.2.1 (ks3 E.1) ⟨fun z => absurd (by rw [hn.2.2.1] at z; exact z) (nI_ge hs (by omega)), fun _ => ⟨vp_in_nI (by omega) (by decide), p, by rw [nI_clamp (by omega)]; exact e1, e2, ?_⟩⟩
    rw [e3.1 1 (by decide) (by decide), e3.1 2 (by decide) (by decide), e4, f_bit_tb _ (by omega), nI_1]
    exact ⟨fun z => n1 _ (if_neg z), fun z1 => ⟨fun z => n1 _ ((if_pos z1).trans (if_neg z)), fun z => n2 _ ((if_pos z1).trans (if_pos z))⟩⟩
theorem eq_common (a b : Int32) : Both mX7_common mX8_common [.int a, .int b] := by
  intro x R
  obtain ⟨W, C, S, A, N, E, -, -⟩ := R.sea
  have hn := E.nums
  have ht := Rel.t2 E
  have hS : S ≤ 24 := hn.2.2.2.2.2.2.1
  have i1 := inN' (v := a) (n := S) (by omega)
  have i2 := inN' (v := b) (n := S) (by omega)
  have rf : mSI mX8_common [.ref 717, .int a, .int b] KW x (fun r' z => (if (0 ≤ a ∧ a < nI S) ∧ (0 ≤ b ∧ b < nI S) then (if so (gi x 718) a.toNatClampNeg 1 = so (gi x 718) b.toNatClampNeg 1 ∧ so (gi x 718) a.toNatClampNeg 2 = so (gi x 718) b.toNatClampNeg 2 then nI (cpt (bas (gi x 718) a.toNatClampNeg &&& bas (gi x 718) b.toNatClampNeg)) else 0) else -2) = r' ∧ Rel z) := by
    refine v_X8_common_0 km R.2.1.1 km1 R.2.1.2.2.1 km1 ⟨v0 (k := 2) (by decide) rfl rfl, ?_⟩
    rw [ht.2.2.1, i1, i2]
    refine ⟨fun z => ⟨if_neg (fun w => z w.1), R⟩, fun z => ⟨fun z2 => ?_, fun z2 => ⟨if_neg (fun w => z2 w.2), R⟩⟩⟩
    rw [if_pos ⟨z, z2⟩]
    obtain ⟨s, hs, rfl⟩ := inN (by omega) z
    obtain ⟨t, ht2, rfl⟩ := inN (by omega) z2
    exact ⟨l24_nI (by omega) rfl, l24_nI (by omega) rfl, fun w => ⟨if_neg (fun g => w g.1), R⟩, fun w => ⟨fun w2 => ⟨if_neg (fun g => w2 g.2), R⟩, fun w2 => ⟨if_pos ⟨w, w2⟩, R⟩⟩⟩
  refine v_X7_common_0 k0 R.1.2.1 (ks0 E.1) E.2.1.2.2.1 (ks3 E.1) ?_
  rw [hn.2.2.1]
  refine ⟨fun z => by rwa [if_neg (fun w => z w.1)] at rf, fun z => ⟨fun z2 => ?_, fun z2 => by rwa [if_neg (fun w => z2 w.2)] at rf⟩⟩
  rw [if_pos ⟨z, z2⟩] at rf
  obtain ⟨s, hs, rfl⟩ := inN (by omega) z
  obtain ⟨t, ht2, rfl⟩ := inN (by omega) z2
  obtain ⟨p, e1, e2, e3, e4, -, e6⟩ := E.ser hs
  obtain ⟨p', e1', e2', e3', e4', -, e6'⟩ := E.ser ht2
  rw [nI_clamp (show s < 2 ^ 31 by omega), nI_clamp (show t < 2 ^ 31 by omega)] at rf
  refine ⟨vp_in_nI (by omega) (by decide), p, by rw [nI_clamp (by omega)]; exact e1, vp_in_nI (by omega) (by decide), p', by rw [nI_clamp (by omega)]; exact e1', e2, e2', ?_⟩
  rw [e3.1 1 (by decide) (by decide), e3.1 2 (by decide) (by decide), e3'.1 1 (by decide) (by decide), e3'.1 2 (by decide) (by decide), e4, e4']
  exact ⟨fun w => by rwa [if_neg (fun g => w g.1)] at rf, fun w => ⟨fun w2 => by rwa [if_pos ⟨w, w2⟩] at rf, fun w2 => by rwa [if_neg (fun g => w2 g.2)] at rf⟩⟩


/-! sums of numbers -/
def sN (f : Nat → Nat) : Nat → Nat
  | 0 => 0
  | n + 1 => sN f n + f n
theorem sN_cg {f g : Nat → Nat} : ∀ n, (∀ i, i < n → f i = g i) → sN f n = sN g n := by
  intro n
  induction n with
  | zero => intro _; rfl
  | succ n ih =>
    intro h
    simp only [sN]
    rw [ih (fun i hi => h i (by omega)), h n (by omega)]
theorem sN_add (f g : Nat → Nat) : ∀ n, sN (fun i => f i + g i) n = sN f n + sN g n := by
  intro n
  induction n with
  | zero => rfl
  | succ n ih =>
    simp only [sN]
    rw [ih]
    omega
theorem sN_0 {f : Nat → Nat} : ∀ n, (∀ i, i < n → f i = 0) → sN f n = 0 := by
  intro n
  induction n with
  | zero => intro _; rfl
  | succ n ih =>
    intro h
    simp only [sN]
    rw [ih (fun i hi => h i (by omega)), h n (by omega)]
theorem sN_swap (f : Nat → Nat → Nat) (m : Nat) : ∀ n, sN (fun i => sN (f i) m) n = sN (fun j => sN (fun i => f i j) n) m := by
  intro n
  induction n with
  | zero => exact (sN_0 m (fun _ _ => rfl)).symm
  | succ n ih =>
    simp only [sN]
    rw [ih, sN_add]
theorem sN_split (f : Nat → Nat) (a : Nat) : ∀ b, sN f (a + b) = sN f a + sN (fun j => f (a + j)) b := by
  intro b
  induction b with
  | zero => rfl
  | succ b ih =>
    rw [← Nat.add_assoc]
    simp only [sN]
    rw [ih]
    omega
theorem npc_sN : ∀ k n, npc k n = sN (fun i => if n.testBit i = true then 1 else 0) k := by
  intro k
  induction k with
  | zero => intro n; rfl
  | succ k ih =>
    intro n
    rw [Nat.add_comm k 1, npc_split 1 k n, sN_split _ 1 k, ih]
    congr 1
    · simp only [sN, npc]
      rw [Nat.testBit_zero]
      by_cases h : n % 2 = 1
      · simp [h]
      · have : n % 2 = 0 := by omega
        simp [this]
    · apply sN_cg
      intro i _
      rw [show n / 2 ^ 1 = n >>> 1 from (Nat.shiftRight_eq_div_pow n 1).symm, Nat.testBit_shiftRight]
theorem cpt_sN (v : Int32) : cpt v = sN (fun i => if tb v i = true then 1 else 0) 32 := npc_sN 32 _
theorem sN_acc {f : Nat → Nat} : ∀ n, accT (fun i a => a + nI (f i)) n 0 = nI (sN f n) := by
  intro n
  induction n with
  | zero => rfl
  | succ n ih =>
    simp only [accT, sN]
    rw [ih, nI_add]
theorem tb_wtc {W N i : Nat} (hW : W ≤ 30) (hN : N ≤ W) (hi : i < 32) : tb (f_wtc (nI N) (nI W)) i = decide (N ≤ i ∧ i < W) := by
  unfold f_wtc
  by_cases c : W ≤ N
  · rw [if_pos (nI_le c (by omega)), tb_0, decide_eq_false (by omega)]
  · rw [if_neg (nI_ge (by omega) (by omega))]
    obtain ⟨w, rfl⟩ : ∃ w, W = w + 1 := ⟨W - 1, by omega⟩
    rw [nI_pred, tb_sb0 N (by omega) w (by omega) (by omega) i hi]
    apply decide_eq_decide.mpr
    omega
/-- an hour is full in a week to come -/
def fuI (T : TT) (S W N : Nat) (d : Int32) (h i : Nat) : Nat := if N ≤ i ∧ i < W ∧ T (6 + 2 * h) ≤ nI (nW T S i d (nI h) 0 0) then 1 else 0
theorem fuI0 {T : TT} {S W N : Nat} {d : Int32} {h i : Nat} (c : ¬ (N ≤ i ∧ i < W)) : fuI T S W N d h i = 0 := if_neg (fun u => c ⟨u.1, u.2.1⟩)
theorem nI_z {n : Nat} (h : n < 2 ^ 31) : nI n = 0 ↔ n = 0 := nI_eq (b := 0) h (by decide)
theorem fuI_sum {T : TT} {S W N : Nat} {d : Int32} (hW : W ≤ 30) (hN : N ≤ W) : sN (fun h => sN (fuI T S W N d h) 32) 24 = sN (fun j => sN (fun h => fuI T S W N d h (N + j)) 24) (W - N) := by
  have e : sN (fun i => sN (fun h => fuI T S W N d h i) 24) (N + ((W - N) + (32 - W))) = sN (fun j => sN (fun h => fuI T S W N d h (N + j)) 24) (W - N) := by
    rw [sN_split, sN_split]
    have h1 : sN (fun i => sN (fun h => fuI T S W N d h i) 24) N = 0 := sN_0 N (fun i hi => sN_0 24 (fun h _ => fuI0 (by omega)))
    have h2 : sN (fun j => sN (fun h => fuI T S W N d h (N + (W - N + j))) 24) (32 - W) = 0 := sN_0 (32 - W) (fun i hi => sN_0 24 (fun h _ => fuI0 (by omega)))
    rw [h1, h2, Nat.zero_add, Nat.add_zero]
  rw [sN_swap, ← e]
  congr 1
  omega
/-- nothing stands in an hour from now on -/
def idl (T : TT) (S W N : Nat) (d : Int32) (h : Nat) : Prop := ∀ i, N ≤ i → i < W → nW T S i d (nI h) 0 0 = 0
set_option maxHeartbeats 2000000 in
theorem v_X7_full_0 {K : Sh} {x : Cn} {Q : Int32 → Cn → Prop} {b0 : Nat} {l1 : Int32} {b0_2 : Nat} (k_b0 : kk K b0 = some (7, 0)) (g_b0_2 : gr x b0 2 = some b0_2) (k_b0_2 : kk K b0_2 = some (4, 0)) (K0 : ((0 < gi x b0_2 0 ∧ 0 ≤ l1 ∧ l1 < 7) → (GI mX7_full 15 [some (.ref b0), some (.int l1), some (.int 0), some (.int 0), none] [] K x Q)) ∧ (¬ (0 < gi x b0_2 0 ∧ 0 ≤ l1 ∧ l1 < 7) → (Q (-2) x))) : mSI mX7_full [.ref b0, .int l1] K x Q := by
  refine s_I (by decide) (by simp [Value.category]) (Nat.le_of_ble_eq_true rfl) ?_
  show mGM mX7_full 0 [some (.ref b0), some (.int l1), none, none, none] [] (hp K x) (PI K Q)
  refine r_aload_n (pc := 0) dX7_full_0 rfl ?_
  refine r_iload_n (pc := 1) dX7_full_1 rfl ?_
  refine s_VI (pc := 2) mX7_isDay (ci := 7) (a := b0) (As := [.int l1]) dX7_full_2 lk_X7_245 in_X7_isDay mo_X7_isDay ⟨by decide, rfl⟩ ⟨by decide, by decide⟩ (Nat.le_of_ble_eq_true rfl) k_b0 (sp_X7_isDay k_b0 g_b0_2 k_b0_2 ?_)
  refine r_if_ne (pc := 5) (tgt := 11) dX7_full_5 (by decide) (fun q => ?_) (fun q => ?_)
  · have q := b2i_nz q
    have K0 := K0.1 q
    refine r_iconst (pc := 11) (v := 0) dX7_full_11 (by decide) ?_
    refine r_istore_n (pc := 12) dX7_full_12 (by decide) ?_
    refine r_iconst (pc := 13) (L := [some (.ref b0), some (.int l1), some (.int 0), none, none]) (v := 0) dX7_full_13 (by decide) ?_
    refine r_istore_n (pc := 14) dX7_full_14 (by decide) ?_
    exact r_le (L' := [some (.ref b0), some (.int l1), some (.int 0), some (.int 0), none]) ⟨rfl, ⟨rfl, ⟨rfl, ⟨rfl, trivial⟩⟩⟩⟩ K0
  · have q := (b2i_z _).mp q
    have K0 := K0.2 q
    refine r_bipush (pc := 8) (v := (-2)) dX7_full_8 (by decide) ?_
    exact s_iret rfl dX7_full_10 K0
set_option maxHeartbeats 2000000 in
theorem v_X7_full_15 {K : Sh} {x : Cn} {Q : Int32 → Cn → Prop} {b0 : Nat} {l1 : Int32} {l2 : Int32} {l3 : Int32} {b0_2 : Nat} {b0_2_5 : Nat} {n_b0_2_5 : Nat} (k_b0 : kk K b0 = some (7, 0)) (g_b0_2 : gr x b0 2 = some b0_2) (k_b0_2 : kk K b0_2 = some (4, 0)) (g_b0_2_5 : gr x b0_2 5 = some b0_2_5) (k_b0_2_5 : kk K b0_2_5 = some (20, n_b0_2_5)) (K0 : (24 ≤ l3 → (Q l2 x)) ∧ (¬ 24 ≤ l3 → (vp_in l3 n_b0_2_5 ∧ (mSI mX4_weeksLoaded [.ref b0_2, .int l1, .int l3, .int (gi x b0_2_5 (l3 : Int32).toNatClampNeg), .int 0, .int 0] K x (fun r_4 y_3 => gr y_3 b0 2 = some b0_2 ∧ (GI mX7_full 15 [some (.ref b0), some (.int l1), some (.int (l2 + (nI (cpt (r_4 &&& (f_wtc (gi y_3 b0_2 1) (gi y_3 b0_2 0))))))), some (.int (l3 + 1)), none] [] K y_3 Q)))))) : GI mX7_full 15 [some (.ref b0), some (.int l1), some (.int l2), some (.int l3), none] [] K x Q := by
  show mGM mX7_full 15 [some (.ref b0), some (.int l1), some (.int l2), some (.int l3), none] [] (hp K x) (PI K Q)
  refine r_iload_n (pc := 15) dX7_full_15 rfl ?_
  refine r_bipush (pc := 16) (v := 24) dX7_full_16 (by decide) ?_
  refine r_icmp_ge (pc := 18) (tgt := 65) dX7_full_18 (by decide) (fun q => ?_) (fun q => ?_)
  · have K0 := K0.1 q
    refine r_iload_n (pc := 65) dX7_full_65 rfl ?_
    exact s_iret rfl dX7_full_66 K0
  · have K0 := K0.2 q
    refine r_aload_n (pc := 21) dX7_full_21 rfl ?_
    refine s_getR (pc := 22) dX7_full_22 fl_X7_20 rfl k_b0 g_b0_2 ?_
    refine r_iload_n (pc := 25) dX7_full_25 rfl ?_
    refine r_iload_n (pc := 26) dX7_full_26 rfl ?_
    refine r_aload_n (pc := 27) dX7_full_27 rfl ?_
    refine s_getR (pc := 28) dX7_full_28 fl_X7_20 rfl k_b0 g_b0_2 ?_
    refine s_getR (pc := 31) dX7_full_31 fl_X7_198 rfl k_b0_2 g_b0_2_5 ?_
    refine r_iload_n (pc := 34) dX7_full_34 rfl ?_
    obtain ⟨i_2, K0⟩ := K0
    refine s_iald (pc := 35) dX7_full_35 k_b0_2_5 i_2 ?_
    refine r_iconst (pc := 36) (v := 0) dX7_full_36 (by decide) ?_
    refine r_iconst (pc := 37) (v := 0) dX7_full_37 (by decide) ?_
    refine s_VI (pc := 38) mX4_weeksLoaded (ci := 4) (a := b0_2) (As := [.int l1, .int l3, .int (gi x b0_2_5 (l3 : Int32).toNatClampNeg), .int 0, .int 0]) dX7_full_38 lk_X7_285 in_X4_weeksLoaded mo_X4_weeksLoaded ⟨by decide, rfl⟩ ⟨by decide, by decide⟩ (Nat.le_of_ble_eq_true rfl) k_b0_2 (mSI_mono K0 (fun r_4 y_3 K0 => ?_))
    refine r_istore (pc := 41) dX7_full_41 (by decide) ?_
    refine r_iload_n (pc := 43) (L := [some (.ref b0), some (.int l1), some (.int l2), some (.int l3), some (.int r_4)]) dX7_full_43 rfl ?_
    refine r_iload (pc := 44) dX7_full_44 rfl ?_
    refine r_aload_n (pc := 46) dX7_full_46 rfl ?_
    obtain ⟨g_5, K0⟩ := K0
    refine s_getR (pc := 47) dX7_full_47 fl_X7_20 rfl k_b0 g_5 ?_
    refine s_VI (pc := 50) mX4_weeksToCome (ci := 4) (a := b0_2) (As := []) dX7_full_50 lk_X7_289 in_X4_weeksToCome mo_X4_weeksToCome ⟨by decide, rfl⟩ ⟨by decide, by decide⟩ (Nat.le_of_ble_eq_true rfl) k_b0_2 (sp_X4_weeksToCome k_b0_2 ?_)
    refine r_iand (pc := 53) dX7_full_53 ?_
    refine s_SI (pc := 54) mJ6_bitCount_0f7a4 (As := [.int (r_4 &&& (f_wtc (gi y_3 b0_2 1) (gi y_3 b0_2 0)))]) dX7_full_54 lk_X7_255 st_J6_bitCount_0f7a4 mo_J6_bitCount_0f7a4 ⟨by decide, by decide⟩ (Nat.le_of_ble_eq_true rfl) (sp_bc  ?_)
    refine r_iadd (pc := 57) dX7_full_57 ?_
    refine r_istore_n (pc := 58) dX7_full_58 (by decide) ?_
    refine r_iinc (pc := 59) (L := [some (.ref b0), some (.int l1), some (.int (l2 + (nI (cpt (r_4 &&& (f_wtc (gi y_3 b0_2 1) (gi y_3 b0_2 0))))))), some (.int l3), some (.int r_4)]) (v := l3 + 1) dX7_full_59 rfl rfl (by decide) ?_
    refine r_goto (pc := 62) (L := [some (.ref b0), some (.int l1), some (.int (l2 + (nI (cpt (r_4 &&& (f_wtc (gi y_3 b0_2 1) (gi y_3 b0_2 0))))))), some (.int (l3 + 1)), some (.int r_4)]) (tgt := 15) dX7_full_62 (by decide) ?_
    exact r_le (L' := [some (.ref b0), some (.int l1), some (.int (l2 + (nI (cpt (r_4 &&& (f_wtc (gi y_3 b0_2 1) (gi y_3 b0_2 0))))))), some (.int (l3 + 1)), none]) ⟨rfl, ⟨rfl, ⟨rfl, ⟨rfl, trivial⟩⟩⟩⟩ K0
set_option maxHeartbeats 2000000 in
theorem v_X8_full_0 {K : Sh} {x : Cn} {Q : Int32 → Cn → Prop} {b0 : Nat} {l1 : Int32} {b0_1 : Nat} {n_b0_1 : Nat} (k_b0 : kk K b0 = some (8, 0)) (g_b0_1 : gr x b0 1 = some b0_1) (k_b0_1 : kk K b0_1 = some (20, n_b0_1)) (K0 : vp_in 0 n_b0_1 ∧ (((0 < gi x b0_1 0 ∧ 0 ≤ l1 ∧ l1 ≤ 6) → (vp_in 4 n_b0_1 ∧ (GI mX8_full 20 [some (.ref b0), some (.int l1), some (.int 0), some (.int (gi x b0_1 4)), none] [] K x Q))) ∧ (¬ (0 < gi x b0_1 0 ∧ 0 ≤ l1 ∧ l1 ≤ 6) → (Q (-2) x)))) : mSI mX8_full [.ref b0, .int l1] K x Q := by
  refine s_I (by decide) (by simp [Value.category]) (Nat.le_of_ble_eq_true rfl) ?_
  show mGM mX8_full 0 [some (.ref b0), some (.int l1), none, none, none] [] (hp K x) (PI K Q)
  refine r_aload_n (pc := 0) dX8_full_0 rfl ?_
  refine r_iload_n (pc := 1) dX8_full_1 rfl ?_
  obtain ⟨i_1, K0⟩ := K0
  refine s_VI (pc := 2) mX8_isDay (ci := 8) (a := b0) (As := [.int l1]) dX8_full_2 lk_X8_61 in_X8_isDay mo_X8_isDay ⟨by decide, rfl⟩ ⟨by decide, by decide⟩ (Nat.le_of_ble_eq_true rfl) k_b0 (sp_X8_isDay k_b0 g_b0_1 k_b0_1 i_1 ?_)
  refine r_if_ne (pc := 5) (tgt := 11) dX8_full_5 (by decide) (fun q => ?_) (fun q => ?_)
  · have q := b2i_nz q
    have K0 := K0.1 q
    refine r_iconst (pc := 11) (v := 0) dX8_full_11 (by decide) ?_
    refine r_istore_n (pc := 12) dX8_full_12 (by decide) ?_
    refine r_aload_n (pc := 13) (L := [some (.ref b0), some (.int l1), some (.int 0), none, none]) dX8_full_13 rfl ?_
    refine s_getR (pc := 14) dX8_full_14 fl_X8_9 rfl k_b0 g_b0_1 ?_
    refine r_iconst (pc := 17) (v := 4) dX8_full_17 (by decide) ?_
    obtain ⟨i_3, K0⟩ := K0
    refine s_iald (pc := 18) dX8_full_18 k_b0_1 i_3 ?_
    refine r_istore_n (pc := 19) dX8_full_19 (by decide) ?_
    exact r_le (L' := [some (.ref b0), some (.int l1), some (.int 0), some (.int (gi x b0_1 4)), none]) ⟨rfl, ⟨rfl, ⟨rfl, ⟨rfl, trivial⟩⟩⟩⟩ K0
  · have q := (b2i_z _).mp q
    have K0 := K0.2 q
    refine r_bipush (pc := 8) (v := (-2)) dX8_full_8 (by decide) ?_
    exact s_iret rfl dX8_full_10 K0
set_option maxHeartbeats 2000000 in
theorem v_X8_full_20 {K : Sh} {x : Cn} {Q : Int32 → Cn → Prop} {b0 : Nat} {l1 : Int32} {l2 : Int32} {l3 : Int32} {b0_1 : Nat} {n_b0_1 : Nat} (k_b0 : kk K b0 = some (8, 0)) (g_b0_1 : gr x b0 1 = some b0_1) (k_b0_1 : kk K b0_1 = some (20, n_b0_1)) (K0 : vp_in 0 n_b0_1 ∧ (((gi x b0_1 0) ≤ l3 → (Q l2 x)) ∧ (¬ (gi x b0_1 0) ≤ l3 → (GI mX8_full 33 [some (.ref b0), some (.int l1), some (.int l2), some (.int l3), some (.int 0)] [] K x Q)))) : GI mX8_full 20 [some (.ref b0), some (.int l1), some (.int l2), some (.int l3), none] [] K x Q := by
  show mGM mX8_full 20 [some (.ref b0), some (.int l1), some (.int l2), some (.int l3), none] [] (hp K x) (PI K Q)
  refine r_iload_n (pc := 20) dX8_full_20 rfl ?_
  refine r_aload_n (pc := 21) dX8_full_21 rfl ?_
  refine s_getR (pc := 22) dX8_full_22 fl_X8_9 rfl k_b0 g_b0_1 ?_
  refine r_iconst (pc := 25) (v := 0) dX8_full_25 (by decide) ?_
  obtain ⟨i_1, K0⟩ := K0
  refine s_iald (pc := 26) dX8_full_26 k_b0_1 i_1 ?_
  refine r_icmp_ge (pc := 27) (tgt := 85) dX8_full_27 (by decide) (fun q => ?_) (fun q => ?_)
  · have K0 := K0.1 q
    refine r_iload_n (pc := 85) dX8_full_85 rfl ?_
    exact s_iret rfl dX8_full_86 K0
  · have K0 := K0.2 q
    refine r_iconst (pc := 30) (v := 0) dX8_full_30 (by decide) ?_
    refine r_istore (pc := 31) dX8_full_31 (by decide) ?_
    exact r_le (L' := [some (.ref b0), some (.int l1), some (.int l2), some (.int l3), some (.int 0)]) ⟨rfl, ⟨rfl, ⟨rfl, ⟨rfl, ⟨rfl, trivial⟩⟩⟩⟩⟩ K0
set_option maxHeartbeats 2000000 in
theorem v_X8_full_33 {K : Sh} {x : Cn} {Q : Int32 → Cn → Prop} {b0 : Nat} {l1 : Int32} {l2 : Int32} {l3 : Int32} {l4 : Int32}  (k_b0 : kk K b0 = some (8, 0)) (K0 : (24 ≤ l4 → (GI mX8_full 20 [some (.ref b0), some (.int l1), some (.int l2), some (.int (l3 + 1)), none] [] K x Q)) ∧ (¬ 24 ≤ l4 → (mSI mX8_loadBut [.ref b0, .int l3, .int l1, .int l4, .int 0, .int (-1)] K x (fun r_3 y_2 => ∃ c_4 : Nat, gr y_2 b0 1 = some c_4 ∧ (∃ n_7 : Nat, kk K c_4 = some (20, n_7) ∧ (vp_in (6 + (2 * l4)) n_7 ∧ ((r_3 < (gi y_2 c_4 ((6 + (2 * l4)) : Int32).toNatClampNeg) → (GI mX8_full 33 [some (.ref b0), some (.int l1), some (.int (l2 + 0)), some (.int l3), some (.int (l4 + 1))] [] K y_2 Q)) ∧ (¬ r_3 < (gi y_2 c_4 ((6 + (2 * l4)) : Int32).toNatClampNeg) → (GI mX8_full 33 [some (.ref b0), some (.int l1), some (.int (l2 + 1)), some (.int l3), some (.int (l4 + 1))] [] K y_2 Q))))))))) : GI mX8_full 33 [some (.ref b0), some (.int l1), some (.int l2), some (.int l3), some (.int l4)] [] K x Q := by
  show mGM mX8_full 33 [some (.ref b0), some (.int l1), some (.int l2), some (.int l3), some (.int l4)] [] (hp K x) (PI K Q)
  refine r_iload (pc := 33) dX8_full_33 rfl ?_
  refine r_bipush (pc := 35) (v := 24) dX8_full_35 (by decide) ?_
  refine r_icmp_ge (pc := 37) (tgt := 79) dX8_full_37 (by decide) (fun q => ?_) (fun q => ?_)
  · have K0 := K0.1 q
    refine r_iinc (pc := 79) (v := l3 + 1) dX8_full_79 rfl rfl (by decide) ?_
    refine r_goto (pc := 82) (L := [some (.ref b0), some (.int l1), some (.int l2), some (.int (l3 + 1)), some (.int l4)]) (tgt := 20) dX8_full_82 (by decide) ?_
    exact r_le (L' := [some (.ref b0), some (.int l1), some (.int l2), some (.int (l3 + 1)), none]) ⟨rfl, ⟨rfl, ⟨rfl, ⟨rfl, trivial⟩⟩⟩⟩ K0
  · have K0 := K0.2 q
    refine r_iload_n (pc := 40) dX8_full_40 rfl ?_
    refine r_aload_n (pc := 41) dX8_full_41 rfl ?_
    refine r_iload_n (pc := 42) dX8_full_42 rfl ?_
    refine r_iload_n (pc := 43) dX8_full_43 rfl ?_
    refine r_iload (pc := 44) dX8_full_44 rfl ?_
    refine r_iconst (pc := 46) (v := 0) dX8_full_46 (by decide) ?_
    refine r_iconst (pc := 47) (v := (-1)) dX8_full_47 (by decide) ?_
    refine s_VI (pc := 48) mX8_loadBut (ci := 8) (a := b0) (As := [.int l3, .int l1, .int l4, .int 0, .int (-1)]) dX8_full_48 lk_X8_86 in_X8_loadBut mo_X8_loadBut ⟨by decide, rfl⟩ ⟨by decide, by decide⟩ (Nat.le_of_ble_eq_true rfl) k_b0 (mSI_mono K0 (fun r_3 y_2 K0 => ?_))
    refine r_aload_n (pc := 51) dX8_full_51 rfl ?_
    obtain ⟨c_4, g_5, K0⟩ := K0
    refine s_getR (pc := 52) dX8_full_52 fl_X8_9 rfl k_b0 g_5 ?_
    refine r_bipush (pc := 55) (v := 6) dX8_full_55 (by decide) ?_
    refine r_iconst (pc := 57) (v := 2) dX8_full_57 (by decide) ?_
    refine r_iload (pc := 58) dX8_full_58 rfl ?_
    refine r_imul (pc := 60) dX8_full_60 ?_
    refine r_iadd (pc := 61) dX8_full_61 ?_
    obtain ⟨n_7, e_6, K0⟩ := K0
    obtain ⟨i_8, K0⟩ := K0
    refine s_iald (pc := 62) dX8_full_62 e_6 i_8 ?_
    refine r_icmp_lt (pc := 63) (tgt := 70) dX8_full_63 (by decide) (fun q => ?_) (fun q => ?_)
    · have K0 := K0.1 q
      refine r_iconst (pc := 70) (v := 0) dX8_full_70 (by decide) ?_
      refine r_iadd (pc := 71) dX8_full_71 ?_
      refine r_istore_n (pc := 72) dX8_full_72 (by decide) ?_
      refine r_iinc (pc := 73) (L := [some (.ref b0), some (.int l1), some (.int (l2 + 0)), some (.int l3), some (.int l4)]) (v := l4 + 1) dX8_full_73 rfl rfl (by decide) ?_
      refine r_goto (pc := 76) (L := [some (.ref b0), some (.int l1), some (.int (l2 + 0)), some (.int l3), some (.int (l4 + 1))]) (tgt := 33) dX8_full_76 (by decide) ?_
      exact r_le (L' := [some (.ref b0), some (.int l1), some (.int (l2 + 0)), some (.int l3), some (.int (l4 + 1))]) ⟨rfl, ⟨rfl, ⟨rfl, ⟨rfl, ⟨rfl, trivial⟩⟩⟩⟩⟩ K0
    · have K0 := K0.2 q
      refine r_iconst (pc := 66) (v := 1) dX8_full_66 (by decide) ?_
      refine r_goto (pc := 67) (tgt := 71) dX8_full_67 (by decide) ?_
      refine r_iadd (pc := 71) dX8_full_71 ?_
      refine r_istore_n (pc := 72) dX8_full_72 (by decide) ?_
      refine r_iinc (pc := 73) (L := [some (.ref b0), some (.int l1), some (.int (l2 + 1)), some (.int l3), some (.int l4)]) (v := l4 + 1) dX8_full_73 rfl rfl (by decide) ?_
      refine r_goto (pc := 76) (L := [some (.ref b0), some (.int l1), some (.int (l2 + 1)), some (.int l3), some (.int (l4 + 1))]) (tgt := 33) dX8_full_76 (by decide) ?_
      exact r_le (L' := [some (.ref b0), some (.int l1), some (.int (l2 + 1)), some (.int l3), some (.int (l4 + 1))]) ⟨rfl, ⟨rfl, ⟨rfl, ⟨rfl, ⟨rfl, trivial⟩⟩⟩⟩⟩ K0
set_option maxHeartbeats 2000000 in
theorem v_X7_idle_0 {K : Sh} {x : Cn} {Q : Int32 → Cn → Prop} {b0 : Nat} {l1 : Int32} {b0_2 : Nat} (k_b0 : kk K b0 = some (7, 0)) (g_b0_2 : gr x b0 2 = some b0_2) (k_b0_2 : kk K b0_2 = some (4, 0)) (K0 : ((0 < gi x b0_2 0 ∧ 0 ≤ l1 ∧ l1 < 7) → (GI mX7_idle 15 [some (.ref b0), some (.int l1), some (.int 0), some (.int 0), none] [] K x Q)) ∧ (¬ (0 < gi x b0_2 0 ∧ 0 ≤ l1 ∧ l1 < 7) → (Q (-2) x))) : mSI mX7_idle [.ref b0, .int l1] K x Q := by
  refine s_I (by decide) (by simp [Value.category]) (Nat.le_of_ble_eq_true rfl) ?_
  show mGM mX7_idle 0 [some (.ref b0), some (.int l1), none, none, none] [] (hp K x) (PI K Q)
  refine r_aload_n (pc := 0) dX7_idle_0 rfl ?_
  refine r_iload_n (pc := 1) dX7_idle_1 rfl ?_
  refine s_VI (pc := 2) mX7_isDay (ci := 7) (a := b0) (As := [.int l1]) dX7_idle_2 lk_X7_245 in_X7_isDay mo_X7_isDay ⟨by decide, rfl⟩ ⟨by decide, by decide⟩ (Nat.le_of_ble_eq_true rfl) k_b0 (sp_X7_isDay k_b0 g_b0_2 k_b0_2 ?_)
  refine r_if_ne (pc := 5) (tgt := 11) dX7_idle_5 (by decide) (fun q => ?_) (fun q => ?_)
  · have q := b2i_nz q
    have K0 := K0.1 q
    refine r_iconst (pc := 11) (v := 0) dX7_idle_11 (by decide) ?_
    refine r_istore_n (pc := 12) dX7_idle_12 (by decide) ?_
    refine r_iconst (pc := 13) (L := [some (.ref b0), some (.int l1), some (.int 0), none, none]) (v := 0) dX7_idle_13 (by decide) ?_
    refine r_istore_n (pc := 14) dX7_idle_14 (by decide) ?_
    exact r_le (L' := [some (.ref b0), some (.int l1), some (.int 0), some (.int 0), none]) ⟨rfl, ⟨rfl, ⟨rfl, ⟨rfl, trivial⟩⟩⟩⟩ K0
  · have q := (b2i_z _).mp q
    have K0 := K0.2 q
    refine r_bipush (pc := 8) (v := (-2)) dX7_idle_8 (by decide) ?_
    exact s_iret rfl dX7_idle_10 K0
set_option maxHeartbeats 2000000 in
theorem v_X7_idle_15 {K : Sh} {x : Cn} {Q : Int32 → Cn → Prop} {b0 : Nat} {l1 : Int32} {l2 : Int32} {l3 : Int32} {b0_2 : Nat} (k_b0 : kk K b0 = some (7, 0)) (g_b0_2 : gr x b0 2 = some b0_2) (k_b0_2 : kk K b0_2 = some (4, 0)) (K0 : (24 ≤ l3 → (Q l2 x)) ∧ (¬ 24 ≤ l3 → (mSI mX4_weeksLoaded [.ref b0_2, .int l1, .int l3, .int 1, .int 0, .int 0] K x (fun r_3 y_2 => gr y_2 b0 2 = some b0_2 ∧ ((¬ (r_3 &&& (f_wtc (gi y_2 b0_2 1) (gi y_2 b0_2 0))) = 0 → (GI mX7_idle 15 [some (.ref b0), some (.int l1), some (.int l2), some (.int (l3 + 1)), none] [] K y_2 Q)) ∧ ((r_3 &&& (f_wtc (gi y_2 b0_2 1) (gi y_2 b0_2 0))) = 0 → (GI mX7_idle 15 [some (.ref b0), some (.int l1), some (.int (l2 ||| (1 <<< (l3 &&& 31)))), some (.int (l3 + 1)), none] [] K y_2 Q))))))) : GI mX7_idle 15 [some (.ref b0), some (.int l1), some (.int l2), some (.int l3), none] [] K x Q := by
  show mGM mX7_idle 15 [some (.ref b0), some (.int l1), some (.int l2), some (.int l3), none] [] (hp K x) (PI K Q)
  refine r_iload_n (pc := 15) dX7_idle_15 rfl ?_
  refine r_bipush (pc := 16) (v := 24) dX7_idle_16 (by decide) ?_
  refine r_icmp_ge (pc := 18) (tgt := 60) dX7_idle_18 (by decide) (fun q => ?_) (fun q => ?_)
  · have K0 := K0.1 q
    refine r_iload_n (pc := 60) dX7_idle_60 rfl ?_
    exact s_iret rfl dX7_idle_61 K0
  · have K0 := K0.2 q
    refine r_aload_n (pc := 21) dX7_idle_21 rfl ?_
    refine s_getR (pc := 22) dX7_idle_22 fl_X7_20 rfl k_b0 g_b0_2 ?_
    refine r_iload_n (pc := 25) dX7_idle_25 rfl ?_
    refine r_iload_n (pc := 26) dX7_idle_26 rfl ?_
    refine r_iconst (pc := 27) (v := 1) dX7_idle_27 (by decide) ?_
    refine r_iconst (pc := 28) (v := 0) dX7_idle_28 (by decide) ?_
    refine r_iconst (pc := 29) (v := 0) dX7_idle_29 (by decide) ?_
    refine s_VI (pc := 30) mX4_weeksLoaded (ci := 4) (a := b0_2) (As := [.int l1, .int l3, .int 1, .int 0, .int 0]) dX7_idle_30 lk_X7_285 in_X4_weeksLoaded mo_X4_weeksLoaded ⟨by decide, rfl⟩ ⟨by decide, by decide⟩ (Nat.le_of_ble_eq_true rfl) k_b0_2 (mSI_mono K0 (fun r_3 y_2 K0 => ?_))
    refine r_istore (pc := 33) dX7_idle_33 (by decide) ?_
    refine r_iload (pc := 35) (L := [some (.ref b0), some (.int l1), some (.int l2), some (.int l3), some (.int r_3)]) dX7_idle_35 rfl ?_
    refine r_aload_n (pc := 37) dX7_idle_37 rfl ?_
    obtain ⟨g_4, K0⟩ := K0
    refine s_getR (pc := 38) dX7_idle_38 fl_X7_20 rfl k_b0 g_4 ?_
    refine s_VI (pc := 41) mX4_weeksToCome (ci := 4) (a := b0_2) (As := []) dX7_idle_41 lk_X7_289 in_X4_weeksToCome mo_X4_weeksToCome ⟨by decide, rfl⟩ ⟨by decide, by decide⟩ (Nat.le_of_ble_eq_true rfl) k_b0_2 (sp_X4_weeksToCome k_b0_2 ?_)
    refine r_iand (pc := 44) dX7_idle_44 ?_
    refine r_if_ne (pc := 45) (tgt := 54) dX7_idle_45 (by decide) (fun q => ?_) (fun q => ?_)
    · have K0 := K0.1 q
      refine r_iinc (pc := 54) (v := l3 + 1) dX7_idle_54 rfl rfl (by decide) ?_
      refine r_goto (pc := 57) (L := [some (.ref b0), some (.int l1), some (.int l2), some (.int (l3 + 1)), some (.int r_3)]) (tgt := 15) dX7_idle_57 (by decide) ?_
      exact r_le (L' := [some (.ref b0), some (.int l1), some (.int l2), some (.int (l3 + 1)), none]) ⟨rfl, ⟨rfl, ⟨rfl, ⟨rfl, trivial⟩⟩⟩⟩ K0
    · have K0 := K0.2 q
      refine r_iload_n (pc := 48) dX7_idle_48 rfl ?_
      refine r_iconst (pc := 49) (v := 1) dX7_idle_49 (by decide) ?_
      refine r_iload_n (pc := 50) dX7_idle_50 rfl ?_
      refine r_ishl (pc := 51) dX7_idle_51 ?_
      refine r_ior (pc := 52) dX7_idle_52 ?_
      refine r_istore_n (pc := 53) dX7_idle_53 (by decide) ?_
      refine r_iinc (pc := 54) (L := [some (.ref b0), some (.int l1), some (.int (l2 ||| (1 <<< (l3 &&& 31)))), some (.int l3), some (.int r_3)]) (v := l3 + 1) dX7_idle_54 rfl rfl (by decide) ?_
      refine r_goto (pc := 57) (L := [some (.ref b0), some (.int l1), some (.int (l2 ||| (1 <<< (l3 &&& 31)))), some (.int (l3 + 1)), some (.int r_3)]) (tgt := 15) dX7_idle_57 (by decide) ?_
      exact r_le (L' := [some (.ref b0), some (.int l1), some (.int (l2 ||| (1 <<< (l3 &&& 31)))), some (.int (l3 + 1)), none]) ⟨rfl, ⟨rfl, ⟨rfl, ⟨rfl, trivial⟩⟩⟩⟩ K0
set_option maxHeartbeats 2000000 in
theorem v_X8_idle_0 {K : Sh} {x : Cn} {Q : Int32 → Cn → Prop} {b0 : Nat} {l1 : Int32} {b0_1 : Nat} {n_b0_1 : Nat} (k_b0 : kk K b0 = some (8, 0)) (g_b0_1 : gr x b0 1 = some b0_1) (k_b0_1 : kk K b0_1 = some (20, n_b0_1)) (K0 : vp_in 0 n_b0_1 ∧ (((0 < gi x b0_1 0 ∧ 0 ≤ l1 ∧ l1 ≤ 6) → (GI mX8_idle 15 [some (.ref b0), some (.int l1), some (.int 0), some (.int 0), none, none] [] K x Q)) ∧ (¬ (0 < gi x b0_1 0 ∧ 0 ≤ l1 ∧ l1 ≤ 6) → (Q (-2) x)))) : mSI mX8_idle [.ref b0, .int l1] K x Q := by
  refine s_I (by decide) (by simp [Value.category]) (Nat.le_of_ble_eq_true rfl) ?_
  show mGM mX8_idle 0 [some (.ref b0), some (.int l1), none, none, none, none] [] (hp K x) (PI K Q)
  refine r_aload_n (pc := 0) dX8_idle_0 rfl ?_
  refine r_iload_n (pc := 1) dX8_idle_1 rfl ?_
  obtain ⟨i_1, K0⟩ := K0
  refine s_VI (pc := 2) mX8_isDay (ci := 8) (a := b0) (As := [.int l1]) dX8_idle_2 lk_X8_61 in_X8_isDay mo_X8_isDay ⟨by decide, rfl⟩ ⟨by decide, by decide⟩ (Nat.le_of_ble_eq_true rfl) k_b0 (sp_X8_isDay k_b0 g_b0_1 k_b0_1 i_1 ?_)
  refine r_if_ne (pc := 5) (tgt := 11) dX8_idle_5 (by decide) (fun q => ?_) (fun q => ?_)
  · have q := b2i_nz q
    have K0 := K0.1 q
    refine r_iconst (pc := 11) (v := 0) dX8_idle_11 (by decide) ?_
    refine r_istore_n (pc := 12) dX8_idle_12 (by decide) ?_
    refine r_iconst (pc := 13) (L := [some (.ref b0), some (.int l1), some (.int 0), none, none, none]) (v := 0) dX8_idle_13 (by decide) ?_
    refine r_istore_n (pc := 14) dX8_idle_14 (by decide) ?_
    exact r_le (L' := [some (.ref b0), some (.int l1), some (.int 0), some (.int 0), none, none]) ⟨rfl, ⟨rfl, ⟨rfl, ⟨rfl, trivial⟩⟩⟩⟩ K0
  · have q := (b2i_z _).mp q
    have K0 := K0.2 q
    refine r_bipush (pc := 8) (v := (-2)) dX8_idle_8 (by decide) ?_
    exact s_iret rfl dX8_idle_10 K0
set_option maxHeartbeats 2000000 in
theorem v_X8_idle_15 {K : Sh} {x : Cn} {Q : Int32 → Cn → Prop} {b0 : Nat} {l1 : Int32} {l2 : Int32} {l3 : Int32} {b0_1 : Nat} {n_b0_1 : Nat} (k_b0 : kk K b0 = some (8, 0)) (g_b0_1 : gr x b0 1 = some b0_1) (k_b0_1 : kk K b0_1 = some (20, n_b0_1)) (K0 : (24 ≤ l3 → (Q l2 x)) ∧ (¬ 24 ≤ l3 → (vp_in 4 n_b0_1 ∧ (GI mX8_idle 32 [some (.ref b0), some (.int l1), some (.int l2), some (.int l3), some (.int 1), some (.int (gi x b0_1 4))] [] K x Q)))) : GI mX8_idle 15 [some (.ref b0), some (.int l1), some (.int l2), some (.int l3), none, none] [] K x Q := by
  show mGM mX8_idle 15 [some (.ref b0), some (.int l1), some (.int l2), some (.int l3), none, none] [] (hp K x) (PI K Q)
  refine r_iload_n (pc := 15) dX8_idle_15 rfl ?_
  refine r_bipush (pc := 16) (v := 24) dX8_idle_16 (by decide) ?_
  refine r_icmp_ge (pc := 18) (tgt := 95) dX8_idle_18 (by decide) (fun q => ?_) (fun q => ?_)
  · have K0 := K0.1 q
    refine r_iload_n (pc := 95) dX8_idle_95 rfl ?_
    exact s_iret rfl dX8_idle_96 K0
  · have K0 := K0.2 q
    refine r_iconst (pc := 21) (v := 1) dX8_idle_21 (by decide) ?_
    refine r_istore (pc := 22) dX8_idle_22 (by decide) ?_
    refine r_aload_n (pc := 24) (L := [some (.ref b0), some (.int l1), some (.int l2), some (.int l3), some (.int 1), none]) dX8_idle_24 rfl ?_
    refine s_getR (pc := 25) dX8_idle_25 fl_X8_9 rfl k_b0 g_b0_1 ?_
    refine r_iconst (pc := 28) (v := 4) dX8_idle_28 (by decide) ?_
    obtain ⟨i_2, K0⟩ := K0
    refine s_iald (pc := 29) dX8_idle_29 k_b0_1 i_2 ?_
    refine r_istore (pc := 30) dX8_idle_30 (by decide) ?_
    exact r_le (L' := [some (.ref b0), some (.int l1), some (.int l2), some (.int l3), some (.int 1), some (.int (gi x b0_1 4))]) ⟨rfl, ⟨rfl, ⟨rfl, ⟨rfl, ⟨rfl, ⟨rfl, trivial⟩⟩⟩⟩⟩⟩ K0
set_option maxHeartbeats 2000000 in
theorem v_X8_idle_32 {K : Sh} {x : Cn} {Q : Int32 → Cn → Prop} {b0 : Nat} {l1 : Int32} {l2 : Int32} {l3 : Int32} {l4 : Int32} {l5 : Int32} {b0_1 : Nat} {n_b0_1 : Nat} (k_b0 : kk K b0 = some (8, 0)) (g_b0_1 : gr x b0 1 = some b0_1) (k_b0_1 : kk K b0_1 = some (20, n_b0_1)) (K0 : vp_in 0 n_b0_1 ∧ (((gi x b0_1 0) ≤ l5 → ((l4 = 0 → (GI mX8_idle 15 [some (.ref b0), some (.int l1), some (.int (l2 ||| 0)), some (.int (l3 + 1)), none, none] [] K x Q)) ∧ (¬ l4 = 0 → (GI mX8_idle 15 [some (.ref b0), some (.int l1), some (.int (l2 ||| (1 <<< (l3 &&& 31)))), some (.int (l3 + 1)), none, none] [] K x Q)))) ∧ (¬ (gi x b0_1 0) ≤ l5 → ((l4 = 0 → ((l4 = 0 → (GI mX8_idle 15 [some (.ref b0), some (.int l1), some (.int (l2 ||| 0)), some (.int (l3 + 1)), none, none] [] K x Q)) ∧ (¬ l4 = 0 → (GI mX8_idle 15 [some (.ref b0), some (.int l1), some (.int (l2 ||| (1 <<< (l3 &&& 31)))), some (.int (l3 + 1)), none, none] [] K x Q)))) ∧ (¬ l4 = 0 → (mSI mX8_loadBut [.ref b0, .int l5, .int l1, .int l3, .int 0, .int (-1)] K x (fun r_7 y_6 => (¬ r_7 = 0 → (GI mX8_idle 32 [some (.ref b0), some (.int l1), some (.int l2), some (.int l3), some (.int 0), some (.int (l5 + 1))] [] K y_6 Q)) ∧ (r_7 = 0 → (GI mX8_idle 32 [some (.ref b0), some (.int l1), some (.int l2), some (.int l3), some (.int 1), some (.int (l5 + 1))] [] K y_6 Q))))))))) : GI mX8_idle 32 [some (.ref b0), some (.int l1), some (.int l2), some (.int l3), some (.int l4), some (.int l5)] [] K x Q := by
  show mGM mX8_idle 32 [some (.ref b0), some (.int l1), some (.int l2), some (.int l3), some (.int l4), some (.int l5)] [] (hp K x) (PI K Q)
  refine r_iload (pc := 32) dX8_idle_32 rfl ?_
  refine r_aload_n (pc := 34) dX8_idle_34 rfl ?_
  refine s_getR (pc := 35) dX8_idle_35 fl_X8_9 rfl k_b0 g_b0_1 ?_
  refine r_iconst (pc := 38) (v := 0) dX8_idle_38 (by decide) ?_
  obtain ⟨i_1, K0⟩ := K0
  refine s_iald (pc := 39) dX8_idle_39 k_b0_1 i_1 ?_
  refine r_icmp_ge (pc := 40) (tgt := 74) dX8_idle_40 (by decide) (fun q => ?_) (fun q => ?_)
  · have K0 := K0.1 q
    refine r_iload_n (pc := 74) dX8_idle_74 rfl ?_
    refine r_iload (pc := 75) dX8_idle_75 rfl ?_
    refine r_if_eq (pc := 77) (tgt := 86) dX8_idle_77 (by decide) (fun q => ?_) (fun q => ?_)
    · have K0 := K0.1 q
      refine r_iconst (pc := 86) (v := 0) dX8_idle_86 (by decide) ?_
      refine r_ior (pc := 87) dX8_idle_87 ?_
      refine r_istore_n (pc := 88) dX8_idle_88 (by decide) ?_
      refine r_iinc (pc := 89) (L := [some (.ref b0), some (.int l1), some (.int (l2 ||| 0)), some (.int l3), some (.int l4), some (.int l5)]) (v := l3 + 1) dX8_idle_89 rfl rfl (by decide) ?_
      refine r_goto (pc := 92) (L := [some (.ref b0), some (.int l1), some (.int (l2 ||| 0)), some (.int (l3 + 1)), some (.int l4), some (.int l5)]) (tgt := 15) dX8_idle_92 (by decide) ?_
      exact r_le (L' := [some (.ref b0), some (.int l1), some (.int (l2 ||| 0)), some (.int (l3 + 1)), none, none]) ⟨rfl, ⟨rfl, ⟨rfl, ⟨rfl, trivial⟩⟩⟩⟩ K0
    · have K0 := K0.2 q
      refine r_iconst (pc := 80) (v := 1) dX8_idle_80 (by decide) ?_
      refine r_iload_n (pc := 81) dX8_idle_81 rfl ?_
      refine r_ishl (pc := 82) dX8_idle_82 ?_
      refine r_goto (pc := 83) (tgt := 87) dX8_idle_83 (by decide) ?_
      refine r_ior (pc := 87) dX8_idle_87 ?_
      refine r_istore_n (pc := 88) dX8_idle_88 (by decide) ?_
      refine r_iinc (pc := 89) (L := [some (.ref b0), some (.int l1), some (.int (l2 ||| (1 <<< (l3 &&& 31)))), some (.int l3), some (.int l4), some (.int l5)]) (v := l3 + 1) dX8_idle_89 rfl rfl (by decide) ?_
      refine r_goto (pc := 92) (L := [some (.ref b0), some (.int l1), some (.int (l2 ||| (1 <<< (l3 &&& 31)))), some (.int (l3 + 1)), some (.int l4), some (.int l5)]) (tgt := 15) dX8_idle_92 (by decide) ?_
      exact r_le (L' := [some (.ref b0), some (.int l1), some (.int (l2 ||| (1 <<< (l3 &&& 31)))), some (.int (l3 + 1)), none, none]) ⟨rfl, ⟨rfl, ⟨rfl, ⟨rfl, trivial⟩⟩⟩⟩ K0
  · have K0 := K0.2 q
    refine r_iload (pc := 43) dX8_idle_43 rfl ?_
    refine r_if_eq (pc := 45) (tgt := 74) dX8_idle_45 (by decide) (fun q => ?_) (fun q => ?_)
    · have K0 := K0.1 q
      refine r_iload_n (pc := 74) dX8_idle_74 rfl ?_
      refine r_iload (pc := 75) dX8_idle_75 rfl ?_
      refine r_if_eq (pc := 77) (tgt := 86) dX8_idle_77 (by decide) (fun q => ?_) (fun q => ?_)
      · have K0 := K0.1 q
        refine r_iconst (pc := 86) (v := 0) dX8_idle_86 (by decide) ?_
        refine r_ior (pc := 87) dX8_idle_87 ?_
        refine r_istore_n (pc := 88) dX8_idle_88 (by decide) ?_
        refine r_iinc (pc := 89) (L := [some (.ref b0), some (.int l1), some (.int (l2 ||| 0)), some (.int l3), some (.int l4), some (.int l5)]) (v := l3 + 1) dX8_idle_89 rfl rfl (by decide) ?_
        refine r_goto (pc := 92) (L := [some (.ref b0), some (.int l1), some (.int (l2 ||| 0)), some (.int (l3 + 1)), some (.int l4), some (.int l5)]) (tgt := 15) dX8_idle_92 (by decide) ?_
        exact r_le (L' := [some (.ref b0), some (.int l1), some (.int (l2 ||| 0)), some (.int (l3 + 1)), none, none]) ⟨rfl, ⟨rfl, ⟨rfl, ⟨rfl, trivial⟩⟩⟩⟩ K0
      · have K0 := K0.2 q
        refine r_iconst (pc := 80) (v := 1) dX8_idle_80 (by decide) ?_
        refine r_iload_n (pc := 81) dX8_idle_81 rfl ?_
        refine r_ishl (pc := 82) dX8_idle_82 ?_
        refine r_goto (pc := 83) (tgt := 87) dX8_idle_83 (by decide) ?_
        refine r_ior (pc := 87) dX8_idle_87 ?_
        refine r_istore_n (pc := 88) dX8_idle_88 (by decide) ?_
        refine r_iinc (pc := 89) (L := [some (.ref b0), some (.int l1), some (.int (l2 ||| (1 <<< (l3 &&& 31)))), some (.int l3), some (.int l4), some (.int l5)]) (v := l3 + 1) dX8_idle_89 rfl rfl (by decide) ?_
        refine r_goto (pc := 92) (L := [some (.ref b0), some (.int l1), some (.int (l2 ||| (1 <<< (l3 &&& 31)))), some (.int (l3 + 1)), some (.int l4), some (.int l5)]) (tgt := 15) dX8_idle_92 (by decide) ?_
        exact r_le (L' := [some (.ref b0), some (.int l1), some (.int (l2 ||| (1 <<< (l3 &&& 31)))), some (.int (l3 + 1)), none, none]) ⟨rfl, ⟨rfl, ⟨rfl, ⟨rfl, trivial⟩⟩⟩⟩ K0
    · have K0 := K0.2 q
      refine r_aload_n (pc := 48) dX8_idle_48 rfl ?_
      refine r_iload (pc := 49) dX8_idle_49 rfl ?_
      refine r_iload_n (pc := 51) dX8_idle_51 rfl ?_
      refine r_iload_n (pc := 52) dX8_idle_52 rfl ?_
      refine r_iconst (pc := 53) (v := 0) dX8_idle_53 (by decide) ?_
      refine r_iconst (pc := 54) (v := (-1)) dX8_idle_54 (by decide) ?_
      refine s_VI (pc := 55) mX8_loadBut (ci := 8) (a := b0) (As := [.int l5, .int l1, .int l3, .int 0, .int (-1)]) dX8_idle_55 lk_X8_86 in_X8_loadBut mo_X8_loadBut ⟨by decide, rfl⟩ ⟨by decide, by decide⟩ (Nat.le_of_ble_eq_true rfl) k_b0 (mSI_mono K0 (fun r_7 y_6 K0 => ?_))
      refine r_if_ne (pc := 58) (tgt := 65) dX8_idle_58 (by decide) (fun q => ?_) (fun q => ?_)
      · have K0 := K0.1 q
        refine r_iconst (pc := 65) (v := 0) dX8_idle_65 (by decide) ?_
        refine r_istore (pc := 66) dX8_idle_66 (by decide) ?_
        refine r_iinc (pc := 68) (L := [some (.ref b0), some (.int l1), some (.int l2), some (.int l3), some (.int 0), some (.int l5)]) (v := l5 + 1) dX8_idle_68 rfl rfl (by decide) ?_
        refine r_goto (pc := 71) (L := [some (.ref b0), some (.int l1), some (.int l2), some (.int l3), some (.int 0), some (.int (l5 + 1))]) (tgt := 32) dX8_idle_71 (by decide) ?_
        exact r_le (L' := [some (.ref b0), some (.int l1), some (.int l2), some (.int l3), some (.int 0), some (.int (l5 + 1))]) ⟨rfl, ⟨rfl, ⟨rfl, ⟨rfl, ⟨rfl, ⟨rfl, trivial⟩⟩⟩⟩⟩⟩ K0
      · have K0 := K0.2 q
        refine r_iconst (pc := 61) (v := 1) dX8_idle_61 (by decide) ?_
        refine r_goto (pc := 62) (tgt := 66) dX8_idle_62 (by decide) ?_
        refine r_istore (pc := 66) dX8_idle_66 (by decide) ?_
        refine r_iinc (pc := 68) (L := [some (.ref b0), some (.int l1), some (.int l2), some (.int l3), some (.int 1), some (.int l5)]) (v := l5 + 1) dX8_idle_68 rfl rfl (by decide) ?_
        refine r_goto (pc := 71) (L := [some (.ref b0), some (.int l1), some (.int l2), some (.int l3), some (.int 1), some (.int (l5 + 1))]) (tgt := 32) dX8_idle_71 (by decide) ?_
        exact r_le (L' := [some (.ref b0), some (.int l1), some (.int l2), some (.int l3), some (.int 1), some (.int (l5 + 1))]) ⟨rfl, ⟨rfl, ⟨rfl, ⟨rfl, ⟨rfl, ⟨rfl, trivial⟩⟩⟩⟩⟩⟩ K0
theorem eq_full (a : Int32) : Both mX7_full mX8_full [.int a] := by
  intro x R
  obtain ⟨W, C, S, A, N, E, -, -⟩ := R.sea
  have hn := E.nums
  have hS : S ≤ 24 := hn.2.2.2.2.2.2.1
  have hW : W ≤ 30 := hn.2.2.2.2.1
  have hN : N ≤ W := hn.2.2.2.2.2.2.2.2
  let F : TT → Int32 := fun T => if 0 < nI W ∧ 0 ≤ a ∧ a < 7 then nI (sN (fun h => sN (fuI T S W N a h) 32) 24) else -2
  have rf : ∀ y, EQx x y 7 → mSI mX8_full [.ref 717, .int a] KW y (fun r' z => F (gi x 718) = r' ∧ Rel z) := by
    intro y hy
    obtain ⟨R2, eT⟩ := R.e7 hy
    have E2 := E.eqx hy (Or.inl rfl)
    rw [← eT] at E2 ⊢
    have ht := Rel.t2 E2
    refine v_X8_full_0 km R2.2.1.1 km1 ⟨v0 (k := 0) (by decide) rfl rfl, ?_⟩
    rw [ht.1, d7, ht.2.2.2.2]
    refine ⟨fun z => ⟨v0 (k := 4) (by decide) rfl rfl, ?_⟩, fun z => ⟨if_neg z, R2⟩⟩
    have eF : F (gi y 718) = nI (sN (fun h => sN (fuI (gi y 718) S W N a h) 32) 24) := if_pos z
    rw [eF, fuI_sum hW hN]
    refine lp_acc (fun j a' => a' + nI (sN (fun h => fuI (gi y 718) S W N a h (N + j)) 24)) (fun j n => GI mX8_full 20 [some (.ref 717), some (.int a), some (.int n), some (.int (nI (N + j))), none] [] KW y _) (W - N) 0 ?_ (fun j n hj n1 => ?_)
    · refine v_X8_full_20 km R2.2.1.1 km1 ⟨v0 (k := 0) (by decide) rfl rfl, fun _ => ⟨?_, R2⟩, fun z => absurd (by rw [ht.1]; exact nI_le (by omega) (by omega)) z⟩
      rw [sN_acc (f := fun j => sN (fun h => fuI (gi y 718) S W N a h (N + j)) 24)]
    · refine v_X8_full_20 km R2.2.1.1 km1 ⟨v0 (k := 0) (by decide) rfl rfl, fun z => absurd (by rw [ht.1] at z; exact z) (nI_ge (by omega) (by omega)), fun _ => ?_⟩
      have key : ∀ m h, h + m = 24 → GI mX8_full 33 [some (.ref 717), some (.int a), some (.int (n + nI (sN (fun h => fuI (gi y 718) S W N a h (N + j)) h))), some (.int (nI (N + j))), some (.int (nI h))] [] KW y (fun r' z => nI (sN (fun j => sN (fun i => fuI (gi y 718) S W N a i (N + j)) 24) (W - N)) = r' ∧ Rel z) := by
        intro m
        induction m with
        | zero =>
          intro h hh
          have : h = 24 := by omega
          subst this
          refine v_X8_full_33 km ⟨fun _ => ?_, fun z => absurd (Int32.le_refl _) z⟩
          rw [nI_1]
          exact n1 _ rfl
        | succ m ih =>
          intro h hh
          refine v_X8_full_33 km ⟨fun z => absurd z (nI_ge (b := 24) (by omega) (by decide)), fun _ => ?_⟩
          refine sp_X8_loadBut R2.2.1 km1 ht.2.2.1 hS (by omega) ⟨718, R2.2.1.1, 518, km1, ?_⟩
          have nx := ih (h + 1) (by omega)
          simp only [sN] at nx
          rw [ixh, nI_clamp (show 6 + 2 * h < 2 ^ 31 by omega), ldB_nW0 wo_0 S hS, nI_1, Int32.add_zero]
          refine ⟨vp_in_nI (by omega) (by decide), fun w => ?_, fun w => ?_⟩
          · rw [show fuI (gi y 718) S W N a h (N + j) = 0 from if_neg (fun u => Int32.not_le.mpr w u.2.2), Nat.add_zero] at nx
            exact nx
          · rw [show fuI (gi y 718) S W N a h (N + j) = 1 from if_pos ⟨by omega, by omega, Int32.not_lt.mp w⟩, ← nI_1, ← Int32.add_assoc] at nx
            exact nx
      have := key 24 0 (by omega)
      simp only [sN, nI_0, Int32.add_zero] at this
      exact this
  refine v_X7_full_0 k0 R.1.2.1 (ks0 E.1) ?_
  rw [hn.1]
  refine ⟨fun z => ?_, fun z => by have := rf x (EQx.rf _ _); rwa [show F (gi x 718) = -2 from if_neg z] at this⟩
  have eF : F (gi x 718) = nI (sN (fun h => sN (fuI (gi x 718) S W N a h) 32) 24) := if_pos z
  rw [eF, ← sN_acc] at rf
  refine lp_acc (fun h a' => a' + nI (sN (fuI (gi x 718) S W N a h) 32)) (fun h n => ∀ y, EQx x y 7 → GI mX7_full 15 [some (.ref 0), some (.int a), some (.int n), some (.int (nI h)), none] [] KW y _) 24 0 ?_ (fun h n hh n1 => ?_) x (EQx.rf _ _)
  · intro y hy
    have c1 := R.1.keep hy.1
    have E2 := E.eqx hy (Or.inl rfl)
    exact v_X7_full_15 k0 c1.2.1 (ks0 E.1) E2.2.1.1 (ks1 E.1) ⟨fun _ => rf y hy, fun z => absurd (Int32.le_refl _) z⟩
  · intro y hy
    have c1 := R.1.keep hy.1
    have E2 := E.eqx hy (Or.inl rfl)
    refine v_X7_full_15 k0 c1.2.1 (ks0 E.1) E2.2.1.1 (ks1 E.1) ⟨fun z => absurd z (nI_ge (b := 24) hh (by decide)), fun _ => ⟨vp_in_nI hh (by decide), ?_⟩⟩
    rw [nI_clamp (show h < 2 ^ 31 by omega), (E2.2.2.1.2.2.2.2.2.1 h hh).1, nI_1]
    refine sp_X4_weeksLoaded E2 (fun r z hz hr => ⟨(c1.keep hz.1).2.1, ?_⟩)
    have hn3 := (E2.eqx hz (Or.inl rfl)).nums
    rw [hn3.1, hn3.2.1]
    refine n1 _ ?_ z (hy.tr hz)
    show n + nI (sN (fuI (gi x 718) S W N a h) 32) = _
    rw [cpt_sN]
    congr 2
    apply sN_cg
    intro i hi
    unfold fuI
    rw [tb_and, tb_wtc hW hN hi]
    by_cases c : N ≤ i ∧ i < W
    · rw [decide_eq_true c, Bool.and_true]
      by_cases c2 : tb r i = true
      · rw [if_pos ⟨c.1, c.2, (hr i hi).mp c2⟩, if_pos c2]
      · rw [if_neg (fun u => c2 ((hr i hi).mpr u.2.2)), if_neg c2]
    · rw [decide_eq_false c, Bool.and_false, if_neg (by omega), if_neg (by decide)]
theorem eq_idle (a : Int32) : Both mX7_idle mX8_idle [.int a] := by
  intro x R
  obtain ⟨W, C, S, A, N, E, -, -⟩ := R.sea
  have hn := E.nums
  have hS : S ≤ 24 := hn.2.2.2.2.2.2.1
  have hW : W ≤ 30 := hn.2.2.2.2.1
  have hN : N ≤ W := hn.2.2.2.2.2.2.2.2
  have nWl : ∀ (T : TT) i (d h : Int32), nW T S i d h 0 0 ≤ 24 := fun T i d h => Nat.le_trans (cnt_le _ _) hS
  let g : TT → Nat → Int32 → Int32 := fun T => orP (fun h => bP (idl T S W N a h))
  have rf : ∀ y, EQx x y 7 → mSI mX8_idle [.ref 717, .int a] KW y (fun r' z => (if 0 < nI W ∧ 0 ≤ a ∧ a < 7 then accT (g (gi x 718)) 24 0 else -2) = r' ∧ Rel z) := by
    intro y hy
    obtain ⟨R2, eT⟩ := R.e7 hy
    have E2 := E.eqx hy (Or.inl rfl)
    rw [← eT] at E2 ⊢
    have ht := Rel.t2 E2
    refine v_X8_idle_0 km R2.2.1.1 km1 ⟨v0 (k := 0) (by decide) rfl rfl, ?_⟩
    rw [ht.1, d7]
    refine ⟨fun z => ?_, fun z => ⟨if_neg z, R2⟩⟩
    rw [if_pos z]
    refine lp_acc (g (gi y 718)) (fun h n => GI mX8_idle 15 [some (.ref 717), some (.int a), some (.int n), some (.int (nI h)), none, none] [] KW y _) 24 0 ?_ (fun h n hh n1 => ?_)
    · exact v_X8_idle_15 km R2.2.1.1 km1 ⟨fun _ => ⟨rfl, R2⟩, fun z => absurd (Int32.le_refl _) z⟩
    · refine v_X8_idle_15 km R2.2.1.1 km1 ⟨fun z => absurd z (nI_ge (b := 24) hh (by decide)), fun _ => ⟨v0 (k := 4) (by decide) rfl rfl, ?_⟩⟩
      rw [ht.2.2.2.2]
      have fin : ∀ v : Int32, v = bP (idl (gi y 718) S W N a h) → ((v = 0 → GI mX8_idle 15 [some (.ref 717), some (.int a), some (.int (n ||| 0)), some (.int (nI h + 1)), none, none] [] KW y (fun r' z => accT (g (gi y 718)) 24 0 = r' ∧ Rel z)) ∧ (¬ v = 0 → GI mX8_idle 15 [some (.ref 717), some (.int a), some (.int (n ||| (1 <<< (nI h &&& 31)))), some (.int (nI h + 1)), none, none] [] KW y (fun r' z => accT (g (gi y 718)) 24 0 = r' ∧ Rel z))) := by
        intro v hv
        rw [nI_1, Int32.or_zero, hv]
        exact ⟨fun w => n1 _ (if_pos w), fun w => n1 _ (if_neg w)⟩
      have st0 : ∀ w, N ≤ w → w ≤ W → ¬ idl (gi y 718) S W N a h → GI mX8_idle 32 [some (.ref 717), some (.int a), some (.int n), some (.int (nI h)), some (.int 0), some (.int (nI w))] [] KW y (fun r' z => accT (g (gi y 718)) 24 0 = r' ∧ Rel z) := by
        intro w h1 h2 u
        have f0 := fin 0 (bP_f u).symm
        exact v_X8_idle_32 km R2.2.1.1 km1 ⟨v0 (k := 0) (by decide) rfl rfl, fun _ => f0, fun _ => ⟨fun _ => f0, fun z => absurd rfl z⟩⟩
      have key : ∀ m w, w + m = W → N ≤ w → (∀ i, N ≤ i → i < w → nW (gi y 718) S i a (nI h) 0 0 = 0) → GI mX8_idle 32 [some (.ref 717), some (.int a), some (.int n), some (.int (nI h)), some (.int 1), some (.int (nI w))] [] KW y (fun r' z => accT (g (gi y 718)) 24 0 = r' ∧ Rel z) := by
        intro m
        induction m with
        | zero =>
          intro w h1 h2 u
          have : w = W := by omega
          subst this
          exact v_X8_idle_32 km R2.2.1.1 km1 ⟨v0 (k := 0) (by decide) rfl rfl, fun _ => fin 1 (bP_t u).symm, fun z => absurd (by rw [ht.1]; exact Int32.le_refl _) z⟩
        | succ m ih =>
          intro w h1 h2 u
          refine v_X8_idle_32 km R2.2.1.1 km1 ⟨v0 (k := 0) (by decide) rfl rfl, fun z => absurd (by rw [ht.1] at z; exact z) (nI_ge (by omega) (by omega)), fun _ => ⟨fun z => absurd z (by decide), fun _ => ?_⟩⟩
          refine sp_X8_loadBut R2.2.1 km1 ht.2.2.1 hS (by omega) ?_
          have := nWl (gi y 718) w a (nI h)
          rw [ldB_nW0 wo_0 S hS, nI_1, nI_z (by omega)]
          refine ⟨fun z => st0 (w + 1) (by omega) (by omega) (fun g => z (g w h2 (by omega))), fun z => ih (w + 1) (by omega) (by omega) (fun i g1 g2 => ?_)⟩
          by_cases c : i = w
          · rw [c]; exact z
          · exact u i g1 (by omega)
      exact key (W - N) N (by omega) (Nat.le_refl _) (fun i g1 g2 => absurd g1 (by omega))
  refine v_X7_idle_0 k0 R.1.2.1 (ks0 E.1) ?_
  rw [hn.1]
  refine ⟨fun z => ?_, fun z => by have := rf x (EQx.rf _ _); rwa [if_neg z] at this⟩
  rw [if_pos z] at rf
  refine lp_acc (g (gi x 718)) (fun h n => ∀ y, EQx x y 7 → GI mX7_idle 15 [some (.ref 0), some (.int a), some (.int n), some (.int (nI h)), none] [] KW y _) 24 0 ?_ (fun h n hh n1 => ?_) x (EQx.rf _ _)
  · intro y hy
    exact v_X7_idle_15 k0 (R.1.keep hy.1).2.1 (ks0 E.1) ⟨fun _ => rf y hy, fun z => absurd (Int32.le_refl _) z⟩
  · intro y hy
    have c1 := R.1.keep hy.1
    have E2 := E.eqx hy (Or.inl rfl)
    refine v_X7_idle_15 k0 c1.2.1 (ks0 E.1) ⟨fun z => absurd z (nI_ge (b := 24) hh (by decide)), fun _ => ?_⟩
    refine sp_X4_weeksLoaded E2 (fun r z hz hr => ⟨(c1.keep hz.1).2.1, ?_⟩)
    have hn3 := (E2.eqx hz (Or.inl rfl)).nums
    rw [hn3.1, hn3.2.1, nI_1]
    have hz2 := hy.tr hz
    have iff : (r &&& f_wtc (nI N) (nI W)) = 0 ↔ idl (gi x 718) S W N a h := by
      constructor
      · intro u i h1 h2
        have v := congrArg (fun v => tb v i) u
        simp only [tb_0, tb_and, tb_wtc hW hN (show i < 32 by omega), decide_eq_true (show N ≤ i ∧ i < W from ⟨h1, h2⟩), Bool.and_true] at v
        have h3 := (hr i (by omega))
        rw [v, show (1 : Int32) = nI 1 by decide, nI_leI (by decide) (by have := nWl (gi x 718) i a (nI h); omega)] at h3
        have h4 : ¬ 1 ≤ nW (gi x 718) S i a (nI h) 0 0 := fun e => absurd (h3.mpr e) (by decide)
        omega
      · intro u
        apply tb_ext
        intro i hi
        rw [tb_0, tb_and, tb_wtc hW hN hi]
        by_cases c : N ≤ i ∧ i < W
        · have h3 := hr i hi
          rw [u i c.1 c.2] at h3
          have h4 : ¬ tb r i = true := fun e => absurd (h3.mp e) (by decide)
          rw [Bool.eq_false_iff.mpr h4, Bool.false_and]
        · rw [decide_eq_false c, Bool.and_false]
    rw [iff]
    exact ⟨fun w => n1 _ (if_pos (bP_f w)) z hz2, fun w => n1 _ (if_neg (fun u => absurd w (bP_z.mp u))) z hz2⟩


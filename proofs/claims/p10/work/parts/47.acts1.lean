abbrev wb (b : Int32) : Int32 := 1 <<< (b &&& 31)
theorem wb_in {T : TT} {s w k : Nat} (hw : w < 32) (h : tb (so T s (7 + k)) w = true) : ∀ i, i < 32 → tb (wb (nI w)) i = true → tb (so T s (7 + k)) i = true := fun i hi e => by
  rw [tb_one w hw i hi, decide_eq_true_eq] at e
  rw [e]; exact h
theorem an_dis {b v : Int32} (h : ∀ i, i < 32 → tb b i = true → ¬ tb v i = true) : v &&& (b ^^^ (-1)) = v := by
  apply tb_ext
  intro i hi
  rw [tb_and, tb_not _ hi]
  cases c : tb b i with
  | true => rw [Bool.eq_false_iff.mpr (h i hi c)]; rfl
  | false => simp
theorem goT_nm (T : TT) (s : Nat) (w : Int32) (k o c : Nat) (hc : c < 8) : goT T s w k o (54 + c) = T (54 + c) := by
  unfold goT
  rw [uT_ne _ _ (by omega), uT_ne _ _ (by omega)]
theorem SER.go {x y : Cn} {p s : Nat} {T : TT} {w : Int32} {k o : Nat} (h : SER x p T s) (hk : k < 5) (ho : o < 5) (hko : k ≠ o) (hw : ∀ i, i < 32 → tb w i = true → tb (so T s (7 + k)) i = true) (h7 : gi y p 7 = gi x p 7) (hj : ∀ j, j < 12 → j ≠ 7 → gi y p j = so (goT T s w k o) s j) : SER y p (goT T s w k o) s := ⟨fun j h1 h2 => hj j h1 h2, by rw [h7, h.2, all_goT hk ho hko hw]⟩
theorem AC.go {x y z : Cn} {W C S A N n s p : Nat} {T : TT} {H : Nat → TT} {w : Int32} {k o : Nat} (a : AC x y W C S A N n T H) (hs : s < S) (hp : gr y 5 s = some p) (f : EQx y z p) (hk : k < 5) (ho : o < 5) (hko : k ≠ o) (hw : ∀ i, i < 32 → tb w i = true → tb (so T s (7 + k)) i = true) (h7 : gi z p 7 = gi y p 7) (hj : ∀ j, j < 12 → j ≠ 7 → gi z p j = so (goT T s w k o) s j) : AC x z W C S A N n (goT T s w k o) H := by
  have E := a.2.2.2.2
  have hS := E.2.2.1.2.2.2.2.2.2.1 s p hs hp
  have w0 := E.2.2.2.2.2.2.2.2.2.2.2.2.2.2.2.1 s hs
  exact a.ser hs hp f (fun i _ h => goT_off T s w hk ho i h) (hS.go hk ho hko hw h7 hj) (w0.go hk ho hko hw)
set_option maxHeartbeats 2000000 in
theorem v_X7_miss_0 {K : Sh} {x : Cn} {Q : Int32 → Cn → Prop} {b0 : Nat} {l1 : Int32} {l2 : Int32} {b0_2 : Nat} {b0_2_7 : Nat} {n_b0_2_7 : Nat} (k_b0 : kk K b0 = some (7, 0)) (g_b0_2 : gr x b0 2 = some b0_2) (k_b0_2 : kk K b0_2 = some (4, 0)) (g_b0_2_7 : gr x b0_2 7 = some b0_2_7) (k_b0_2_7 : kk K b0_2_7 = some (23, n_b0_2_7)) (K0 : (¬ (0 ≤ l1 ∧ l1 < gi x b0_2 3) → (Q (-2) x)) ∧ ((0 ≤ l1 ∧ l1 < gi x b0_2 3) → (((0 ≤ l2 ∧ l2 < gi x b0_2 0) → (vp_in l1 n_b0_2_7 ∧ (∃ c_4 : Nat, gr x b0_2_7 ((l1 : Int32).toNatClampNeg) = some c_4 ∧ (kk K c_4 = some (5, 0) ∧ (mSI mX5_stateOf [.ref c_4, .int l2] K x (fun r_8 y_7 => (¬ r_8 = 0 → (Q (-6) y_7)) ∧ (r_8 = 0 → (gr y_7 b0 2 = some b0_2 ∧ (((gi y_7 b0_2 1) ≤ l2 → (mSV mX7_remember [.ref b0] K y_7 (fun y_12 => mSI mX5_missesLeft [.ref c_4] K (ui y_12 c_4 9 ((gi y_12 c_4 9) ||| (1 <<< (l2 &&& 31)))) (fun r_14 y_13 => Q r_14 y_13)))) ∧ (¬ (gi y_7 b0_2 1) ≤ l2 → (Q (-6) y_7))))))))))) ∧ (¬ (0 ≤ l2 ∧ l2 < gi x b0_2 0) → (Q (-2) x))))) : mSI mX7_miss [.ref b0, .int l1, .int l2] K x Q := by
  refine s_I (by decide) (by simp [Value.category]) (Nat.le_of_ble_eq_true rfl) ?_
  show mGM mX7_miss 0 [some (.ref b0), some (.int l1), some (.int l2), none] [] (hp K x) (PI K Q)
  refine r_aload_n (pc := 0) dX7_miss_0 rfl ?_
  refine r_iload_n (pc := 1) dX7_miss_1 rfl ?_
  refine s_VI (pc := 2) mX7_isSeries (ci := 7) (a := b0) (As := [.int l1]) dX7_miss_2 lk_X7_132 in_X7_isSeries mo_X7_isSeries ⟨by decide, rfl⟩ ⟨by decide, by decide⟩ (Nat.le_of_ble_eq_true rfl) k_b0 (sp_X7_isSeries k_b0 g_b0_2 k_b0_2 ?_)
  refine r_if_eq (pc := 5) (tgt := 16) dX7_miss_5 (by decide) (fun q => ?_) (fun q => ?_)
  · have q := (b2i_z _).mp q
    have K0 := K0.1 q
    refine r_bipush (pc := 16) (v := (-2)) dX7_miss_16 (by decide) ?_
    exact s_iret rfl dX7_miss_18 K0
  · have q := b2i_nz q
    have K0 := K0.2 q
    refine r_aload_n (pc := 8) dX7_miss_8 rfl ?_
    refine r_iload_n (pc := 9) dX7_miss_9 rfl ?_
    refine s_VI (pc := 10) mX7_isWeek (ci := 7) (a := b0) (As := [.int l2]) dX7_miss_10 lk_X7_167 in_X7_isWeek mo_X7_isWeek ⟨by decide, rfl⟩ ⟨by decide, by decide⟩ (Nat.le_of_ble_eq_true rfl) k_b0 (sp_X7_isWeek k_b0 g_b0_2 k_b0_2 ?_)
    refine r_if_ne (pc := 13) (tgt := 19) dX7_miss_13 (by decide) (fun q => ?_) (fun q => ?_)
    · have q := b2i_nz q
      have K0 := K0.1 q
      refine r_aload_n (pc := 19) dX7_miss_19 rfl ?_
      refine s_getR (pc := 20) dX7_miss_20 fl_X7_20 rfl k_b0 g_b0_2 ?_
      refine s_getR (pc := 23) dX7_miss_23 fl_X7_135 rfl k_b0_2 g_b0_2_7 ?_
      refine r_iload_n (pc := 26) dX7_miss_26 rfl ?_
      obtain ⟨i_3, K0⟩ := K0
      obtain ⟨c_4, g_5, K0⟩ := K0
      refine s_aald (pc := 27) dX7_miss_27 (by decide) rfl k_b0_2_7 i_3 g_5 ?_
      refine r_astore_n (pc := 28) dX7_miss_28 (by decide) ?_
      refine r_aload_n (pc := 29) (L := [some (.ref b0), some (.int l1), some (.int l2), some (.ref c_4)]) dX7_miss_29 rfl ?_
      refine r_iload_n (pc := 30) dX7_miss_30 rfl ?_
      obtain ⟨e_6, K0⟩ := K0
      refine s_VI (pc := 31) mX5_stateOf (ci := 5) (a := c_4) (As := [.int l2]) dX7_miss_31 lk_X7_170 in_X5_stateOf mo_X5_stateOf ⟨by decide, rfl⟩ ⟨by decide, by decide⟩ (Nat.le_of_ble_eq_true rfl) e_6 (mSI_mono K0 (fun r_8 y_7 K0 => ?_))
      refine r_if_ne (pc := 34) (tgt := 48) dX7_miss_34 (by decide) (fun q => ?_) (fun q => ?_)
      · have K0 := K0.1 q
        refine r_bipush (pc := 48) (v := (-6)) dX7_miss_48 (by decide) ?_
        exact s_iret rfl dX7_miss_50 K0
      · have K0 := K0.2 q
        refine r_iload_n (pc := 37) dX7_miss_37 rfl ?_
        refine r_aload_n (pc := 38) dX7_miss_38 rfl ?_
        obtain ⟨g_10, K0⟩ := K0
        refine s_getR (pc := 39) dX7_miss_39 fl_X7_20 rfl k_b0 g_10 ?_
        refine s_getI (pc := 42) dX7_miss_42 fl_X7_103 rfl k_b0_2 ?_
        refine r_icmp_ge (pc := 45) (tgt := 51) dX7_miss_45 (by decide) (fun q => ?_) (fun q => ?_)
        · have K0 := K0.1 q
          refine r_aload_n (pc := 51) dX7_miss_51 rfl ?_
          refine s_VV (pc := 52) mX7_remember (ci := 7) (a := b0) (As := []) dX7_miss_52 lk_X7_333 in_X7_remember mo_X7_remember ⟨by decide, rfl⟩ ⟨by decide, by decide⟩ (Nat.le_of_ble_eq_true rfl) k_b0 (mSV_mono K0 (fun y_12 K0 => ?_))
          refine r_aload_n (pc := 55) dX7_miss_55 rfl ?_
          refine r_dup (pc := 56) dX7_miss_56 rfl ?_
          refine s_getI (pc := 57) dX7_miss_57 fl_X7_266 rfl e_6 ?_
          refine r_iconst (pc := 60) (v := 1) dX7_miss_60 (by decide) ?_
          refine r_iload_n (pc := 61) dX7_miss_61 rfl ?_
          refine r_ishl (pc := 62) dX7_miss_62 ?_
          refine r_ior (pc := 63) dX7_miss_63 ?_
          refine s_putI (pc := 64) dX7_miss_64 fl_X7_266 rfl rfl e_6 ?_
          refine r_aload_n (pc := 67) dX7_miss_67 rfl ?_
          refine s_VI (pc := 68) mX5_missesLeft (ci := 5) (a := c_4) (As := []) dX7_miss_68 lk_X7_242 in_X5_missesLeft mo_X5_missesLeft ⟨by decide, rfl⟩ ⟨by decide, by decide⟩ (Nat.le_of_ble_eq_true rfl) e_6 (mSI_mono K0 (fun r_14 y_13 K0 => ?_))
          exact s_iret rfl dX7_miss_71 K0
        · have K0 := K0.2 q
          refine r_bipush (pc := 48) (v := (-6)) dX7_miss_48 (by decide) ?_
          exact s_iret rfl dX7_miss_50 K0
    · have q := (b2i_z _).mp q
      have K0 := K0.2 q
      refine r_bipush (pc := 16) (v := (-2)) dX7_miss_16 (by decide) ?_
      exact s_iret rfl dX7_miss_18 K0
set_option maxHeartbeats 2000000 in
theorem v_X8_miss_0 {K : Sh} {x : Cn} {Q : Int32 → Cn → Prop} {b0 : Nat} {l1 : Int32} {l2 : Int32} {b0_1 : Nat} {n_b0_1 : Nat} (k_b0 : kk K b0 = some (8, 0)) (g_b0_1 : gr x b0 1 = some b0_1) (k_b0_1 : kk K b0_1 = some (20, n_b0_1)) (K0 : vp_in 2 n_b0_1 ∧ ((¬ (0 ≤ l1 ∧ l1 ≤ gi x b0_1 2 - 1) → (Q (-2) x)) ∧ ((0 ≤ l1 ∧ l1 ≤ gi x b0_1 2 - 1) → (vp_in 0 n_b0_1 ∧ (((0 ≤ l2 ∧ l2 ≤ gi x b0_1 0 - 1) → (mSI mX8_stateOf [.ref b0, .int l1, .int l2] K x (fun r_6 y_5 => (¬ r_6 = 0 → (Q (-6) y_5)) ∧ (r_6 = 0 → (gr y_5 b0 1 = some b0_1 ∧ (vp_in 4 n_b0_1 ∧ (((gi y_5 b0_1 4 ≤ l2) → (mSV mX8_keeps [.ref b0] K y_5 (fun y_11 => mSV mX8_goes [.ref b0, .int l1, .int (1 <<< (l2 &&& 31)), .int 0, .int 2] K y_11 (fun y_12 => mSI mX8_spareOf [.ref b0, .int l1] K y_12 (fun r_14 y_13 => Q r_14 y_13))))) ∧ (¬ (gi y_5 b0_1 4 ≤ l2) → (Q (-6) y_5))))))))) ∧ (¬ (0 ≤ l2 ∧ l2 ≤ gi x b0_1 0 - 1) → (Q (-2) x))))))) : mSI mX8_miss [.ref b0, .int l1, .int l2] K x Q := by
  refine s_I (by decide) (by simp [Value.category]) (Nat.le_of_ble_eq_true rfl) ?_
  show mGM mX8_miss 0 [some (.ref b0), some (.int l1), some (.int l2)] [] (hp K x) (PI K Q)
  refine r_aload_n (pc := 0) dX8_miss_0 rfl ?_
  refine r_iload_n (pc := 1) dX8_miss_1 rfl ?_
  obtain ⟨i_1, K0⟩ := K0
  refine s_VI (pc := 2) mX8_isSeries (ci := 8) (a := b0) (As := [.int l1]) dX8_miss_2 lk_X8_273 in_X8_isSeries mo_X8_isSeries ⟨by decide, rfl⟩ ⟨by decide, by decide⟩ (Nat.le_of_ble_eq_true rfl) k_b0 (sp_X8_isSeries k_b0 g_b0_1 k_b0_1 i_1 ?_)
  refine r_if_eq (pc := 5) (tgt := 16) dX8_miss_5 (by decide) (fun q => ?_) (fun q => ?_)
  · have q := (b2i_z _).mp q
    have K0 := K0.1 q
    refine r_bipush (pc := 16) (v := (-2)) dX8_miss_16 (by decide) ?_
    exact s_iret rfl dX8_miss_18 K0
  · have q := b2i_nz q
    have K0 := K0.2 q
    refine r_aload_n (pc := 8) dX8_miss_8 rfl ?_
    refine r_iload_n (pc := 9) dX8_miss_9 rfl ?_
    obtain ⟨i_3, K0⟩ := K0
    refine s_VI (pc := 10) mX8_isWeek (ci := 8) (a := b0) (As := [.int l2]) dX8_miss_10 lk_X8_57 in_X8_isWeek mo_X8_isWeek ⟨by decide, rfl⟩ ⟨by decide, by decide⟩ (Nat.le_of_ble_eq_true rfl) k_b0 (sp_X8_isWeek k_b0 g_b0_1 k_b0_1 i_3 ?_)
    refine r_if_ne (pc := 13) (tgt := 19) dX8_miss_13 (by decide) (fun q => ?_) (fun q => ?_)
    · have q := b2i_nz q
      have K0 := K0.1 q
      refine r_aload_n (pc := 19) dX8_miss_19 rfl ?_
      refine r_iload_n (pc := 20) dX8_miss_20 rfl ?_
      refine r_iload_n (pc := 21) dX8_miss_21 rfl ?_
      refine s_VI (pc := 22) mX8_stateOf (ci := 8) (a := b0) (As := [.int l1, .int l2]) dX8_miss_22 lk_X8_278 in_X8_stateOf mo_X8_stateOf ⟨by decide, rfl⟩ ⟨by decide, by decide⟩ (Nat.le_of_ble_eq_true rfl) k_b0 (mSI_mono K0 (fun r_6 y_5 K0 => ?_))
      refine r_if_ne (pc := 25) (tgt := 36) dX8_miss_25 (by decide) (fun q => ?_) (fun q => ?_)
      · have K0 := K0.1 q
        refine r_bipush (pc := 36) (v := (-6)) dX8_miss_36 (by decide) ?_
        exact s_iret rfl dX8_miss_38 K0
      · have K0 := K0.2 q
        refine r_aload_n (pc := 28) dX8_miss_28 rfl ?_
        refine r_iload_n (pc := 29) dX8_miss_29 rfl ?_
        obtain ⟨g_8, K0⟩ := K0
        obtain ⟨i_9, K0⟩ := K0
        refine s_VI (pc := 30) mX8_isComing (ci := 8) (a := b0) (As := [.int l2]) dX8_miss_30 lk_X8_363 in_X8_isComing mo_X8_isComing ⟨by decide, rfl⟩ ⟨by decide, by decide⟩ (Nat.le_of_ble_eq_true rfl) k_b0 (sp_X8_isComing k_b0 g_8 k_b0_1 i_9 ?_)
        refine r_if_ne (pc := 33) (tgt := 39) dX8_miss_33 (by decide) (fun q => ?_) (fun q => ?_)
        · have q := b2i_nz q
          have K0 := K0.1 q
          refine r_aload_n (pc := 39) dX8_miss_39 rfl ?_
          refine s_VV (pc := 40) mX8_keeps (ci := 8) (a := b0) (As := []) dX8_miss_40 lk_X8_366 in_X8_keeps mo_X8_keeps ⟨by decide, rfl⟩ ⟨by decide, by decide⟩ (Nat.le_of_ble_eq_true rfl) k_b0 (mSV_mono K0 (fun y_11 K0 => ?_))
          refine r_aload_n (pc := 43) dX8_miss_43 rfl ?_
          refine r_iload_n (pc := 44) dX8_miss_44 rfl ?_
          refine r_iconst (pc := 45) (v := 1) dX8_miss_45 (by decide) ?_
          refine r_iload_n (pc := 46) dX8_miss_46 rfl ?_
          refine r_ishl (pc := 47) dX8_miss_47 ?_
          refine r_iconst (pc := 48) (v := 0) dX8_miss_48 (by decide) ?_
          refine r_iconst (pc := 49) (v := 2) dX8_miss_49 (by decide) ?_
          refine s_VV (pc := 50) mX8_goes (ci := 8) (a := b0) (As := [.int l1, .int (1 <<< (l2 &&& 31)), .int 0, .int 2]) dX8_miss_50 lk_X8_369 in_X8_goes mo_X8_goes ⟨by decide, rfl⟩ ⟨by decide, by decide⟩ (Nat.le_of_ble_eq_true rfl) k_b0 (mSV_mono K0 (fun y_12 K0 => ?_))
          refine r_aload_n (pc := 53) dX8_miss_53 rfl ?_
          refine r_iload_n (pc := 54) dX8_miss_54 rfl ?_
          refine s_VI (pc := 55) mX8_spareOf (ci := 8) (a := b0) (As := [.int l1]) dX8_miss_55 lk_X8_308 in_X8_spareOf mo_X8_spareOf ⟨by decide, rfl⟩ ⟨by decide, by decide⟩ (Nat.le_of_ble_eq_true rfl) k_b0 (mSI_mono K0 (fun r_14 y_13 K0 => ?_))
          exact s_iret rfl dX8_miss_58 K0
        · have q := (b2i_z _).mp q
          have K0 := K0.2 q
          refine r_bipush (pc := 36) (v := (-6)) dX8_miss_36 (by decide) ?_
          exact s_iret rfl dX8_miss_38 K0
    · have q := (b2i_z _).mp q
      have K0 := K0.2 q
      refine r_bipush (pc := 16) (v := (-2)) dX8_miss_16 (by decide) ?_
      exact s_iret rfl dX8_miss_18 K0
section
variable {y : Cn} {Q : Int32 → Cn → Prop} {T : TT} {W C S A N n : Nat} {H : Nat → TT}
theorem sq_X8_miss {a b : Int32} (r : RS y T n H) (F : WF T W C S A N) (k1 : ¬ ((0 ≤ a ∧ a < nI S) ∧ (0 ≤ b ∧ b < nI W)) → Q (-2) y) (k2 : (0 ≤ a ∧ a < nI S) → (0 ≤ b ∧ b < nI W) → ¬ (stt T a.toNatClampNeg b.toNatClampNeg = 0 ∧ nI N ≤ b) → Q (-6) y) (k3 : (0 ≤ a ∧ a < nI S) → (0 ≤ b ∧ b < nI W) → stt T a.toNatClampNeg b.toNatClampNeg = 0 → nI N ≤ b → ∀ z, RFr y z → RS z (goT T a.toNatClampNeg (wb b) 0 2) (pn n) (push H n T) → Q (sprT (goT T a.toNatClampNeg (wb b) 0 2) a.toNatClampNeg) z) : mSI mX8_miss [.ref 717, .int a, .int b] KW y Q := by
  have hS : S ≤ 24 := F.2.2.2.2.2.2.1
  have hW : W ≤ 30 := F.2.2.1
  have M := r.1
  refine v_X8_miss_0 km M.1 km1 ⟨v0 (k := 2) (by decide) rfl rfl, ?_⟩
  rw [r.2.1, F.2.2.2.2.2.1, F.1, inN' (by omega), inN' (by omega)]
  refine ⟨fun z => k1 (fun u => z u.1), fun z1 => ⟨v0 (k := 0) (by decide) rfl rfl, fun z2 => ?_, fun z => k1 (fun u => z u.2)⟩⟩
  have k2 := k2 z1 z2
  have k3 := k3 z1 z2
  obtain ⟨s, hs, rfl⟩ := inN (by omega) z1
  obtain ⟨w, hw, rfl⟩ := inN (by omega) z2
  rw [nI_clamp (by omega), nI_clamp (by omega)] at k2
  rw [nI_clamp (by omega), nI_clamp (by omega)] at k3
  refine sp_X8_stateOf (by omega) (by omega) M km1 ?_
  rw [r.2.1, F.2.2.2.2.2.2.2.2.2.1]
  refine ⟨fun u => k2 (fun v => u v.1), fun u => ⟨M.1, v0 (k := 4) (by decide) rfl rfl, fun u2 => ?_, fun u2 => k2 (fun v => u2 v.2)⟩⟩
  refine r.keeps (fun z f1 r1 => sp_X8_goes (k := 0) (o := 2) r1 (by omega) (by decide) (by decide) (by decide) (fun v f2 r2 => ?_))
  refine sp_X8_spareOf r2.1 km1 (by omega) ?_
  rw [r2.2.1]
  exact k3 u u2 v (f1.tr f2) r2
end
set_option maxHeartbeats 2000000 in
theorem v_X7_excuse_0 {K : Sh} {x : Cn} {Q : Int32 → Cn → Prop} {b0 : Nat} {l1 : Int32} {l2 : Int32} {b0_2 : Nat} {b0_2_7 : Nat} {n_b0_2_7 : Nat} (k_b0 : kk K b0 = some (7, 0)) (g_b0_2 : gr x b0 2 = some b0_2) (k_b0_2 : kk K b0_2 = some (4, 0)) (g_b0_2_7 : gr x b0_2 7 = some b0_2_7) (k_b0_2_7 : kk K b0_2_7 = some (23, n_b0_2_7)) (K0 : (¬ (0 ≤ l1 ∧ l1 < gi x b0_2 3) → (Q (-2) x)) ∧ ((0 ≤ l1 ∧ l1 < gi x b0_2 3) → (((0 ≤ l2 ∧ l2 < gi x b0_2 0) → (vp_in l1 n_b0_2_7 ∧ (∃ c_4 : Nat, gr x b0_2_7 ((l1 : Int32).toNatClampNeg) = some c_4 ∧ (kk K c_4 = some (5, 0) ∧ (mSI mX5_stateOf [.ref c_4, .int l2] K x (fun r_8 y_7 => (r_8 = 2 → (mSV mX7_remember [.ref b0] K y_7 (fun y_10 => ∀ r_11 : Int32, r_11 = gi (ui y_10 c_4 9 ((gi y_10 c_4 9) &&& ((1 <<< (l2 &&& 31)) ^^^ (-1)))) c_4 10 → (Q (nI (cpt (gi (ui (ui y_10 c_4 9 ((gi y_10 c_4 9) &&& ((1 <<< (l2 &&& 31)) ^^^ (-1)))) c_4 10 (r_11 ||| (1 <<< (l2 &&& 31)))) c_4 8 ||| gi (ui (ui y_10 c_4 9 ((gi y_10 c_4 9) &&& ((1 <<< (l2 &&& 31)) ^^^ (-1)))) c_4 10 (r_11 ||| (1 <<< (l2 &&& 31)))) c_4 10))) (ui (ui y_10 c_4 9 ((gi y_10 c_4 9) &&& ((1 <<< (l2 &&& 31)) ^^^ (-1)))) c_4 10 (r_11 ||| (1 <<< (l2 &&& 31)))))))) ∧ (¬ r_8 = 2 → ((r_8 = 0 → (mSV mX7_remember [.ref b0] K y_7 (fun y_14 => ∀ r_15 : Int32, r_15 = gi (ui y_14 c_4 9 ((gi y_14 c_4 9) &&& ((1 <<< (l2 &&& 31)) ^^^ (-1)))) c_4 10 → (Q (nI (cpt (gi (ui (ui y_14 c_4 9 ((gi y_14 c_4 9) &&& ((1 <<< (l2 &&& 31)) ^^^ (-1)))) c_4 10 (r_15 ||| (1 <<< (l2 &&& 31)))) c_4 8 ||| gi (ui (ui y_14 c_4 9 ((gi y_14 c_4 9) &&& ((1 <<< (l2 &&& 31)) ^^^ (-1)))) c_4 10 (r_15 ||| (1 <<< (l2 &&& 31)))) c_4 10))) (ui (ui y_14 c_4 9 ((gi y_14 c_4 9) &&& ((1 <<< (l2 &&& 31)) ^^^ (-1)))) c_4 10 (r_15 ||| (1 <<< (l2 &&& 31)))))))) ∧ (¬ r_8 = 0 → (Q (-6) y_7)))))))))) ∧ (¬ (0 ≤ l2 ∧ l2 < gi x b0_2 0) → (Q (-2) x))))) : mSI mX7_excuse [.ref b0, .int l1, .int l2] K x Q := by
  refine s_I (by decide) (by simp [Value.category]) (Nat.le_of_ble_eq_true rfl) ?_
  show mGM mX7_excuse 0 [some (.ref b0), some (.int l1), some (.int l2), none, none] [] (hp K x) (PI K Q)
  refine r_aload_n (pc := 0) dX7_excuse_0 rfl ?_
  refine r_iload_n (pc := 1) dX7_excuse_1 rfl ?_
  refine s_VI (pc := 2) mX7_isSeries (ci := 7) (a := b0) (As := [.int l1]) dX7_excuse_2 lk_X7_132 in_X7_isSeries mo_X7_isSeries ⟨by decide, rfl⟩ ⟨by decide, by decide⟩ (Nat.le_of_ble_eq_true rfl) k_b0 (sp_X7_isSeries k_b0 g_b0_2 k_b0_2 ?_)
  refine r_if_eq (pc := 5) (tgt := 16) dX7_excuse_5 (by decide) (fun q => ?_) (fun q => ?_)
  · have q := (b2i_z _).mp q
    have K0 := K0.1 q
    refine r_bipush (pc := 16) (v := (-2)) dX7_excuse_16 (by decide) ?_
    exact s_iret rfl dX7_excuse_18 K0
  · have q := b2i_nz q
    have K0 := K0.2 q
    refine r_aload_n (pc := 8) dX7_excuse_8 rfl ?_
    refine r_iload_n (pc := 9) dX7_excuse_9 rfl ?_
    refine s_VI (pc := 10) mX7_isWeek (ci := 7) (a := b0) (As := [.int l2]) dX7_excuse_10 lk_X7_167 in_X7_isWeek mo_X7_isWeek ⟨by decide, rfl⟩ ⟨by decide, by decide⟩ (Nat.le_of_ble_eq_true rfl) k_b0 (sp_X7_isWeek k_b0 g_b0_2 k_b0_2 ?_)
    refine r_if_ne (pc := 13) (tgt := 19) dX7_excuse_13 (by decide) (fun q => ?_) (fun q => ?_)
    · have q := b2i_nz q
      have K0 := K0.1 q
      refine r_aload_n (pc := 19) dX7_excuse_19 rfl ?_
      refine s_getR (pc := 20) dX7_excuse_20 fl_X7_20 rfl k_b0 g_b0_2 ?_
      refine s_getR (pc := 23) dX7_excuse_23 fl_X7_135 rfl k_b0_2 g_b0_2_7 ?_
      refine r_iload_n (pc := 26) dX7_excuse_26 rfl ?_
      obtain ⟨i_3, K0⟩ := K0
      obtain ⟨c_4, g_5, K0⟩ := K0
      refine s_aald (pc := 27) dX7_excuse_27 (by decide) rfl k_b0_2_7 i_3 g_5 ?_
      refine r_astore_n (pc := 28) dX7_excuse_28 (by decide) ?_
      refine r_aload_n (pc := 29) (L := [some (.ref b0), some (.int l1), some (.int l2), some (.ref c_4), none]) dX7_excuse_29 rfl ?_
      refine r_iload_n (pc := 30) dX7_excuse_30 rfl ?_
      obtain ⟨e_6, K0⟩ := K0
      refine s_VI (pc := 31) mX5_stateOf (ci := 5) (a := c_4) (As := [.int l2]) dX7_excuse_31 lk_X7_170 in_X5_stateOf mo_X5_stateOf ⟨by decide, rfl⟩ ⟨by decide, by decide⟩ (Nat.le_of_ble_eq_true rfl) e_6 (mSI_mono K0 (fun r_8 y_7 K0 => ?_))
      refine r_istore (pc := 34) dX7_excuse_34 (by decide) ?_
      refine r_iload (pc := 36) (L := [some (.ref b0), some (.int l1), some (.int l2), some (.ref c_4), some (.int r_8)]) dX7_excuse_36 rfl ?_
      refine r_iconst (pc := 38) (v := 2) dX7_excuse_38 (by decide) ?_
      refine r_icmp_eq (pc := 39) (tgt := 50) dX7_excuse_39 (by decide) (fun q => ?_) (fun q => ?_)
      · have K0 := K0.1 q
        refine r_aload_n (pc := 50) dX7_excuse_50 rfl ?_
        refine s_VV (pc := 51) mX7_remember (ci := 7) (a := b0) (As := []) dX7_excuse_51 lk_X7_333 in_X7_remember mo_X7_remember ⟨by decide, rfl⟩ ⟨by decide, by decide⟩ (Nat.le_of_ble_eq_true rfl) k_b0 (mSV_mono K0 (fun y_10 K0 => ?_))
        refine r_aload_n (pc := 54) dX7_excuse_54 rfl ?_
        refine r_dup (pc := 55) dX7_excuse_55 rfl ?_
        refine s_getI (pc := 56) dX7_excuse_56 fl_X7_266 rfl e_6 ?_
        refine r_iconst (pc := 59) (v := 1) dX7_excuse_59 (by decide) ?_
        refine r_iload_n (pc := 60) dX7_excuse_60 rfl ?_
        refine r_ishl (pc := 61) dX7_excuse_61 ?_
        refine r_iconst (pc := 62) (v := (-1)) dX7_excuse_62 (by decide) ?_
        refine r_ixor (pc := 63) dX7_excuse_63 ?_
        refine r_iand (pc := 64) dX7_excuse_64 ?_
        refine s_putI (pc := 65) dX7_excuse_65 fl_X7_266 rfl rfl e_6 ?_
        refine r_aload_n (pc := 68) dX7_excuse_68 rfl ?_
        refine r_dup (pc := 69) dX7_excuse_69 rfl ?_
        refine s_getI (pc := 70) dX7_excuse_70 fl_X7_336 rfl e_6 ?_
        obtain ⟨r_11, w_12⟩ : ∃ z : Int32, z = gi (ui y_10 c_4 9 ((gi y_10 c_4 9) &&& ((1 <<< (l2 &&& 31)) ^^^ (-1)))) c_4 10 := ⟨_, rfl⟩
        rw [← w_12]
        have K0 := K0 r_11 w_12
        refine r_iconst (pc := 73) (v := 1) dX7_excuse_73 (by decide) ?_
        refine r_iload_n (pc := 74) dX7_excuse_74 rfl ?_
        refine r_ishl (pc := 75) dX7_excuse_75 ?_
        refine r_ior (pc := 76) dX7_excuse_76 ?_
        refine s_putI (pc := 77) dX7_excuse_77 fl_X7_336 rfl rfl e_6 ?_
        refine r_aload_n (pc := 80) dX7_excuse_80 rfl ?_
        refine s_VI (pc := 81) mX5_good (ci := 5) (a := c_4) (As := []) dX7_excuse_81 lk_X7_233 in_X5_good mo_X5_good ⟨by decide, rfl⟩ ⟨by decide, by decide⟩ (Nat.le_of_ble_eq_true rfl) e_6 (sp_X5_good e_6 ?_)
        exact s_iret rfl dX7_excuse_84 K0
      · have K0 := K0.2 q
        refine r_iload (pc := 42) dX7_excuse_42 rfl ?_
        refine r_if_eq (pc := 44) (tgt := 50) dX7_excuse_44 (by decide) (fun q => ?_) (fun q => ?_)
        · have K0 := K0.1 q
          refine r_aload_n (pc := 50) dX7_excuse_50 rfl ?_
          refine s_VV (pc := 51) mX7_remember (ci := 7) (a := b0) (As := []) dX7_excuse_51 lk_X7_333 in_X7_remember mo_X7_remember ⟨by decide, rfl⟩ ⟨by decide, by decide⟩ (Nat.le_of_ble_eq_true rfl) k_b0 (mSV_mono K0 (fun y_14 K0 => ?_))
          refine r_aload_n (pc := 54) dX7_excuse_54 rfl ?_
          refine r_dup (pc := 55) dX7_excuse_55 rfl ?_
          refine s_getI (pc := 56) dX7_excuse_56 fl_X7_266 rfl e_6 ?_
          refine r_iconst (pc := 59) (v := 1) dX7_excuse_59 (by decide) ?_
          refine r_iload_n (pc := 60) dX7_excuse_60 rfl ?_
          refine r_ishl (pc := 61) dX7_excuse_61 ?_
          refine r_iconst (pc := 62) (v := (-1)) dX7_excuse_62 (by decide) ?_
          refine r_ixor (pc := 63) dX7_excuse_63 ?_
          refine r_iand (pc := 64) dX7_excuse_64 ?_
          refine s_putI (pc := 65) dX7_excuse_65 fl_X7_266 rfl rfl e_6 ?_
          refine r_aload_n (pc := 68) dX7_excuse_68 rfl ?_
          refine r_dup (pc := 69) dX7_excuse_69 rfl ?_
          refine s_getI (pc := 70) dX7_excuse_70 fl_X7_336 rfl e_6 ?_
          obtain ⟨r_15, w_16⟩ : ∃ z : Int32, z = gi (ui y_14 c_4 9 ((gi y_14 c_4 9) &&& ((1 <<< (l2 &&& 31)) ^^^ (-1)))) c_4 10 := ⟨_, rfl⟩
          rw [← w_16]
          have K0 := K0 r_15 w_16
          refine r_iconst (pc := 73) (v := 1) dX7_excuse_73 (by decide) ?_
          refine r_iload_n (pc := 74) dX7_excuse_74 rfl ?_
          refine r_ishl (pc := 75) dX7_excuse_75 ?_
          refine r_ior (pc := 76) dX7_excuse_76 ?_
          refine s_putI (pc := 77) dX7_excuse_77 fl_X7_336 rfl rfl e_6 ?_
          refine r_aload_n (pc := 80) dX7_excuse_80 rfl ?_
          refine s_VI (pc := 81) mX5_good (ci := 5) (a := c_4) (As := []) dX7_excuse_81 lk_X7_233 in_X5_good mo_X5_good ⟨by decide, rfl⟩ ⟨by decide, by decide⟩ (Nat.le_of_ble_eq_true rfl) e_6 (sp_X5_good e_6 ?_)
          exact s_iret rfl dX7_excuse_84 K0
        · have K0 := K0.2 q
          refine r_bipush (pc := 47) (v := (-6)) dX7_excuse_47 (by decide) ?_
          exact s_iret rfl dX7_excuse_49 K0
    · have q := (b2i_z _).mp q
      have K0 := K0.2 q
      refine r_bipush (pc := 16) (v := (-2)) dX7_excuse_16 (by decide) ?_
      exact s_iret rfl dX7_excuse_18 K0
set_option maxHeartbeats 2000000 in
theorem v_X8_excuse_0 {K : Sh} {x : Cn} {Q : Int32 → Cn → Prop} {b0 : Nat} {l1 : Int32} {l2 : Int32} {b0_1 : Nat} {n_b0_1 : Nat} (k_b0 : kk K b0 = some (8, 0)) (g_b0_1 : gr x b0 1 = some b0_1) (k_b0_1 : kk K b0_1 = some (20, n_b0_1)) (K0 : vp_in 2 n_b0_1 ∧ ((¬ (0 ≤ l1 ∧ l1 ≤ gi x b0_1 2 - 1) → (Q (-2) x)) ∧ ((0 ≤ l1 ∧ l1 ≤ gi x b0_1 2 - 1) → (vp_in 0 n_b0_1 ∧ (((0 ≤ l2 ∧ l2 ≤ gi x b0_1 0 - 1) → (mSI mX8_stateOf [.ref b0, .int l1, .int l2] K x (fun r_6 y_5 => (r_6 = 0 → (mSV mX8_keeps [.ref b0] K y_5 (fun y_8 => mSV mX8_goes [.ref b0, .int l1, .int (1 <<< (l2 &&& 31)), .int r_6, .int 3] K y_8 (fun y_9 => ∃ c_10 : Nat, gr y_9 b0 3 = some c_10 ∧ (∃ n_13 : Nat, kk K c_10 = some (20, n_13) ∧ ((l24 l1 n_13) ∧ (Q (nI (cpt (so (gi y_9 c_10) (l1 : Int32).toNatClampNeg 8 ||| so (gi y_9 c_10) (l1 : Int32).toNatClampNeg 10))) y_9))))))) ∧ (¬ r_6 = 0 → ((r_6 = 2 → (mSV mX8_keeps [.ref b0] K y_5 (fun y_16 => mSV mX8_goes [.ref b0, .int l1, .int (1 <<< (l2 &&& 31)), .int r_6, .int 3] K y_16 (fun y_17 => ∃ c_18 : Nat, gr y_17 b0 3 = some c_18 ∧ (∃ n_21 : Nat, kk K c_18 = some (20, n_21) ∧ ((l24 l1 n_21) ∧ (Q (nI (cpt (so (gi y_17 c_18) (l1 : Int32).toNatClampNeg 8 ||| so (gi y_17 c_18) (l1 : Int32).toNatClampNeg 10))) y_17))))))) ∧ (¬ r_6 = 2 → (Q (-6) y_5))))))) ∧ (¬ (0 ≤ l2 ∧ l2 ≤ gi x b0_1 0 - 1) → (Q (-2) x))))))) : mSI mX8_excuse [.ref b0, .int l1, .int l2] K x Q := by
  refine s_I (by decide) (by simp [Value.category]) (Nat.le_of_ble_eq_true rfl) ?_
  show mGM mX8_excuse 0 [some (.ref b0), some (.int l1), some (.int l2), none] [] (hp K x) (PI K Q)
  refine r_aload_n (pc := 0) dX8_excuse_0 rfl ?_
  refine r_iload_n (pc := 1) dX8_excuse_1 rfl ?_
  obtain ⟨i_1, K0⟩ := K0
  refine s_VI (pc := 2) mX8_isSeries (ci := 8) (a := b0) (As := [.int l1]) dX8_excuse_2 lk_X8_273 in_X8_isSeries mo_X8_isSeries ⟨by decide, rfl⟩ ⟨by decide, by decide⟩ (Nat.le_of_ble_eq_true rfl) k_b0 (sp_X8_isSeries k_b0 g_b0_1 k_b0_1 i_1 ?_)
  refine r_if_eq (pc := 5) (tgt := 16) dX8_excuse_5 (by decide) (fun q => ?_) (fun q => ?_)
  · have q := (b2i_z _).mp q
    have K0 := K0.1 q
    refine r_bipush (pc := 16) (v := (-2)) dX8_excuse_16 (by decide) ?_
    exact s_iret rfl dX8_excuse_18 K0
  · have q := b2i_nz q
    have K0 := K0.2 q
    refine r_aload_n (pc := 8) dX8_excuse_8 rfl ?_
    refine r_iload_n (pc := 9) dX8_excuse_9 rfl ?_
    obtain ⟨i_3, K0⟩ := K0
    refine s_VI (pc := 10) mX8_isWeek (ci := 8) (a := b0) (As := [.int l2]) dX8_excuse_10 lk_X8_57 in_X8_isWeek mo_X8_isWeek ⟨by decide, rfl⟩ ⟨by decide, by decide⟩ (Nat.le_of_ble_eq_true rfl) k_b0 (sp_X8_isWeek k_b0 g_b0_1 k_b0_1 i_3 ?_)
    refine r_if_ne (pc := 13) (tgt := 19) dX8_excuse_13 (by decide) (fun q => ?_) (fun q => ?_)
    · have q := b2i_nz q
      have K0 := K0.1 q
      refine r_aload_n (pc := 19) dX8_excuse_19 rfl ?_
      refine r_iload_n (pc := 20) dX8_excuse_20 rfl ?_
      refine r_iload_n (pc := 21) dX8_excuse_21 rfl ?_
      refine s_VI (pc := 22) mX8_stateOf (ci := 8) (a := b0) (As := [.int l1, .int l2]) dX8_excuse_22 lk_X8_278 in_X8_stateOf mo_X8_stateOf ⟨by decide, rfl⟩ ⟨by decide, by decide⟩ (Nat.le_of_ble_eq_true rfl) k_b0 (mSI_mono K0 (fun r_6 y_5 K0 => ?_))
      refine r_istore_n (pc := 25) dX8_excuse_25 (by decide) ?_
      refine r_iload_n (pc := 26) (L := [some (.ref b0), some (.int l1), some (.int l2), some (.int r_6)]) dX8_excuse_26 rfl ?_
      refine r_if_eq (pc := 27) (tgt := 38) dX8_excuse_27 (by decide) (fun q => ?_) (fun q => ?_)
      · have K0 := K0.1 q
        refine r_aload_n (pc := 38) dX8_excuse_38 rfl ?_
        refine s_VV (pc := 39) mX8_keeps (ci := 8) (a := b0) (As := []) dX8_excuse_39 lk_X8_366 in_X8_keeps mo_X8_keeps ⟨by decide, rfl⟩ ⟨by decide, by decide⟩ (Nat.le_of_ble_eq_true rfl) k_b0 (mSV_mono K0 (fun y_8 K0 => ?_))
        refine r_aload_n (pc := 42) dX8_excuse_42 rfl ?_
        refine r_iload_n (pc := 43) dX8_excuse_43 rfl ?_
        refine r_iconst (pc := 44) (v := 1) dX8_excuse_44 (by decide) ?_
        refine r_iload_n (pc := 45) dX8_excuse_45 rfl ?_
        refine r_ishl (pc := 46) dX8_excuse_46 ?_
        refine r_iload_n (pc := 47) dX8_excuse_47 rfl ?_
        refine r_iconst (pc := 48) (v := 3) dX8_excuse_48 (by decide) ?_
        refine s_VV (pc := 49) mX8_goes (ci := 8) (a := b0) (As := [.int l1, .int (1 <<< (l2 &&& 31)), .int r_6, .int 3]) dX8_excuse_49 lk_X8_369 in_X8_goes mo_X8_goes ⟨by decide, rfl⟩ ⟨by decide, by decide⟩ (Nat.le_of_ble_eq_true rfl) k_b0 (mSV_mono K0 (fun y_9 K0 => ?_))
        refine r_aload_n (pc := 52) dX8_excuse_52 rfl ?_
        refine r_iload_n (pc := 53) dX8_excuse_53 rfl ?_
        obtain ⟨c_10, g_11, K0⟩ := K0
        obtain ⟨n_13, e_12, K0⟩ := K0
        obtain ⟨p_14, K0⟩ := K0
        refine s_VI (pc := 54) mX8_goodOf (ci := 8) (a := b0) (As := [.int l1]) dX8_excuse_54 lk_X8_299 in_X8_goodOf mo_X8_goodOf ⟨by decide, rfl⟩ ⟨by decide, by decide⟩ (Nat.le_of_ble_eq_true rfl) k_b0 (sr_X8_goodOf k_b0 g_11 e_12 p_14 ?_)
        exact s_iret rfl dX8_excuse_57 K0
      · have K0 := K0.2 q
        refine r_iload_n (pc := 30) dX8_excuse_30 rfl ?_
        refine r_iconst (pc := 31) (v := 2) dX8_excuse_31 (by decide) ?_
        refine r_icmp_eq (pc := 32) (tgt := 38) dX8_excuse_32 (by decide) (fun q => ?_) (fun q => ?_)
        · have K0 := K0.1 q
          refine r_aload_n (pc := 38) dX8_excuse_38 rfl ?_
          refine s_VV (pc := 39) mX8_keeps (ci := 8) (a := b0) (As := []) dX8_excuse_39 lk_X8_366 in_X8_keeps mo_X8_keeps ⟨by decide, rfl⟩ ⟨by decide, by decide⟩ (Nat.le_of_ble_eq_true rfl) k_b0 (mSV_mono K0 (fun y_16 K0 => ?_))
          refine r_aload_n (pc := 42) dX8_excuse_42 rfl ?_
          refine r_iload_n (pc := 43) dX8_excuse_43 rfl ?_
          refine r_iconst (pc := 44) (v := 1) dX8_excuse_44 (by decide) ?_
          refine r_iload_n (pc := 45) dX8_excuse_45 rfl ?_
          refine r_ishl (pc := 46) dX8_excuse_46 ?_
          refine r_iload_n (pc := 47) dX8_excuse_47 rfl ?_
          refine r_iconst (pc := 48) (v := 3) dX8_excuse_48 (by decide) ?_
          refine s_VV (pc := 49) mX8_goes (ci := 8) (a := b0) (As := [.int l1, .int (1 <<< (l2 &&& 31)), .int r_6, .int 3]) dX8_excuse_49 lk_X8_369 in_X8_goes mo_X8_goes ⟨by decide, rfl⟩ ⟨by decide, by decide⟩ (Nat.le_of_ble_eq_true rfl) k_b0 (mSV_mono K0 (fun y_17 K0 => ?_))
          refine r_aload_n (pc := 52) dX8_excuse_52 rfl ?_
          refine r_iload_n (pc := 53) dX8_excuse_53 rfl ?_
          obtain ⟨c_18, g_19, K0⟩ := K0
          obtain ⟨n_21, e_20, K0⟩ := K0
          obtain ⟨p_22, K0⟩ := K0
          refine s_VI (pc := 54) mX8_goodOf (ci := 8) (a := b0) (As := [.int l1]) dX8_excuse_54 lk_X8_299 in_X8_goodOf mo_X8_goodOf ⟨by decide, rfl⟩ ⟨by decide, by decide⟩ (Nat.le_of_ble_eq_true rfl) k_b0 (sr_X8_goodOf k_b0 g_19 e_20 p_22 ?_)
          exact s_iret rfl dX8_excuse_57 K0
        · have K0 := K0.2 q
          refine r_bipush (pc := 35) (v := (-6)) dX8_excuse_35 (by decide) ?_
          exact s_iret rfl dX8_excuse_37 K0
    · have q := (b2i_z _).mp q
      have K0 := K0.2 q
      refine r_bipush (pc := 16) (v := (-2)) dX8_excuse_16 (by decide) ?_
      exact s_iret rfl dX8_excuse_18 K0
section
variable {y : Cn} {Q : Int32 → Cn → Prop} {T : TT} {W C S A N n : Nat} {H : Nat → TT}
theorem sq_X8_excuse {a b : Int32} (r : RS y T n H) (F : WF T W C S A N) (k1 : ¬ ((0 ≤ a ∧ a < nI S) ∧ (0 ≤ b ∧ b < nI W)) → Q (-2) y) (k2 : (0 ≤ a ∧ a < nI S) → (0 ≤ b ∧ b < nI W) → ¬ stt T a.toNatClampNeg b.toNatClampNeg = 0 → ¬ stt T a.toNatClampNeg b.toNatClampNeg = 2 → Q (-6) y) (k3 : (0 ≤ a ∧ a < nI S) → (0 ≤ b ∧ b < nI W) → ∀ k, k = 0 ∨ k = 2 → stt T a.toNatClampNeg b.toNatClampNeg = nI k → ∀ z, RFr y z → RS z (goT T a.toNatClampNeg (wb b) k 3) (pn n) (push H n T) → Q (nI (cpt (so (goT T a.toNatClampNeg (wb b) k 3) a.toNatClampNeg 8 ||| so (goT T a.toNatClampNeg (wb b) k 3) a.toNatClampNeg 10))) z) : mSI mX8_excuse [.ref 717, .int a, .int b] KW y Q := by
  have hS : S ≤ 24 := F.2.2.2.2.2.2.1
  have hW : W ≤ 30 := F.2.2.1
  have M := r.1
  refine v_X8_excuse_0 km M.1 km1 ⟨v0 (k := 2) (by decide) rfl rfl, ?_⟩
  rw [r.2.1, F.2.2.2.2.2.1, F.1, inN' (by omega), inN' (by omega)]
  refine ⟨fun z => k1 (fun u => z u.1), fun z1 => ⟨v0 (k := 0) (by decide) rfl rfl, fun z2 => ?_, fun z => k1 (fun u => z u.2)⟩⟩
  have k2 := k2 z1 z2
  have k3 := k3 z1 z2
  obtain ⟨s, hs, rfl⟩ := inN (by omega) z1
  obtain ⟨w, hw, rfl⟩ := inN (by omega) z2
  rw [nI_clamp (by omega), nI_clamp (by omega)] at k2
  rw [nI_clamp (by omega), nI_clamp (by omega)] at k3
  refine sp_X8_stateOf (by omega) (by omega) M km1 ?_
  rw [r.2.1]
  have go : ∀ k, k = 0 ∨ k = 2 → stt T s w = nI k → mSV mX8_keeps [.ref 717] KW y (fun y_8 => mSV mX8_goes [.ref 717, .int (nI s), .int (1 <<< (nI w &&& 31)), .int (stt T s w), .int 3] KW y_8 (fun y_9 => ∃ c_10, gr y_9 717 3 = some c_10 ∧ (∃ n_13, kk KW c_10 = some (20, n_13) ∧ ((l24 (nI s) n_13) ∧ (Q (nI (cpt (so (gi y_9 c_10) (nI s).toNatClampNeg 8 ||| so (gi y_9 c_10) (nI s).toNatClampNeg 10))) y_9))))) := by
    intro k hk e
    rw [e]
    refine r.keeps (fun z f1 r1 => sp_X8_goes (o := 3) r1 (by omega) (by omega) (by decide) (by omega) (fun v f2 r2 => ⟨718, r2.1.2.2.1, 518, km1, l24_nI (by omega) rfl, ?_⟩))
    rw [r2.2.1, nI_clamp (by omega)]
    exact k3 k hk e v (f1.tr f2) r2
  exact ⟨fun u => go 0 (Or.inl rfl) u, fun u => ⟨fun u2 => go 2 (Or.inr rfl) u2, fun u2 => k2 u u2⟩⟩
end
set_option maxHeartbeats 2000000 in
theorem v_X7_fly_0 {K : Sh} {x : Cn} {Q : Int32 → Cn → Prop} {b0 : Nat} {l1 : Int32} {l2 : Int32} {b0_2 : Nat} {b0_2_7 : Nat} {n_b0_2_7 : Nat} (k_b0 : kk K b0 = some (7, 0)) (g_b0_2 : gr x b0 2 = some b0_2) (k_b0_2 : kk K b0_2 = some (4, 0)) (g_b0_2_7 : gr x b0_2 7 = some b0_2_7) (k_b0_2_7 : kk K b0_2_7 = some (23, n_b0_2_7)) (K0 : (¬ (0 ≤ l1 ∧ l1 < gi x b0_2 3) → (Q (-2) x)) ∧ ((0 ≤ l1 ∧ l1 < gi x b0_2 3) → (((0 ≤ l2 ∧ l2 < gi x b0_2 0) → (vp_in l1 n_b0_2_7 ∧ (∃ c_4 : Nat, gr x b0_2_7 ((l1 : Int32).toNatClampNeg) = some c_4 ∧ (kk K c_4 = some (5, 0) ∧ (mSI mX5_stateOf [.ref c_4, .int l2] K x (fun r_8 y_7 => (r_8 = 2 → (gr y_7 b0 2 = some b0_2 ∧ (((gi y_7 b0_2 1) ≤ l2 → (mSV mX7_remember [.ref b0] K y_7 (fun y_12 => ∀ r_13 : Int32, r_13 = gi (ui y_12 c_4 9 ((gi y_12 c_4 9) &&& ((1 <<< (l2 &&& 31)) ^^^ (-1)))) c_4 10 → (Q r_8 (ui (ui y_12 c_4 9 ((gi y_12 c_4 9) &&& ((1 <<< (l2 &&& 31)) ^^^ (-1)))) c_4 10 (r_13 &&& ((1 <<< (l2 &&& 31)) ^^^ (-1)))))))) ∧ (¬ (gi y_7 b0_2 1) ≤ l2 → (Q (-6) y_7))))) ∧ (¬ r_8 = 2 → ((¬ r_8 = 3 → (Q (-6) y_7)) ∧ (r_8 = 3 → (gr y_7 b0 2 = some b0_2 ∧ (((gi y_7 b0_2 1) ≤ l2 → (mSV mX7_remember [.ref b0] K y_7 (fun y_18 => ∀ r_19 : Int32, r_19 = gi (ui y_18 c_4 9 ((gi y_18 c_4 9) &&& ((1 <<< (l2 &&& 31)) ^^^ (-1)))) c_4 10 → (Q r_8 (ui (ui y_18 c_4 9 ((gi y_18 c_4 9) &&& ((1 <<< (l2 &&& 31)) ^^^ (-1)))) c_4 10 (r_19 &&& ((1 <<< (l2 &&& 31)) ^^^ (-1)))))))) ∧ (¬ (gi y_7 b0_2 1) ≤ l2 → (Q (-6) y_7))))))))))))) ∧ (¬ (0 ≤ l2 ∧ l2 < gi x b0_2 0) → (Q (-2) x))))) : mSI mX7_fly [.ref b0, .int l1, .int l2] K x Q := by
  refine s_I (by decide) (by simp [Value.category]) (Nat.le_of_ble_eq_true rfl) ?_
  show mGM mX7_fly 0 [some (.ref b0), some (.int l1), some (.int l2), none, none] [] (hp K x) (PI K Q)
  refine r_aload_n (pc := 0) dX7_fly_0 rfl ?_
  refine r_iload_n (pc := 1) dX7_fly_1 rfl ?_
  refine s_VI (pc := 2) mX7_isSeries (ci := 7) (a := b0) (As := [.int l1]) dX7_fly_2 lk_X7_132 in_X7_isSeries mo_X7_isSeries ⟨by decide, rfl⟩ ⟨by decide, by decide⟩ (Nat.le_of_ble_eq_true rfl) k_b0 (sp_X7_isSeries k_b0 g_b0_2 k_b0_2 ?_)
  refine r_if_eq (pc := 5) (tgt := 16) dX7_fly_5 (by decide) (fun q => ?_) (fun q => ?_)
  · have q := (b2i_z _).mp q
    have K0 := K0.1 q
    refine r_bipush (pc := 16) (v := (-2)) dX7_fly_16 (by decide) ?_
    exact s_iret rfl dX7_fly_18 K0
  · have q := b2i_nz q
    have K0 := K0.2 q
    refine r_aload_n (pc := 8) dX7_fly_8 rfl ?_
    refine r_iload_n (pc := 9) dX7_fly_9 rfl ?_
    refine s_VI (pc := 10) mX7_isWeek (ci := 7) (a := b0) (As := [.int l2]) dX7_fly_10 lk_X7_167 in_X7_isWeek mo_X7_isWeek ⟨by decide, rfl⟩ ⟨by decide, by decide⟩ (Nat.le_of_ble_eq_true rfl) k_b0 (sp_X7_isWeek k_b0 g_b0_2 k_b0_2 ?_)
    refine r_if_ne (pc := 13) (tgt := 19) dX7_fly_13 (by decide) (fun q => ?_) (fun q => ?_)
    · have q := b2i_nz q
      have K0 := K0.1 q
      refine r_aload_n (pc := 19) dX7_fly_19 rfl ?_
      refine s_getR (pc := 20) dX7_fly_20 fl_X7_20 rfl k_b0 g_b0_2 ?_
      refine s_getR (pc := 23) dX7_fly_23 fl_X7_135 rfl k_b0_2 g_b0_2_7 ?_
      refine r_iload_n (pc := 26) dX7_fly_26 rfl ?_
      obtain ⟨i_3, K0⟩ := K0
      obtain ⟨c_4, g_5, K0⟩ := K0
      refine s_aald (pc := 27) dX7_fly_27 (by decide) rfl k_b0_2_7 i_3 g_5 ?_
      refine r_astore_n (pc := 28) dX7_fly_28 (by decide) ?_
      refine r_aload_n (pc := 29) (L := [some (.ref b0), some (.int l1), some (.int l2), some (.ref c_4), none]) dX7_fly_29 rfl ?_
      refine r_iload_n (pc := 30) dX7_fly_30 rfl ?_
      obtain ⟨e_6, K0⟩ := K0
      refine s_VI (pc := 31) mX5_stateOf (ci := 5) (a := c_4) (As := [.int l2]) dX7_fly_31 lk_X7_170 in_X5_stateOf mo_X5_stateOf ⟨by decide, rfl⟩ ⟨by decide, by decide⟩ (Nat.le_of_ble_eq_true rfl) e_6 (mSI_mono K0 (fun r_8 y_7 K0 => ?_))
      refine r_istore (pc := 34) dX7_fly_34 (by decide) ?_
      refine r_iload (pc := 36) (L := [some (.ref b0), some (.int l1), some (.int l2), some (.ref c_4), some (.int r_8)]) dX7_fly_36 rfl ?_
      refine r_iconst (pc := 38) (v := 2) dX7_fly_38 (by decide) ?_
      refine r_icmp_eq (pc := 39) (tgt := 48) dX7_fly_39 (by decide) (fun q => ?_) (fun q => ?_)
      · have K0 := K0.1 q
        refine r_iload_n (pc := 48) dX7_fly_48 rfl ?_
        refine r_aload_n (pc := 49) dX7_fly_49 rfl ?_
        obtain ⟨g_10, K0⟩ := K0
        refine s_getR (pc := 50) dX7_fly_50 fl_X7_20 rfl k_b0 g_10 ?_
        refine s_getI (pc := 53) dX7_fly_53 fl_X7_103 rfl k_b0_2 ?_
        refine r_icmp_ge (pc := 56) (tgt := 62) dX7_fly_56 (by decide) (fun q => ?_) (fun q => ?_)
        · have K0 := K0.1 q
          refine r_aload_n (pc := 62) dX7_fly_62 rfl ?_
          refine s_VV (pc := 63) mX7_remember (ci := 7) (a := b0) (As := []) dX7_fly_63 lk_X7_333 in_X7_remember mo_X7_remember ⟨by decide, rfl⟩ ⟨by decide, by decide⟩ (Nat.le_of_ble_eq_true rfl) k_b0 (mSV_mono K0 (fun y_12 K0 => ?_))
          refine r_aload_n (pc := 66) dX7_fly_66 rfl ?_
          refine r_dup (pc := 67) dX7_fly_67 rfl ?_
          refine s_getI (pc := 68) dX7_fly_68 fl_X7_266 rfl e_6 ?_
          refine r_iconst (pc := 71) (v := 1) dX7_fly_71 (by decide) ?_
          refine r_iload_n (pc := 72) dX7_fly_72 rfl ?_
          refine r_ishl (pc := 73) dX7_fly_73 ?_
          refine r_iconst (pc := 74) (v := (-1)) dX7_fly_74 (by decide) ?_
          refine r_ixor (pc := 75) dX7_fly_75 ?_
          refine r_iand (pc := 76) dX7_fly_76 ?_
          refine s_putI (pc := 77) dX7_fly_77 fl_X7_266 rfl rfl e_6 ?_
          refine r_aload_n (pc := 80) dX7_fly_80 rfl ?_
          refine r_dup (pc := 81) dX7_fly_81 rfl ?_
          refine s_getI (pc := 82) dX7_fly_82 fl_X7_336 rfl e_6 ?_
          obtain ⟨r_13, w_14⟩ : ∃ z : Int32, z = gi (ui y_12 c_4 9 ((gi y_12 c_4 9) &&& ((1 <<< (l2 &&& 31)) ^^^ (-1)))) c_4 10 := ⟨_, rfl⟩
          rw [← w_14]
          have K0 := K0 r_13 w_14
          refine r_iconst (pc := 85) (v := 1) dX7_fly_85 (by decide) ?_
          refine r_iload_n (pc := 86) dX7_fly_86 rfl ?_
          refine r_ishl (pc := 87) dX7_fly_87 ?_
          refine r_iconst (pc := 88) (v := (-1)) dX7_fly_88 (by decide) ?_
          refine r_ixor (pc := 89) dX7_fly_89 ?_
          refine r_iand (pc := 90) dX7_fly_90 ?_
          refine s_putI (pc := 91) dX7_fly_91 fl_X7_336 rfl rfl e_6 ?_
          refine r_iload (pc := 94) dX7_fly_94 rfl ?_
          exact s_iret rfl dX7_fly_96 K0
        · have K0 := K0.2 q
          refine r_bipush (pc := 59) (v := (-6)) dX7_fly_59 (by decide) ?_
          exact s_iret rfl dX7_fly_61 K0
      · have K0 := K0.2 q
        refine r_iload (pc := 42) dX7_fly_42 rfl ?_
        refine r_iconst (pc := 44) (v := 3) dX7_fly_44 (by decide) ?_
        refine r_icmp_ne (pc := 45) (tgt := 59) dX7_fly_45 (by decide) (fun q => ?_) (fun q => ?_)
        · have K0 := K0.1 q
          refine r_bipush (pc := 59) (v := (-6)) dX7_fly_59 (by decide) ?_
          exact s_iret rfl dX7_fly_61 K0
        · have K0 := K0.2 q
          refine r_iload_n (pc := 48) dX7_fly_48 rfl ?_
          refine r_aload_n (pc := 49) dX7_fly_49 rfl ?_
          obtain ⟨g_16, K0⟩ := K0
          refine s_getR (pc := 50) dX7_fly_50 fl_X7_20 rfl k_b0 g_16 ?_
          refine s_getI (pc := 53) dX7_fly_53 fl_X7_103 rfl k_b0_2 ?_
          refine r_icmp_ge (pc := 56) (tgt := 62) dX7_fly_56 (by decide) (fun q => ?_) (fun q => ?_)
          · have K0 := K0.1 q
            refine r_aload_n (pc := 62) dX7_fly_62 rfl ?_
            refine s_VV (pc := 63) mX7_remember (ci := 7) (a := b0) (As := []) dX7_fly_63 lk_X7_333 in_X7_remember mo_X7_remember ⟨by decide, rfl⟩ ⟨by decide, by decide⟩ (Nat.le_of_ble_eq_true rfl) k_b0 (mSV_mono K0 (fun y_18 K0 => ?_))
            refine r_aload_n (pc := 66) dX7_fly_66 rfl ?_
            refine r_dup (pc := 67) dX7_fly_67 rfl ?_
            refine s_getI (pc := 68) dX7_fly_68 fl_X7_266 rfl e_6 ?_
            refine r_iconst (pc := 71) (v := 1) dX7_fly_71 (by decide) ?_
            refine r_iload_n (pc := 72) dX7_fly_72 rfl ?_
            refine r_ishl (pc := 73) dX7_fly_73 ?_
            refine r_iconst (pc := 74) (v := (-1)) dX7_fly_74 (by decide) ?_
            refine r_ixor (pc := 75) dX7_fly_75 ?_
            refine r_iand (pc := 76) dX7_fly_76 ?_
            refine s_putI (pc := 77) dX7_fly_77 fl_X7_266 rfl rfl e_6 ?_
            refine r_aload_n (pc := 80) dX7_fly_80 rfl ?_
            refine r_dup (pc := 81) dX7_fly_81 rfl ?_
            refine s_getI (pc := 82) dX7_fly_82 fl_X7_336 rfl e_6 ?_
            obtain ⟨r_19, w_20⟩ : ∃ z : Int32, z = gi (ui y_18 c_4 9 ((gi y_18 c_4 9) &&& ((1 <<< (l2 &&& 31)) ^^^ (-1)))) c_4 10 := ⟨_, rfl⟩
            rw [← w_20]
            have K0 := K0 r_19 w_20
            refine r_iconst (pc := 85) (v := 1) dX7_fly_85 (by decide) ?_
            refine r_iload_n (pc := 86) dX7_fly_86 rfl ?_
            refine r_ishl (pc := 87) dX7_fly_87 ?_
            refine r_iconst (pc := 88) (v := (-1)) dX7_fly_88 (by decide) ?_
            refine r_ixor (pc := 89) dX7_fly_89 ?_
            refine r_iand (pc := 90) dX7_fly_90 ?_
            refine s_putI (pc := 91) dX7_fly_91 fl_X7_336 rfl rfl e_6 ?_
            refine r_iload (pc := 94) dX7_fly_94 rfl ?_
            exact s_iret rfl dX7_fly_96 K0
          · have K0 := K0.2 q
            refine r_bipush (pc := 59) (v := (-6)) dX7_fly_59 (by decide) ?_
            exact s_iret rfl dX7_fly_61 K0
    · have q := (b2i_z _).mp q
      have K0 := K0.2 q
      refine r_bipush (pc := 16) (v := (-2)) dX7_fly_16 (by decide) ?_
      exact s_iret rfl dX7_fly_18 K0
set_option maxHeartbeats 2000000 in
theorem v_X8_fly_0 {K : Sh} {x : Cn} {Q : Int32 → Cn → Prop} {b0 : Nat} {l1 : Int32} {l2 : Int32} {b0_1 : Nat} {n_b0_1 : Nat} (k_b0 : kk K b0 = some (8, 0)) (g_b0_1 : gr x b0 1 = some b0_1) (k_b0_1 : kk K b0_1 = some (20, n_b0_1)) (K0 : vp_in 2 n_b0_1 ∧ ((¬ (0 ≤ l1 ∧ l1 ≤ gi x b0_1 2 - 1) → (Q (-2) x)) ∧ ((0 ≤ l1 ∧ l1 ≤ gi x b0_1 2 - 1) → (vp_in 0 n_b0_1 ∧ (((0 ≤ l2 ∧ l2 ≤ gi x b0_1 0 - 1) → (mSI mX8_stateOf [.ref b0, .int l1, .int l2] K x (fun r_6 y_5 => (r_6 = 2 → (gr y_5 b0 1 = some b0_1 ∧ (vp_in 4 n_b0_1 ∧ (((gi y_5 b0_1 4 ≤ l2) → (mSV mX8_keeps [.ref b0] K y_5 (fun y_11 => mSV mX8_goes [.ref b0, .int l1, .int (1 <<< (l2 &&& 31)), .int r_6, .int 0] K y_11 (fun y_12 => Q r_6 y_12)))) ∧ (¬ (gi y_5 b0_1 4 ≤ l2) → (Q (-6) y_5)))))) ∧ (¬ r_6 = 2 → ((¬ r_6 = 3 → (Q (-6) y_5)) ∧ (r_6 = 3 → (gr y_5 b0 1 = some b0_1 ∧ (vp_in 4 n_b0_1 ∧ (((gi y_5 b0_1 4 ≤ l2) → (mSV mX8_keeps [.ref b0] K y_5 (fun y_17 => mSV mX8_goes [.ref b0, .int l1, .int (1 <<< (l2 &&& 31)), .int r_6, .int 0] K y_17 (fun y_18 => Q r_6 y_18)))) ∧ (¬ (gi y_5 b0_1 4 ≤ l2) → (Q (-6) y_5))))))))))) ∧ (¬ (0 ≤ l2 ∧ l2 ≤ gi x b0_1 0 - 1) → (Q (-2) x))))))) : mSI mX8_fly [.ref b0, .int l1, .int l2] K x Q := by
  refine s_I (by decide) (by simp [Value.category]) (Nat.le_of_ble_eq_true rfl) ?_
  show mGM mX8_fly 0 [some (.ref b0), some (.int l1), some (.int l2), none] [] (hp K x) (PI K Q)
  refine r_aload_n (pc := 0) dX8_fly_0 rfl ?_
  refine r_iload_n (pc := 1) dX8_fly_1 rfl ?_
  obtain ⟨i_1, K0⟩ := K0
  refine s_VI (pc := 2) mX8_isSeries (ci := 8) (a := b0) (As := [.int l1]) dX8_fly_2 lk_X8_273 in_X8_isSeries mo_X8_isSeries ⟨by decide, rfl⟩ ⟨by decide, by decide⟩ (Nat.le_of_ble_eq_true rfl) k_b0 (sp_X8_isSeries k_b0 g_b0_1 k_b0_1 i_1 ?_)
  refine r_if_eq (pc := 5) (tgt := 16) dX8_fly_5 (by decide) (fun q => ?_) (fun q => ?_)
  · have q := (b2i_z _).mp q
    have K0 := K0.1 q
    refine r_bipush (pc := 16) (v := (-2)) dX8_fly_16 (by decide) ?_
    exact s_iret rfl dX8_fly_18 K0
  · have q := b2i_nz q
    have K0 := K0.2 q
    refine r_aload_n (pc := 8) dX8_fly_8 rfl ?_
    refine r_iload_n (pc := 9) dX8_fly_9 rfl ?_
    obtain ⟨i_3, K0⟩ := K0
    refine s_VI (pc := 10) mX8_isWeek (ci := 8) (a := b0) (As := [.int l2]) dX8_fly_10 lk_X8_57 in_X8_isWeek mo_X8_isWeek ⟨by decide, rfl⟩ ⟨by decide, by decide⟩ (Nat.le_of_ble_eq_true rfl) k_b0 (sp_X8_isWeek k_b0 g_b0_1 k_b0_1 i_3 ?_)
    refine r_if_ne (pc := 13) (tgt := 19) dX8_fly_13 (by decide) (fun q => ?_) (fun q => ?_)
    · have q := b2i_nz q
      have K0 := K0.1 q
      refine r_aload_n (pc := 19) dX8_fly_19 rfl ?_
      refine r_iload_n (pc := 20) dX8_fly_20 rfl ?_
      refine r_iload_n (pc := 21) dX8_fly_21 rfl ?_
      refine s_VI (pc := 22) mX8_stateOf (ci := 8) (a := b0) (As := [.int l1, .int l2]) dX8_fly_22 lk_X8_278 in_X8_stateOf mo_X8_stateOf ⟨by decide, rfl⟩ ⟨by decide, by decide⟩ (Nat.le_of_ble_eq_true rfl) k_b0 (mSI_mono K0 (fun r_6 y_5 K0 => ?_))
      refine r_istore_n (pc := 25) dX8_fly_25 (by decide) ?_
      refine r_iload_n (pc := 26) (L := [some (.ref b0), some (.int l1), some (.int l2), some (.int r_6)]) dX8_fly_26 rfl ?_
      refine r_iconst (pc := 27) (v := 2) dX8_fly_27 (by decide) ?_
      refine r_icmp_eq (pc := 28) (tgt := 36) dX8_fly_28 (by decide) (fun q => ?_) (fun q => ?_)
      · have K0 := K0.1 q
        refine r_aload_n (pc := 36) dX8_fly_36 rfl ?_
        refine r_iload_n (pc := 37) dX8_fly_37 rfl ?_
        obtain ⟨g_8, K0⟩ := K0
        obtain ⟨i_9, K0⟩ := K0
        refine s_VI (pc := 38) mX8_isComing (ci := 8) (a := b0) (As := [.int l2]) dX8_fly_38 lk_X8_363 in_X8_isComing mo_X8_isComing ⟨by decide, rfl⟩ ⟨by decide, by decide⟩ (Nat.le_of_ble_eq_true rfl) k_b0 (sp_X8_isComing k_b0 g_8 k_b0_1 i_9 ?_)
        refine r_if_ne (pc := 41) (tgt := 47) dX8_fly_41 (by decide) (fun q => ?_) (fun q => ?_)
        · have q := b2i_nz q
          have K0 := K0.1 q
          refine r_aload_n (pc := 47) dX8_fly_47 rfl ?_
          refine s_VV (pc := 48) mX8_keeps (ci := 8) (a := b0) (As := []) dX8_fly_48 lk_X8_366 in_X8_keeps mo_X8_keeps ⟨by decide, rfl⟩ ⟨by decide, by decide⟩ (Nat.le_of_ble_eq_true rfl) k_b0 (mSV_mono K0 (fun y_11 K0 => ?_))
          refine r_aload_n (pc := 51) dX8_fly_51 rfl ?_
          refine r_iload_n (pc := 52) dX8_fly_52 rfl ?_
          refine r_iconst (pc := 53) (v := 1) dX8_fly_53 (by decide) ?_
          refine r_iload_n (pc := 54) dX8_fly_54 rfl ?_
          refine r_ishl (pc := 55) dX8_fly_55 ?_
          refine r_iload_n (pc := 56) dX8_fly_56 rfl ?_
          refine r_iconst (pc := 57) (v := 0) dX8_fly_57 (by decide) ?_
          refine s_VV (pc := 58) mX8_goes (ci := 8) (a := b0) (As := [.int l1, .int (1 <<< (l2 &&& 31)), .int r_6, .int 0]) dX8_fly_58 lk_X8_369 in_X8_goes mo_X8_goes ⟨by decide, rfl⟩ ⟨by decide, by decide⟩ (Nat.le_of_ble_eq_true rfl) k_b0 (mSV_mono K0 (fun y_12 K0 => ?_))
          refine r_iload_n (pc := 61) dX8_fly_61 rfl ?_
          exact s_iret rfl dX8_fly_62 K0
        · have q := (b2i_z _).mp q
          have K0 := K0.2 q
          refine r_bipush (pc := 44) (v := (-6)) dX8_fly_44 (by decide) ?_
          exact s_iret rfl dX8_fly_46 K0
      · have K0 := K0.2 q
        refine r_iload_n (pc := 31) dX8_fly_31 rfl ?_
        refine r_iconst (pc := 32) (v := 3) dX8_fly_32 (by decide) ?_
        refine r_icmp_ne (pc := 33) (tgt := 44) dX8_fly_33 (by decide) (fun q => ?_) (fun q => ?_)
        · have K0 := K0.1 q
          refine r_bipush (pc := 44) (v := (-6)) dX8_fly_44 (by decide) ?_
          exact s_iret rfl dX8_fly_46 K0
        · have K0 := K0.2 q
          refine r_aload_n (pc := 36) dX8_fly_36 rfl ?_
          refine r_iload_n (pc := 37) dX8_fly_37 rfl ?_
          obtain ⟨g_14, K0⟩ := K0
          obtain ⟨i_15, K0⟩ := K0
          refine s_VI (pc := 38) mX8_isComing (ci := 8) (a := b0) (As := [.int l2]) dX8_fly_38 lk_X8_363 in_X8_isComing mo_X8_isComing ⟨by decide, rfl⟩ ⟨by decide, by decide⟩ (Nat.le_of_ble_eq_true rfl) k_b0 (sp_X8_isComing k_b0 g_14 k_b0_1 i_15 ?_)
          refine r_if_ne (pc := 41) (tgt := 47) dX8_fly_41 (by decide) (fun q => ?_) (fun q => ?_)
          · have q := b2i_nz q
            have K0 := K0.1 q
            refine r_aload_n (pc := 47) dX8_fly_47 rfl ?_
            refine s_VV (pc := 48) mX8_keeps (ci := 8) (a := b0) (As := []) dX8_fly_48 lk_X8_366 in_X8_keeps mo_X8_keeps ⟨by decide, rfl⟩ ⟨by decide, by decide⟩ (Nat.le_of_ble_eq_true rfl) k_b0 (mSV_mono K0 (fun y_17 K0 => ?_))
            refine r_aload_n (pc := 51) dX8_fly_51 rfl ?_
            refine r_iload_n (pc := 52) dX8_fly_52 rfl ?_
            refine r_iconst (pc := 53) (v := 1) dX8_fly_53 (by decide) ?_
            refine r_iload_n (pc := 54) dX8_fly_54 rfl ?_
            refine r_ishl (pc := 55) dX8_fly_55 ?_
            refine r_iload_n (pc := 56) dX8_fly_56 rfl ?_
            refine r_iconst (pc := 57) (v := 0) dX8_fly_57 (by decide) ?_
            refine s_VV (pc := 58) mX8_goes (ci := 8) (a := b0) (As := [.int l1, .int (1 <<< (l2 &&& 31)), .int r_6, .int 0]) dX8_fly_58 lk_X8_369 in_X8_goes mo_X8_goes ⟨by decide, rfl⟩ ⟨by decide, by decide⟩ (Nat.le_of_ble_eq_true rfl) k_b0 (mSV_mono K0 (fun y_18 K0 => ?_))
            refine r_iload_n (pc := 61) dX8_fly_61 rfl ?_
            exact s_iret rfl dX8_fly_62 K0
          · have q := (b2i_z _).mp q
            have K0 := K0.2 q
            refine r_bipush (pc := 44) (v := (-6)) dX8_fly_44 (by decide) ?_
            exact s_iret rfl dX8_fly_46 K0
    · have q := (b2i_z _).mp q
      have K0 := K0.2 q
      refine r_bipush (pc := 16) (v := (-2)) dX8_fly_16 (by decide) ?_
      exact s_iret rfl dX8_fly_18 K0
section
variable {y : Cn} {Q : Int32 → Cn → Prop} {T : TT} {W C S A N n : Nat} {H : Nat → TT}
theorem sq_X8_fly {a b : Int32} (r : RS y T n H) (F : WF T W C S A N) (k1 : ¬ ((0 ≤ a ∧ a < nI S) ∧ (0 ≤ b ∧ b < nI W)) → Q (-2) y) (k2 : (0 ≤ a ∧ a < nI S) → (0 ≤ b ∧ b < nI W) → ¬ ((stt T a.toNatClampNeg b.toNatClampNeg = 2 ∨ stt T a.toNatClampNeg b.toNatClampNeg = 3) ∧ nI N ≤ b) → Q (-6) y) (k3 : (0 ≤ a ∧ a < nI S) → (0 ≤ b ∧ b < nI W) → ∀ k, k = 2 ∨ k = 3 → stt T a.toNatClampNeg b.toNatClampNeg = nI k → nI N ≤ b → ∀ z, RFr y z → RS z (goT T a.toNatClampNeg (wb b) k 0) (pn n) (push H n T) → Q (nI k) z) : mSI mX8_fly [.ref 717, .int a, .int b] KW y Q := by
  have hS : S ≤ 24 := F.2.2.2.2.2.2.1
  have hW : W ≤ 30 := F.2.2.1
  have M := r.1
  refine v_X8_fly_0 km M.1 km1 ⟨v0 (k := 2) (by decide) rfl rfl, ?_⟩
  rw [r.2.1, F.2.2.2.2.2.1, F.1, inN' (by omega), inN' (by omega)]
  refine ⟨fun z => k1 (fun u => z u.1), fun z1 => ⟨v0 (k := 0) (by decide) rfl rfl, fun z2 => ?_, fun z => k1 (fun u => z u.2)⟩⟩
  have k2 := k2 z1 z2
  have k3 := k3 z1 z2
  obtain ⟨s, hs, rfl⟩ := inN (by omega) z1
  obtain ⟨w, hw, rfl⟩ := inN (by omega) z2
  rw [nI_clamp (by omega), nI_clamp (by omega)] at k2
  rw [nI_clamp (by omega), nI_clamp (by omega)] at k3
  refine sp_X8_stateOf (by omega) (by omega) M km1 ?_
  rw [r.2.1, F.2.2.2.2.2.2.2.2.2.1]
  have go : ∀ k, k = 2 ∨ k = 3 → stt T s w = nI k → nI N ≤ nI w → mSV mX8_keeps [.ref 717] KW y (fun y_8 => mSV mX8_goes [.ref 717, .int (nI s), .int (1 <<< (nI w &&& 31)), .int (stt T s w), .int 0] KW y_8 (fun y_9 => Q (stt T s w) y_9)) := by
    intro k hk e e2
    rw [e]
    exact r.keeps (fun z f1 r1 => sp_X8_goes (o := 0) r1 (by omega) (by omega) (by decide) (by omega) (fun v f2 r2 => k3 k hk e e2 v (f1.tr f2) r2))
  refine ⟨fun u => ⟨M.1, v0 (k := 4) (by decide) rfl rfl, fun u2 => go 2 (Or.inl rfl) u u2, fun u2 => k2 (fun v => u2 v.2)⟩, fun u => ⟨fun u2 => k2 (fun v => v.1.elim u u2), fun u2 => ⟨M.1, v0 (k := 4) (by decide) rfl rfl, fun u3 => go 3 (Or.inr rfl) u2 u3, fun u3 => k2 (fun v => u3 v.2)⟩⟩⟩
/-- open weeks from one on -/
def opf (T : TT) (W s w : Nat) : Int32 := if W ≤ w then 0 else so T s 7 &&& f_span (nI w) (nI W - 1)
end
set_option maxHeartbeats 2000000 in
theorem v_X8_openFrom_0 {K : Sh} {x : Cn} {Q : Int32 → Cn → Prop} {b0 : Nat} {l1 : Int32} {l2 : Int32} {b0_1 : Nat} {n_b0_1 : Nat} {b0_3 : Nat} {n_b0_3 : Nat} (k_b0 : kk K b0 = some (8, 0)) (g_b0_1 : gr x b0 1 = some b0_1) (k_b0_1 : kk K b0_1 = some (20, n_b0_1)) (g_b0_3 : gr x b0 3 = some b0_3) (k_b0_3 : kk K b0_3 = some (20, n_b0_3)) (K0 : vp_in 0 n_b0_1 ∧ (((gi x b0_1 0) ≤ l2 → (Q 0 x)) ∧ (¬ (gi x b0_1 0) ≤ l2 → ((l24 l1 n_b0_3) ∧ (Q ((so (gi x b0_3) (l1 : Int32).toNatClampNeg 7) &&& (f_span l2 ((gi x b0_1 0) - 1))) x))))) : mSI mX8_openFrom [.ref b0, .int l1, .int l2] K x Q := by
  refine s_I (by decide) (by simp [Value.category]) (Nat.le_of_ble_eq_true rfl) ?_
  show mGM mX8_openFrom 0 [some (.ref b0), some (.int l1), some (.int l2)] [] (hp K x) (PI K Q)
  refine r_iload_n (pc := 0) dX8_openFrom_0 rfl ?_
  refine r_aload_n (pc := 1) dX8_openFrom_1 rfl ?_
  refine s_getR (pc := 2) dX8_openFrom_2 fl_X8_9 rfl k_b0 g_b0_1 ?_
  refine r_iconst (pc := 5) (v := 0) dX8_openFrom_5 (by decide) ?_
  obtain ⟨i_1, K0⟩ := K0
  refine s_iald (pc := 6) dX8_openFrom_6 k_b0_1 i_1 ?_
  refine r_icmp_ge (pc := 7) (tgt := 33) dX8_openFrom_7 (by decide) (fun q => ?_) (fun q => ?_)
  · have K0 := K0.1 q
    refine r_iconst (pc := 33) (v := 0) dX8_openFrom_33 (by decide) ?_
    exact s_iret rfl dX8_openFrom_34 K0
  · have K0 := K0.2 q
    refine r_aload_n (pc := 10) dX8_openFrom_10 rfl ?_
    refine r_iload_n (pc := 11) dX8_openFrom_11 rfl ?_
    refine r_bipush (pc := 12) (v := 7) dX8_openFrom_12 (by decide) ?_
    obtain ⟨p_3, K0⟩ := K0
    refine s_VI (pc := 14) mX8_one (ci := 8) (a := b0) (As := [.int l1, .int 7]) dX8_openFrom_14 lk_X8_67 in_X8_one mo_X8_one ⟨by decide, rfl⟩ ⟨by decide, by decide⟩ (Nat.le_of_ble_eq_true rfl) k_b0 (sr_X8_one k_b0 g_b0_3 k_b0_3 p_3 ⟨by decide, by decide⟩ ?_)
    refine r_iload_n (pc := 17) dX8_openFrom_17 rfl ?_
    refine r_aload_n (pc := 18) dX8_openFrom_18 rfl ?_
    refine s_getR (pc := 19) dX8_openFrom_19 fl_X8_9 rfl k_b0 g_b0_1 ?_
    refine r_iconst (pc := 22) (v := 0) dX8_openFrom_22 (by decide) ?_
    refine s_iald (pc := 23) dX8_openFrom_23 k_b0_1 i_1 ?_
    refine r_iconst (pc := 24) (v := 1) dX8_openFrom_24 (by decide) ?_
    refine r_isub (pc := 25) dX8_openFrom_25 ?_
    refine s_SI (pc := 26) mX8_span (As := [.int l2, .int ((gi x b0_1 0) - 1)]) dX8_openFrom_26 lk_X8_79 st_X8_span mo_X8_span ⟨by decide, by decide⟩ (Nat.le_of_ble_eq_true rfl) (sp_X8_span  ?_)
    refine r_iand (pc := 29) dX8_openFrom_29 ?_
    refine r_goto (pc := 30) (tgt := 34) dX8_openFrom_30 (by decide) ?_
    exact s_iret rfl dX8_openFrom_34 K0
section
variable {y : Cn} {Q : Int32 → Cn → Prop} {T : TT} {W C S A N n : Nat} {H : Nat → TT}
theorem sp_X8_openFrom {s w : Nat} (r : RS y T n H) (F : WF T W C S A N) (hs : s < 24) (hw : w < 100) (k : Q (opf T W s w) y) : mSI mX8_openFrom [.ref 717, .int (nI s), .int (nI w)] KW y Q := by
  have hW : W ≤ 30 := F.2.2.1
  have M := r.1
  refine v_X8_openFrom_0 km M.1 km1 M.2.2.1 km1 ⟨v0 (k := 0) (by decide) rfl rfl, ?_⟩
  rw [r.2.1, F.1, nI_leI (by omega) (by omega), nI_clamp (by omega)]
  unfold opf at k
  exact ⟨fun z => by rwa [if_pos z] at k, fun z => ⟨l24_nI hs rfl, by rwa [if_neg z] at k⟩⟩
theorem opf_eq {s w : Nat} (g : Wse T C W s) (hW : W ≤ 30) (hw : w < 100) : opf T W s w = so T s 7 &&& f_bf (nI w) := by
  have g8 := g.2.2.2.2.2.2.2
  unfold opf
  by_cases c : W ≤ w
  · rw [if_pos c]
    by_cases d : w ≤ 30
    · apply tb_ext
      intro i hi
      rw [tb_0, tb_and, tb_bf0 w (by omega) i hi]
      cases e : tb (so T s 7) i with
      | false => rfl
      | true =>
        have := g8 i 0 (by decide) e
        rw [decide_eq_false (by omega)]; rfl
    · unfold f_bf
      rw [if_neg (show ¬ nI w ≤ 30 from nI_ge (a := 30) (b := w) (by omega) (by omega))]
      exact (Int32.and_zero).symm
  · rw [if_neg c]
    apply tb_ext
    intro i hi
    rw [tb_and, tb_and, tb_bf0 w (by omega) i hi, tb_fn hW (by omega) hi (by omega)]
    cases e : tb (so T s 7) i with
    | false => rfl
    | true =>
      have := g8 i 0 (by decide) e
      rw [Bool.true_and, Bool.true_and]
      apply decide_eq_decide.mpr
      omega
end
set_option maxHeartbeats 2000000 in
theorem v_X7_back_0 {K : Sh} {x : Cn} {Q : Int32 → Cn → Prop} {b0 : Nat} {l1 : Int32} {l2 : Int32} {b0_2 : Nat} {b0_2_7 : Nat} {n_b0_2_7 : Nat} (k_b0 : kk K b0 = some (7, 0)) (g_b0_2 : gr x b0 2 = some b0_2) (k_b0_2 : kk K b0_2 = some (4, 0)) (g_b0_2_7 : gr x b0_2 7 = some b0_2_7) (k_b0_2_7 : kk K b0_2_7 = some (23, n_b0_2_7)) (K0 : (¬ (0 ≤ l1 ∧ l1 < gi x b0_2 3) → (Q (-2) x)) ∧ ((0 ≤ l1 ∧ l1 < gi x b0_2 3) → (((0 ≤ l2 ∧ l2 < gi x b0_2 0) → ((((gi x b0_2 1) + 4) ≤ l2 → (vp_in l1 n_b0_2_7 ∧ (∃ c_5 : Nat, gr x b0_2_7 ((l1 : Int32).toNatClampNeg) = some c_5 ∧ (kk K c_5 = some (5, 0) ∧ ((((f_open x c_5) &&& (f_bf l2)) = 0 → (Q (nI (cpt ((f_open x c_5) &&& (f_bf l2)))) x)) ∧ (¬ ((f_open x c_5) &&& (f_bf l2)) = 0 → (mSV mX7_remember [.ref b0] K x (fun y_9 => Q (nI (cpt ((f_open x c_5) &&& (f_bf l2)))) (ui y_9 c_5 11 ((gi y_9 c_5 11) ||| ((f_open x c_5) &&& (f_bf l2)))))))))))) ∧ (¬ ((gi x b0_2 1) + 4) ≤ l2 → (Q (-6) x)))) ∧ (¬ (0 ≤ l2 ∧ l2 < gi x b0_2 0) → (Q (-2) x))))) : mSI mX7_back [.ref b0, .int l1, .int l2] K x Q := by
  refine s_I (by decide) (by simp [Value.category]) (Nat.le_of_ble_eq_true rfl) ?_
  show mGM mX7_back 0 [some (.ref b0), some (.int l1), some (.int l2), none, none] [] (hp K x) (PI K Q)
  refine r_aload_n (pc := 0) dX7_back_0 rfl ?_
  refine r_iload_n (pc := 1) dX7_back_1 rfl ?_
  refine s_VI (pc := 2) mX7_isSeries (ci := 7) (a := b0) (As := [.int l1]) dX7_back_2 lk_X7_132 in_X7_isSeries mo_X7_isSeries ⟨by decide, rfl⟩ ⟨by decide, by decide⟩ (Nat.le_of_ble_eq_true rfl) k_b0 (sp_X7_isSeries k_b0 g_b0_2 k_b0_2 ?_)
  refine r_if_eq (pc := 5) (tgt := 16) dX7_back_5 (by decide) (fun q => ?_) (fun q => ?_)
  · have q := (b2i_z _).mp q
    have K0 := K0.1 q
    refine r_bipush (pc := 16) (v := (-2)) dX7_back_16 (by decide) ?_
    exact s_iret rfl dX7_back_18 K0
  · have q := b2i_nz q
    have K0 := K0.2 q
    refine r_aload_n (pc := 8) dX7_back_8 rfl ?_
    refine r_iload_n (pc := 9) dX7_back_9 rfl ?_
    refine s_VI (pc := 10) mX7_isWeek (ci := 7) (a := b0) (As := [.int l2]) dX7_back_10 lk_X7_167 in_X7_isWeek mo_X7_isWeek ⟨by decide, rfl⟩ ⟨by decide, by decide⟩ (Nat.le_of_ble_eq_true rfl) k_b0 (sp_X7_isWeek k_b0 g_b0_2 k_b0_2 ?_)
    refine r_if_ne (pc := 13) (tgt := 19) dX7_back_13 (by decide) (fun q => ?_) (fun q => ?_)
    · have q := b2i_nz q
      have K0 := K0.1 q
      refine r_iload_n (pc := 19) dX7_back_19 rfl ?_
      refine r_aload_n (pc := 20) dX7_back_20 rfl ?_
      refine s_getR (pc := 21) dX7_back_21 fl_X7_20 rfl k_b0 g_b0_2 ?_
      refine s_getI (pc := 24) dX7_back_24 fl_X7_103 rfl k_b0_2 ?_
      refine r_iconst (pc := 27) (v := 4) dX7_back_27 (by decide) ?_
      refine r_iadd (pc := 28) dX7_back_28 ?_
      refine r_icmp_ge (pc := 29) (tgt := 35) dX7_back_29 (by decide) (fun q => ?_) (fun q => ?_)
      · have K0 := K0.1 q
        refine r_aload_n (pc := 35) dX7_back_35 rfl ?_
        refine s_getR (pc := 36) dX7_back_36 fl_X7_20 rfl k_b0 g_b0_2 ?_
        refine s_getR (pc := 39) dX7_back_39 fl_X7_135 rfl k_b0_2 g_b0_2_7 ?_
        refine r_iload_n (pc := 42) dX7_back_42 rfl ?_
        obtain ⟨i_4, K0⟩ := K0
        obtain ⟨c_5, g_6, K0⟩ := K0
        refine s_aald (pc := 43) dX7_back_43 (by decide) rfl k_b0_2_7 i_4 g_6 ?_
        refine r_astore_n (pc := 44) dX7_back_44 (by decide) ?_
        refine r_aload_n (pc := 45) (L := [some (.ref b0), some (.int l1), some (.int l2), some (.ref c_5), none]) dX7_back_45 rfl ?_
        obtain ⟨e_7, K0⟩ := K0
        refine s_VI (pc := 46) mX5_openBits (ci := 5) (a := c_5) (As := []) dX7_back_46 lk_X7_339 in_X5_openBits mo_X5_openBits ⟨by decide, rfl⟩ ⟨by decide, by decide⟩ (Nat.le_of_ble_eq_true rfl) e_7 (sp_X5_openBits e_7 ?_)
        refine r_iload_n (pc := 49) dX7_back_49 rfl ?_
        refine s_SI (pc := 50) mX7_bitsFrom (As := [.int l2]) dX7_back_50 lk_X7_342 st_X7_bitsFrom mo_X7_bitsFrom ⟨by decide, by decide⟩ (Nat.le_of_ble_eq_true rfl) (sp_X7_bitsFrom  ?_)
        refine r_iand (pc := 53) dX7_back_53 ?_
        refine r_istore (pc := 54) dX7_back_54 (by decide) ?_
        refine r_iload (pc := 56) (L := [some (.ref b0), some (.int l1), some (.int l2), some (.ref c_5), some (.int ((f_open x c_5) &&& (f_bf l2)))]) dX7_back_56 rfl ?_
        refine r_if_eq (pc := 58) (tgt := 76) dX7_back_58 (by decide) (fun q => ?_) (fun q => ?_)
        · have K0 := K0.1 q
          refine r_iload (pc := 76) dX7_back_76 rfl ?_
          refine s_SI (pc := 78) mJ6_bitCount_0f7a4 (As := [.int ((f_open x c_5) &&& (f_bf l2))]) dX7_back_78 lk_X7_255 st_J6_bitCount_0f7a4 mo_J6_bitCount_0f7a4 ⟨by decide, by decide⟩ (Nat.le_of_ble_eq_true rfl) (sp_bc  ?_)
          exact s_iret rfl dX7_back_81 K0
        · have K0 := K0.2 q
          refine r_aload_n (pc := 61) dX7_back_61 rfl ?_
          refine s_VV (pc := 62) mX7_remember (ci := 7) (a := b0) (As := []) dX7_back_62 lk_X7_333 in_X7_remember mo_X7_remember ⟨by decide, rfl⟩ ⟨by decide, by decide⟩ (Nat.le_of_ble_eq_true rfl) k_b0 (mSV_mono K0 (fun y_9 K0 => ?_))
          refine r_aload_n (pc := 65) dX7_back_65 rfl ?_
          refine r_dup (pc := 66) dX7_back_66 rfl ?_
          refine s_getI (pc := 67) dX7_back_67 fl_X7_345 rfl e_7 ?_
          refine r_iload (pc := 70) dX7_back_70 rfl ?_
          refine r_ior (pc := 72) dX7_back_72 ?_
          refine s_putI (pc := 73) dX7_back_73 fl_X7_345 rfl rfl e_7 ?_
          refine r_iload (pc := 76) dX7_back_76 rfl ?_
          refine s_SI (pc := 78) mJ6_bitCount_0f7a4 (As := [.int ((f_open x c_5) &&& (f_bf l2))]) dX7_back_78 lk_X7_255 st_J6_bitCount_0f7a4 mo_J6_bitCount_0f7a4 ⟨by decide, by decide⟩ (Nat.le_of_ble_eq_true rfl) (sp_bc  ?_)
          exact s_iret rfl dX7_back_81 K0
      · have K0 := K0.2 q
        refine r_bipush (pc := 32) (v := (-6)) dX7_back_32 (by decide) ?_
        exact s_iret rfl dX7_back_34 K0
    · have q := (b2i_z _).mp q
      have K0 := K0.2 q
      refine r_bipush (pc := 16) (v := (-2)) dX7_back_16 (by decide) ?_
      exact s_iret rfl dX7_back_18 K0
set_option maxHeartbeats 2000000 in
theorem v_X8_back_0 {K : Sh} {x : Cn} {Q : Int32 → Cn → Prop} {b0 : Nat} {l1 : Int32} {l2 : Int32} {b0_1 : Nat} {n_b0_1 : Nat} (k_b0 : kk K b0 = some (8, 0)) (g_b0_1 : gr x b0 1 = some b0_1) (k_b0_1 : kk K b0_1 = some (20, n_b0_1)) (K0 : vp_in 2 n_b0_1 ∧ ((¬ (0 ≤ l1 ∧ l1 ≤ gi x b0_1 2 - 1) → (Q (-2) x)) ∧ ((0 ≤ l1 ∧ l1 ≤ gi x b0_1 2 - 1) → (vp_in 0 n_b0_1 ∧ (((0 ≤ l2 ∧ l2 ≤ gi x b0_1 0 - 1) → (vp_in 4 n_b0_1 ∧ ((((gi x b0_1 4) + 4) ≤ l2 → (mSI mX8_openFrom [.ref b0, .int l1, .int l2] K x (fun r_8 y_7 => (¬ r_8 = 0 → (mSV mX8_keeps [.ref b0] K y_7 (fun y_10 => mSV mX8_goes [.ref b0, .int l1, .int r_8, .int 0, .int 4] K y_10 (fun y_11 => Q (nI (cpt r_8)) y_11)))) ∧ (r_8 = 0 → (Q 0 y_7))))) ∧ (¬ ((gi x b0_1 4) + 4) ≤ l2 → (Q (-6) x))))) ∧ (¬ (0 ≤ l2 ∧ l2 ≤ gi x b0_1 0 - 1) → (Q (-2) x))))))) : mSI mX8_back [.ref b0, .int l1, .int l2] K x Q := by
  refine s_I (by decide) (by simp [Value.category]) (Nat.le_of_ble_eq_true rfl) ?_
  show mGM mX8_back 0 [some (.ref b0), some (.int l1), some (.int l2), none] [] (hp K x) (PI K Q)
  refine r_aload_n (pc := 0) dX8_back_0 rfl ?_
  refine r_iload_n (pc := 1) dX8_back_1 rfl ?_
  obtain ⟨i_1, K0⟩ := K0
  refine s_VI (pc := 2) mX8_isSeries (ci := 8) (a := b0) (As := [.int l1]) dX8_back_2 lk_X8_273 in_X8_isSeries mo_X8_isSeries ⟨by decide, rfl⟩ ⟨by decide, by decide⟩ (Nat.le_of_ble_eq_true rfl) k_b0 (sp_X8_isSeries k_b0 g_b0_1 k_b0_1 i_1 ?_)
  refine r_if_eq (pc := 5) (tgt := 16) dX8_back_5 (by decide) (fun q => ?_) (fun q => ?_)
  · have q := (b2i_z _).mp q
    have K0 := K0.1 q
    refine r_bipush (pc := 16) (v := (-2)) dX8_back_16 (by decide) ?_
    exact s_iret rfl dX8_back_18 K0
  · have q := b2i_nz q
    have K0 := K0.2 q
    refine r_aload_n (pc := 8) dX8_back_8 rfl ?_
    refine r_iload_n (pc := 9) dX8_back_9 rfl ?_
    obtain ⟨i_3, K0⟩ := K0
    refine s_VI (pc := 10) mX8_isWeek (ci := 8) (a := b0) (As := [.int l2]) dX8_back_10 lk_X8_57 in_X8_isWeek mo_X8_isWeek ⟨by decide, rfl⟩ ⟨by decide, by decide⟩ (Nat.le_of_ble_eq_true rfl) k_b0 (sp_X8_isWeek k_b0 g_b0_1 k_b0_1 i_3 ?_)
    refine r_if_ne (pc := 13) (tgt := 19) dX8_back_13 (by decide) (fun q => ?_) (fun q => ?_)
    · have q := b2i_nz q
      have K0 := K0.1 q
      refine r_iload_n (pc := 19) dX8_back_19 rfl ?_
      refine r_aload_n (pc := 20) dX8_back_20 rfl ?_
      refine s_getR (pc := 21) dX8_back_21 fl_X8_9 rfl k_b0 g_b0_1 ?_
      refine r_iconst (pc := 24) (v := 4) dX8_back_24 (by decide) ?_
      obtain ⟨i_5, K0⟩ := K0
      refine s_iald (pc := 25) dX8_back_25 k_b0_1 i_5 ?_
      refine r_iconst (pc := 26) (v := 4) dX8_back_26 (by decide) ?_
      refine r_iadd (pc := 27) dX8_back_27 ?_
      refine r_icmp_ge (pc := 28) (tgt := 34) dX8_back_28 (by decide) (fun q => ?_) (fun q => ?_)
      · have K0 := K0.1 q
        refine r_aload_n (pc := 34) dX8_back_34 rfl ?_
        refine r_iload_n (pc := 35) dX8_back_35 rfl ?_
        refine r_iload_n (pc := 36) dX8_back_36 rfl ?_
        refine s_VI (pc := 37) mX8_openFrom (ci := 8) (a := b0) (As := [.int l1, .int l2]) dX8_back_37 lk_X8_373 in_X8_openFrom mo_X8_openFrom ⟨by decide, rfl⟩ ⟨by decide, by decide⟩ (Nat.le_of_ble_eq_true rfl) k_b0 (mSI_mono K0 (fun r_8 y_7 K0 => ?_))
        refine r_istore_n (pc := 40) dX8_back_40 (by decide) ?_
        refine r_iload_n (pc := 41) (L := [some (.ref b0), some (.int l1), some (.int l2), some (.int r_8)]) dX8_back_41 rfl ?_
        refine r_if_ne (pc := 42) (tgt := 47) dX8_back_42 (by decide) (fun q => ?_) (fun q => ?_)
        · have K0 := K0.1 q
          refine r_aload_n (pc := 47) dX8_back_47 rfl ?_
          refine s_VV (pc := 48) mX8_keeps (ci := 8) (a := b0) (As := []) dX8_back_48 lk_X8_366 in_X8_keeps mo_X8_keeps ⟨by decide, rfl⟩ ⟨by decide, by decide⟩ (Nat.le_of_ble_eq_true rfl) k_b0 (mSV_mono K0 (fun y_10 K0 => ?_))
          refine r_aload_n (pc := 51) dX8_back_51 rfl ?_
          refine r_iload_n (pc := 52) dX8_back_52 rfl ?_
          refine r_iload_n (pc := 53) dX8_back_53 rfl ?_
          refine r_iconst (pc := 54) (v := 0) dX8_back_54 (by decide) ?_
          refine r_iconst (pc := 55) (v := 4) dX8_back_55 (by decide) ?_
          refine s_VV (pc := 56) mX8_goes (ci := 8) (a := b0) (As := [.int l1, .int r_8, .int 0, .int 4]) dX8_back_56 lk_X8_369 in_X8_goes mo_X8_goes ⟨by decide, rfl⟩ ⟨by decide, by decide⟩ (Nat.le_of_ble_eq_true rfl) k_b0 (mSV_mono K0 (fun y_11 K0 => ?_))
          refine r_iload_n (pc := 59) dX8_back_59 rfl ?_
          refine s_SI (pc := 60) mX8_bits (As := [.int r_8]) dX8_back_60 lk_X8_296 st_X8_bits mo_X8_bits ⟨by decide, by decide⟩ (Nat.le_of_ble_eq_true rfl) (sp_X8_bits  ?_)
          exact s_iret rfl dX8_back_63 K0
        · have K0 := K0.2 q
          refine r_iconst (pc := 45) (v := 0) dX8_back_45 (by decide) ?_
          exact s_iret rfl dX8_back_46 K0
      · have K0 := K0.2 q
        refine r_bipush (pc := 31) (v := (-6)) dX8_back_31 (by decide) ?_
        exact s_iret rfl dX8_back_33 K0
    · have q := (b2i_z _).mp q
      have K0 := K0.2 q
      refine r_bipush (pc := 16) (v := (-2)) dX8_back_16 (by decide) ?_
      exact s_iret rfl dX8_back_18 K0
section
variable {y : Cn} {Q : Int32 → Cn → Prop} {T : TT} {W C S A N n : Nat} {H : Nat → TT}
theorem sq_X8_back {a b : Int32} (r : RS y T n H) (F : WF T W C S A N) (k1 : ¬ ((0 ≤ a ∧ a < nI S) ∧ (0 ≤ b ∧ b < nI W)) → Q (-2) y) (k2 : (0 ≤ a ∧ a < nI S) → (0 ≤ b ∧ b < nI W) → ¬ nI N + 4 ≤ b → Q (-6) y) (k3 : (0 ≤ a ∧ a < nI S) → (0 ≤ b ∧ b < nI W) → nI N + 4 ≤ b → opf T W a.toNatClampNeg b.toNatClampNeg = 0 → Q 0 y) (k4 : (0 ≤ a ∧ a < nI S) → (0 ≤ b ∧ b < nI W) → nI N + 4 ≤ b → ¬ opf T W a.toNatClampNeg b.toNatClampNeg = 0 → ∀ z, RFr y z → RS z (goT T a.toNatClampNeg (opf T W a.toNatClampNeg b.toNatClampNeg) 0 4) (pn n) (push H n T) → Q (nI (cpt (opf T W a.toNatClampNeg b.toNatClampNeg))) z) : mSI mX8_back [.ref 717, .int a, .int b] KW y Q := by
  have hS : S ≤ 24 := F.2.2.2.2.2.2.1
  have hW : W ≤ 30 := F.2.2.1
  have M := r.1
  refine v_X8_back_0 km M.1 km1 ⟨v0 (k := 2) (by decide) rfl rfl, ?_⟩
  rw [r.2.1, F.2.2.2.2.2.1, F.1, inN' (by omega), inN' (by omega), F.2.2.2.2.2.2.2.2.2.1]
  refine ⟨fun z => k1 (fun u => z u.1), fun z1 => ⟨v0 (k := 0) (by decide) rfl rfl, fun z2 => ⟨v0 (k := 4) (by decide) rfl rfl, fun u => ?_, fun u => k2 z1 z2 u⟩, fun z => k1 (fun u => z u.2)⟩⟩
  have k3 := k3 z1 z2 u
  have k4 := k4 z1 z2 u
  obtain ⟨s, hs, rfl⟩ := inN (by omega) z1
  obtain ⟨w, hw, rfl⟩ := inN (by omega) z2
  rw [nI_clamp (by omega), nI_clamp (by omega)] at k3
  rw [nI_clamp (by omega), nI_clamp (by omega)] at k4
  refine sp_X8_openFrom r F (by omega) (by omega) ⟨fun v => ?_, fun v => k3 v⟩
  exact r.keeps (fun z f1 r1 => sp_X8_goes (k := 0) (o := 4) r1 (by omega) (by decide) (by decide) (by decide) (fun z2 f2 r2 => k4 v z2 (f1.tr f2) r2))
end
set_option maxHeartbeats 2000000 in
theorem v_X7_retime_0 {K : Sh} {x : Cn} {Q : Int32 → Cn → Prop} {b0 : Nat} {l1 : Int32} {l2 : Int32} {b0_2 : Nat} (k_b0 : kk K b0 = some (7, 0)) (g_b0_2 : gr x b0 2 = some b0_2) (k_b0_2 : kk K b0_2 = some (4, 0)) (K0 : (¬ (0 ≤ l1 ∧ l1 < gi x b0_2 3) → (Q (-2) x)) ∧ ((0 ≤ l1 ∧ l1 < gi x b0_2 3) → (((0 < gi x b0_2 0 ∧ 0 ≤ l2 ∧ l2 < 24) → (mSI mX7_canRetime [.ref b0, .int l1, .int l2] K x (fun r_4 y_3 => (¬ r_4 = 0 → (mSV mX7_remember [.ref b0] K y_3 (fun y_6 => gr y_6 b0 2 = some b0_2 ∧ (∃ c_8 : Nat, gr y_6 b0_2 7 = some c_8 ∧ (∃ n_11 : Nat, kk K c_8 = some (23, n_11) ∧ (vp_in l1 n_11 ∧ (∃ c_13 : Nat, gr y_6 c_8 ((l1 : Int32).toNatClampNeg) = some c_13 ∧ (kk K c_13 = some (5, 0) ∧ (Q (gi y_6 c_13 2) (ui y_6 c_13 2 l2)))))))))) ∧ (r_4 = 0 → (Q (-6) y_3))))) ∧ (¬ (0 < gi x b0_2 0 ∧ 0 ≤ l2 ∧ l2 < 24) → (Q (-2) x))))) : mSI mX7_retime [.ref b0, .int l1, .int l2] K x Q := by
  refine s_I (by decide) (by simp [Value.category]) (Nat.le_of_ble_eq_true rfl) ?_
  show mGM mX7_retime 0 [some (.ref b0), some (.int l1), some (.int l2), none] [] (hp K x) (PI K Q)
  refine r_aload_n (pc := 0) dX7_retime_0 rfl ?_
  refine r_iload_n (pc := 1) dX7_retime_1 rfl ?_
  refine s_VI (pc := 2) mX7_isSeries (ci := 7) (a := b0) (As := [.int l1]) dX7_retime_2 lk_X7_132 in_X7_isSeries mo_X7_isSeries ⟨by decide, rfl⟩ ⟨by decide, by decide⟩ (Nat.le_of_ble_eq_true rfl) k_b0 (sp_X7_isSeries k_b0 g_b0_2 k_b0_2 ?_)
  refine r_if_eq (pc := 5) (tgt := 16) dX7_retime_5 (by decide) (fun q => ?_) (fun q => ?_)
  · have q := (b2i_z _).mp q
    have K0 := K0.1 q
    refine r_bipush (pc := 16) (v := (-2)) dX7_retime_16 (by decide) ?_
    exact s_iret rfl dX7_retime_18 K0
  · have q := b2i_nz q
    have K0 := K0.2 q
    refine r_aload_n (pc := 8) dX7_retime_8 rfl ?_
    refine r_iload_n (pc := 9) dX7_retime_9 rfl ?_
    refine s_VI (pc := 10) mX7_isHour (ci := 7) (a := b0) (As := [.int l2]) dX7_retime_10 lk_X7_195 in_X7_isHour mo_X7_isHour ⟨by decide, rfl⟩ ⟨by decide, by decide⟩ (Nat.le_of_ble_eq_true rfl) k_b0 (sp_X7_isHour k_b0 g_b0_2 k_b0_2 ?_)
    refine r_if_ne (pc := 13) (tgt := 19) dX7_retime_13 (by decide) (fun q => ?_) (fun q => ?_)
    · have q := b2i_nz q
      have K0 := K0.1 q
      refine r_aload_n (pc := 19) dX7_retime_19 rfl ?_
      refine r_iload_n (pc := 20) dX7_retime_20 rfl ?_
      refine r_iload_n (pc := 21) dX7_retime_21 rfl ?_
      refine s_VI (pc := 22) mX7_canRetime (ci := 7) (a := b0) (As := [.int l1, .int l2]) dX7_retime_22 lk_X7_327 in_X7_canRetime mo_X7_canRetime ⟨by decide, rfl⟩ ⟨by decide, by decide⟩ (Nat.le_of_ble_eq_true rfl) k_b0 (mSI_mono K0 (fun r_4 y_3 K0 => ?_))
      refine r_if_ne (pc := 25) (tgt := 31) dX7_retime_25 (by decide) (fun q => ?_) (fun q => ?_)
      · have K0 := K0.1 q
        refine r_aload_n (pc := 31) dX7_retime_31 rfl ?_
        refine s_VV (pc := 32) mX7_remember (ci := 7) (a := b0) (As := []) dX7_retime_32 lk_X7_333 in_X7_remember mo_X7_remember ⟨by decide, rfl⟩ ⟨by decide, by decide⟩ (Nat.le_of_ble_eq_true rfl) k_b0 (mSV_mono K0 (fun y_6 K0 => ?_))
        refine r_aload_n (pc := 35) dX7_retime_35 rfl ?_
        obtain ⟨g_7, K0⟩ := K0
        refine s_getR (pc := 36) dX7_retime_36 fl_X7_20 rfl k_b0 g_7 ?_
        obtain ⟨c_8, g_9, K0⟩ := K0
        refine s_getR (pc := 39) dX7_retime_39 fl_X7_135 rfl k_b0_2 g_9 ?_
        refine r_iload_n (pc := 42) dX7_retime_42 rfl ?_
        obtain ⟨n_11, e_10, K0⟩ := K0
        obtain ⟨i_12, K0⟩ := K0
        obtain ⟨c_13, g_14, K0⟩ := K0
        refine s_aald (pc := 43) dX7_retime_43 (by decide) rfl e_10 i_12 g_14 ?_
        obtain ⟨e_15, K0⟩ := K0
        refine s_getI (pc := 44) dX7_retime_44 fl_X7_147 rfl e_15 ?_
        refine r_istore_n (pc := 47) dX7_retime_47 (by decide) ?_
        refine r_aload_n (pc := 48) (L := [some (.ref b0), some (.int l1), some (.int l2), some (.int (gi y_6 c_13 2))]) dX7_retime_48 rfl ?_
        refine s_getR (pc := 49) dX7_retime_49 fl_X7_20 rfl k_b0 g_7 ?_
        refine s_getR (pc := 52) dX7_retime_52 fl_X7_135 rfl k_b0_2 g_9 ?_
        refine r_iload_n (pc := 55) dX7_retime_55 rfl ?_
        refine s_aald (pc := 56) dX7_retime_56 (by decide) rfl e_10 i_12 g_14 ?_
        refine r_iload_n (pc := 57) dX7_retime_57 rfl ?_
        refine s_putI (pc := 58) dX7_retime_58 fl_X7_147 rfl rfl e_15 ?_
        refine r_iload_n (pc := 61) dX7_retime_61 rfl ?_
        exact s_iret rfl dX7_retime_62 K0
      · have K0 := K0.2 q
        refine r_bipush (pc := 28) (v := (-6)) dX7_retime_28 (by decide) ?_
        exact s_iret rfl dX7_retime_30 K0
    · have q := (b2i_z _).mp q
      have K0 := K0.2 q
      refine r_bipush (pc := 16) (v := (-2)) dX7_retime_16 (by decide) ?_
      exact s_iret rfl dX7_retime_18 K0
set_option maxHeartbeats 2000000 in
theorem v_X8_retime_0 {K : Sh} {x : Cn} {Q : Int32 → Cn → Prop} {b0 : Nat} {l1 : Int32} {l2 : Int32} {b0_1 : Nat} {n_b0_1 : Nat} (k_b0 : kk K b0 = some (8, 0)) (g_b0_1 : gr x b0 1 = some b0_1) (k_b0_1 : kk K b0_1 = some (20, n_b0_1)) (K0 : vp_in 2 n_b0_1 ∧ ((¬ (0 ≤ l1 ∧ l1 ≤ gi x b0_1 2 - 1) → (Q (-2) x)) ∧ ((0 ≤ l1 ∧ l1 ≤ gi x b0_1 2 - 1) → (vp_in 0 n_b0_1 ∧ (((0 < gi x b0_1 0 ∧ 0 ≤ l2 ∧ l2 ≤ 23) → (mSI mX8_canRetime [.ref b0, .int l1, .int l2] K x (fun r_6 y_5 => (¬ r_6 = 0 → (mSV mX8_keeps [.ref b0] K y_5 (fun y_8 => ∃ c_9 : Nat, gr y_8 b0 3 = some c_9 ∧ (∃ n_12 : Nat, kk K c_9 = some (20, n_12) ∧ ((l24 l1 n_12) ∧ (mSV mX8_lays [.ref b0, .int l1, .int 2, .int l2] K y_8 (fun y_14 => Q (so (gi y_8 c_9) (l1 : Int32).toNatClampNeg 2) y_14))))))) ∧ (r_6 = 0 → (Q (-6) y_5))))) ∧ (¬ (0 < gi x b0_1 0 ∧ 0 ≤ l2 ∧ l2 ≤ 23) → (Q (-2) x))))))) : mSI mX8_retime [.ref b0, .int l1, .int l2] K x Q := by
  refine s_I (by decide) (by simp [Value.category]) (Nat.le_of_ble_eq_true rfl) ?_
  show mGM mX8_retime 0 [some (.ref b0), some (.int l1), some (.int l2), none] [] (hp K x) (PI K Q)
  refine r_aload_n (pc := 0) dX8_retime_0 rfl ?_
  refine r_iload_n (pc := 1) dX8_retime_1 rfl ?_
  obtain ⟨i_1, K0⟩ := K0
  refine s_VI (pc := 2) mX8_isSeries (ci := 8) (a := b0) (As := [.int l1]) dX8_retime_2 lk_X8_273 in_X8_isSeries mo_X8_isSeries ⟨by decide, rfl⟩ ⟨by decide, by decide⟩ (Nat.le_of_ble_eq_true rfl) k_b0 (sp_X8_isSeries k_b0 g_b0_1 k_b0_1 i_1 ?_)
  refine r_if_eq (pc := 5) (tgt := 16) dX8_retime_5 (by decide) (fun q => ?_) (fun q => ?_)
  · have q := (b2i_z _).mp q
    have K0 := K0.1 q
    refine r_bipush (pc := 16) (v := (-2)) dX8_retime_16 (by decide) ?_
    exact s_iret rfl dX8_retime_18 K0
  · have q := b2i_nz q
    have K0 := K0.2 q
    refine r_aload_n (pc := 8) dX8_retime_8 rfl ?_
    refine r_iload_n (pc := 9) dX8_retime_9 rfl ?_
    obtain ⟨i_3, K0⟩ := K0
    refine s_VI (pc := 10) mX8_isHour (ci := 8) (a := b0) (As := [.int l2]) dX8_retime_10 lk_X8_64 in_X8_isHour mo_X8_isHour ⟨by decide, rfl⟩ ⟨by decide, by decide⟩ (Nat.le_of_ble_eq_true rfl) k_b0 (sp_X8_isHour k_b0 g_b0_1 k_b0_1 i_3 ?_)
    refine r_if_ne (pc := 13) (tgt := 19) dX8_retime_13 (by decide) (fun q => ?_) (fun q => ?_)
    · have q := b2i_nz q
      have K0 := K0.1 q
      refine r_aload_n (pc := 19) dX8_retime_19 rfl ?_
      refine r_iload_n (pc := 20) dX8_retime_20 rfl ?_
      refine r_iload_n (pc := 21) dX8_retime_21 rfl ?_
      refine s_VI (pc := 22) mX8_canRetime (ci := 8) (a := b0) (As := [.int l1, .int l2]) dX8_retime_22 lk_X8_357 in_X8_canRetime mo_X8_canRetime ⟨by decide, rfl⟩ ⟨by decide, by decide⟩ (Nat.le_of_ble_eq_true rfl) k_b0 (mSI_mono K0 (fun r_6 y_5 K0 => ?_))
      refine r_if_ne (pc := 25) (tgt := 31) dX8_retime_25 (by decide) (fun q => ?_) (fun q => ?_)
      · have K0 := K0.1 q
        refine r_aload_n (pc := 31) dX8_retime_31 rfl ?_
        refine s_VV (pc := 32) mX8_keeps (ci := 8) (a := b0) (As := []) dX8_retime_32 lk_X8_366 in_X8_keeps mo_X8_keeps ⟨by decide, rfl⟩ ⟨by decide, by decide⟩ (Nat.le_of_ble_eq_true rfl) k_b0 (mSV_mono K0 (fun y_8 K0 => ?_))
        refine r_aload_n (pc := 35) dX8_retime_35 rfl ?_
        refine r_iload_n (pc := 36) dX8_retime_36 rfl ?_
        refine r_iconst (pc := 37) (v := 2) dX8_retime_37 (by decide) ?_
        obtain ⟨c_9, g_10, K0⟩ := K0
        obtain ⟨n_12, e_11, K0⟩ := K0
        obtain ⟨p_13, K0⟩ := K0
        refine s_VI (pc := 38) mX8_one (ci := 8) (a := b0) (As := [.int l1, .int 2]) dX8_retime_38 lk_X8_67 in_X8_one mo_X8_one ⟨by decide, rfl⟩ ⟨by decide, by decide⟩ (Nat.le_of_ble_eq_true rfl) k_b0 (sr_X8_one k_b0 g_10 e_11 p_13 ⟨by decide, by decide⟩ ?_)
        refine r_istore_n (pc := 41) dX8_retime_41 (by decide) ?_
        refine r_aload_n (pc := 42) (L := [some (.ref b0), some (.int l1), some (.int l2), some (.int (so (gi y_8 c_9) (l1 : Int32).toNatClampNeg 2))]) dX8_retime_42 rfl ?_
        refine r_iload_n (pc := 43) dX8_retime_43 rfl ?_
        refine r_iconst (pc := 44) (v := 2) dX8_retime_44 (by decide) ?_
        refine r_iload_n (pc := 45) dX8_retime_45 rfl ?_
        refine s_VV (pc := 46) mX8_lays (ci := 8) (a := b0) (As := [.int l1, .int 2, .int l2]) dX8_retime_46 lk_X8_230 in_X8_lays mo_X8_lays ⟨by decide, rfl⟩ ⟨by decide, by decide⟩ (Nat.le_of_ble_eq_true rfl) k_b0 (mSV_mono K0 (fun y_14 K0 => ?_))
        refine r_iload_n (pc := 49) dX8_retime_49 rfl ?_
        exact s_iret rfl dX8_retime_50 K0
      · have K0 := K0.2 q
        refine r_bipush (pc := 28) (v := (-6)) dX8_retime_28 (by decide) ?_
        exact s_iret rfl dX8_retime_30 K0
    · have q := (b2i_z _).mp q
      have K0 := K0.2 q
      refine r_bipush (pc := 16) (v := (-2)) dX8_retime_16 (by decide) ?_
      exact s_iret rfl dX8_retime_18 K0
section
variable {y : Cn} {Q : Int32 → Cn → Prop} {T : TT} {W C S A N n : Nat} {H : Nat → TT}
theorem sq_X8_retime {a b : Int32} (r : RS y T n H) (F : WF T W C S A N) (k1 : ¬ ((0 ≤ a ∧ a < nI S) ∧ (0 < nI W ∧ 0 ≤ b ∧ b < 24)) → Q (-2) y) (k2 : (0 ≤ a ∧ a < nI S) → (0 < nI W ∧ 0 ≤ b ∧ b < 24) → bP (crt T S W N a.toNatClampNeg b.toNatClampNeg) = 0 → Q (-6) y) (k3 : (0 ≤ a ∧ a < nI S) → (0 < nI W ∧ 0 ≤ b ∧ b < 24) → ¬ bP (crt T S W N a.toNatClampNeg b.toNatClampNeg) = 0 → ∀ z, RFr y z → RS z (uT T (62 + 12 * a.toNatClampNeg + 2) b) (pn n) (push H n T) → Q (so T a.toNatClampNeg 2) z) : mSI mX8_retime [.ref 717, .int a, .int b] KW y Q := by
  have hS : S ≤ 24 := F.2.2.2.2.2.2.1
  have hW : W ≤ 30 := F.2.2.1
  have M := r.1
  refine v_X8_retime_0 km M.1 km1 ⟨v0 (k := 2) (by decide) rfl rfl, ?_⟩
  rw [r.2.1, F.2.2.2.2.2.1, F.1, inN' (by omega), d24]
  refine ⟨fun z => k1 (fun u => z u.1), fun z1 => ⟨v0 (k := 0) (by decide) rfl rfl, fun z2 => ?_, fun z => k1 (fun u => z u.2)⟩⟩
  have k2 := k2 z1 z2
  have k3 := k3 z1 z2
  obtain ⟨s, hs, rfl⟩ := inN (by omega) z1
  obtain ⟨h, hh, rfl⟩ := inN (n := 24) (by decide) z2.2
  rw [nI_clamp (by omega), nI_clamp (by omega)] at k2
  rw [nI_clamp (by omega), nI_clamp (by omega)] at k3
  refine sp_X8_canRetime M (by rw [r.2.1]; exact F) hs hh ?_
  rw [r.2.1]
  refine ⟨fun u => ?_, fun u => k2 u⟩
  refine r.keeps (fun z f1 r1 => ⟨718, r1.1.2.2.1, 518, km1, l24_nI (by omega) rfl, ?_⟩)
  rw [r1.2.1, nI_clamp (by omega)]
  exact sp_X8_lays (k := 2) r1.1 km1 (by omega) (by decide) (k3 u _ f1.u8 r1.u8)
end
set_option maxHeartbeats 2000000 in
theorem v_X7_hand_0 {K : Sh} {x : Cn} {Q : Int32 → Cn → Prop} {b0 : Nat} {l1 : Int32} {l2 : Int32} {b0_2 : Nat} {b0_3 : Nat} {b0_2_7 : Nat} {n_b0_2_7 : Nat} (k_b0 : kk K b0 = some (7, 0)) (g_b0_2 : gr x b0 2 = some b0_2) (k_b0_2 : kk K b0_2 = some (4, 0)) (g_b0_3 : gr x b0 3 = some b0_3) (k_b0_3 : kk K b0_3 = some (1, 0)) (g_b0_2_7 : gr x b0_2 7 = some b0_2_7) (k_b0_2_7 : kk K b0_2_7 = some (23, n_b0_2_7)) (K0 : (¬ (0 ≤ l1 ∧ l1 < gi x b0_2 3) → (Q (-2) x)) ∧ ((0 ≤ l1 ∧ l1 < gi x b0_2 3) → (((0 ≤ l2 ∧ l2 < gi x b0_3 0) → (vp_in l1 n_b0_2_7 ∧ (∃ c_4 : Nat, gr x b0_2_7 ((l1 : Int32).toNatClampNeg) = some c_4 ∧ (kk K c_4 = some (5, 0) ∧ (((gi x c_4 4) = 0 → ((¬ (gi x c_4 0) = l2 → (mSV mX7_remember [.ref b0] K x (fun y_9 => Q (gi y_9 c_4 0) (ui y_9 c_4 0 l2)))) ∧ ((gi x c_4 0) = l2 → (Q (-6) x)))) ∧ (¬ (gi x c_4 4) = 0 → (Q (-5) x))))))) ∧ (¬ (0 ≤ l2 ∧ l2 < gi x b0_3 0) → (Q (-2) x))))) : mSI mX7_hand [.ref b0, .int l1, .int l2] K x Q := by
  refine s_I (by decide) (by simp [Value.category]) (Nat.le_of_ble_eq_true rfl) ?_
  show mGM mX7_hand 0 [some (.ref b0), some (.int l1), some (.int l2), none, none] [] (hp K x) (PI K Q)
  refine r_aload_n (pc := 0) dX7_hand_0 rfl ?_
  refine r_iload_n (pc := 1) dX7_hand_1 rfl ?_
  refine s_VI (pc := 2) mX7_isSeries (ci := 7) (a := b0) (As := [.int l1]) dX7_hand_2 lk_X7_132 in_X7_isSeries mo_X7_isSeries ⟨by decide, rfl⟩ ⟨by decide, by decide⟩ (Nat.le_of_ble_eq_true rfl) k_b0 (sp_X7_isSeries k_b0 g_b0_2 k_b0_2 ?_)
  refine r_if_eq (pc := 5) (tgt := 16) dX7_hand_5 (by decide) (fun q => ?_) (fun q => ?_)
  · have q := (b2i_z _).mp q
    have K0 := K0.1 q
    refine r_bipush (pc := 16) (v := (-2)) dX7_hand_16 (by decide) ?_
    exact s_iret rfl dX7_hand_18 K0
  · have q := b2i_nz q
    have K0 := K0.2 q
    refine r_aload_n (pc := 8) dX7_hand_8 rfl ?_
    refine r_iload_n (pc := 9) dX7_hand_9 rfl ?_
    refine s_VI (pc := 10) mX7_isCarrier (ci := 7) (a := b0) (As := [.int l2]) dX7_hand_10 lk_X7_109 in_X7_isCarrier mo_X7_isCarrier ⟨by decide, rfl⟩ ⟨by decide, by decide⟩ (Nat.le_of_ble_eq_true rfl) k_b0 (sp_X7_isCarrier k_b0 g_b0_3 k_b0_3 ?_)
    refine r_if_ne (pc := 13) (tgt := 19) dX7_hand_13 (by decide) (fun q => ?_) (fun q => ?_)
    · have q := b2i_nz q
      have K0 := K0.1 q
      refine r_aload_n (pc := 19) dX7_hand_19 rfl ?_
      refine s_getR (pc := 20) dX7_hand_20 fl_X7_20 rfl k_b0 g_b0_2 ?_
      refine s_getR (pc := 23) dX7_hand_23 fl_X7_135 rfl k_b0_2 g_b0_2_7 ?_
      refine r_iload_n (pc := 26) dX7_hand_26 rfl ?_
      obtain ⟨i_3, K0⟩ := K0
      obtain ⟨c_4, g_5, K0⟩ := K0
      refine s_aald (pc := 27) dX7_hand_27 (by decide) rfl k_b0_2_7 i_3 g_5 ?_
      refine r_astore_n (pc := 28) dX7_hand_28 (by decide) ?_
      refine r_aload_n (pc := 29) (L := [some (.ref b0), some (.int l1), some (.int l2), some (.ref c_4), none]) dX7_hand_29 rfl ?_
      obtain ⟨e_6, K0⟩ := K0
      refine s_getI (pc := 30) dX7_hand_30 fl_X7_153 rfl e_6 ?_
      refine r_if_eq (pc := 33) (tgt := 39) dX7_hand_33 (by decide) (fun q => ?_) (fun q => ?_)
      · have K0 := K0.1 q
        refine r_aload_n (pc := 39) dX7_hand_39 rfl ?_
        refine s_getI (pc := 40) dX7_hand_40 fl_X7_139 rfl e_6 ?_
        refine r_iload_n (pc := 43) dX7_hand_43 rfl ?_
        refine r_icmp_ne (pc := 44) (tgt := 50) dX7_hand_44 (by decide) (fun q => ?_) (fun q => ?_)
        · have K0 := K0.1 q
          refine r_aload_n (pc := 50) dX7_hand_50 rfl ?_
          refine s_VV (pc := 51) mX7_remember (ci := 7) (a := b0) (As := []) dX7_hand_51 lk_X7_333 in_X7_remember mo_X7_remember ⟨by decide, rfl⟩ ⟨by decide, by decide⟩ (Nat.le_of_ble_eq_true rfl) k_b0 (mSV_mono K0 (fun y_9 K0 => ?_))
          refine r_aload_n (pc := 54) dX7_hand_54 rfl ?_
          refine s_getI (pc := 55) dX7_hand_55 fl_X7_139 rfl e_6 ?_
          refine r_istore (pc := 58) dX7_hand_58 (by decide) ?_
          refine r_aload_n (pc := 60) (L := [some (.ref b0), some (.int l1), some (.int l2), some (.ref c_4), some (.int (gi y_9 c_4 0))]) dX7_hand_60 rfl ?_
          refine r_iload_n (pc := 61) dX7_hand_61 rfl ?_
          refine s_putI (pc := 62) dX7_hand_62 fl_X7_139 rfl rfl e_6 ?_
          refine r_iload (pc := 65) dX7_hand_65 rfl ?_
          exact s_iret rfl dX7_hand_67 K0
        · have K0 := K0.2 q
          refine r_bipush (pc := 47) (v := (-6)) dX7_hand_47 (by decide) ?_
          exact s_iret rfl dX7_hand_49 K0
      · have K0 := K0.2 q
        refine r_bipush (pc := 36) (v := (-5)) dX7_hand_36 (by decide) ?_
        exact s_iret rfl dX7_hand_38 K0
    · have q := (b2i_z _).mp q
      have K0 := K0.2 q
      refine r_bipush (pc := 16) (v := (-2)) dX7_hand_16 (by decide) ?_
      exact s_iret rfl dX7_hand_18 K0
set_option maxHeartbeats 2000000 in
theorem v_X8_hand_0 {K : Sh} {x : Cn} {Q : Int32 → Cn → Prop} {b0 : Nat} {l1 : Int32} {l2 : Int32} {b0_1 : Nat} {n_b0_1 : Nat} {b0_3 : Nat} {n_b0_3 : Nat} (k_b0 : kk K b0 = some (8, 0)) (g_b0_1 : gr x b0 1 = some b0_1) (k_b0_1 : kk K b0_1 = some (20, n_b0_1)) (g_b0_3 : gr x b0 3 = some b0_3) (k_b0_3 : kk K b0_3 = some (20, n_b0_3)) (K0 : vp_in 2 n_b0_1 ∧ ((¬ (0 ≤ l1 ∧ l1 ≤ gi x b0_1 2 - 1) → (Q (-2) x)) ∧ ((0 ≤ l1 ∧ l1 ≤ gi x b0_1 2 - 1) → (vp_in 1 n_b0_1 ∧ (((0 ≤ l2 ∧ l2 ≤ gi x b0_1 1 - 1) → ((l24 l1 n_b0_3) ∧ ((¬ (so (gi x b0_3) (l1 : Int32).toNatClampNeg 4 = 1) → ((¬ (so (gi x b0_3) (l1 : Int32).toNatClampNeg 0) = l2 → (mSV mX8_keeps [.ref b0] K x (fun y_8 => mSV mX8_lays [.ref b0, .int l1, .int 0, .int l2] K y_8 (fun y_9 => Q (so (gi x b0_3) (l1 : Int32).toNatClampNeg 0) y_9)))) ∧ ((so (gi x b0_3) (l1 : Int32).toNatClampNeg 0) = l2 → (Q (-6) x)))) ∧ ((so (gi x b0_3) (l1 : Int32).toNatClampNeg 4 = 1) → (Q (-5) x))))) ∧ (¬ (0 ≤ l2 ∧ l2 ≤ gi x b0_1 1 - 1) → (Q (-2) x))))))) : mSI mX8_hand [.ref b0, .int l1, .int l2] K x Q := by
  refine s_I (by decide) (by simp [Value.category]) (Nat.le_of_ble_eq_true rfl) ?_
  show mGM mX8_hand 0 [some (.ref b0), some (.int l1), some (.int l2), none] [] (hp K x) (PI K Q)
  refine r_aload_n (pc := 0) dX8_hand_0 rfl ?_
  refine r_iload_n (pc := 1) dX8_hand_1 rfl ?_
  obtain ⟨i_1, K0⟩ := K0
  refine s_VI (pc := 2) mX8_isSeries (ci := 8) (a := b0) (As := [.int l1]) dX8_hand_2 lk_X8_273 in_X8_isSeries mo_X8_isSeries ⟨by decide, rfl⟩ ⟨by decide, by decide⟩ (Nat.le_of_ble_eq_true rfl) k_b0 (sp_X8_isSeries k_b0 g_b0_1 k_b0_1 i_1 ?_)
  refine r_if_eq (pc := 5) (tgt := 16) dX8_hand_5 (by decide) (fun q => ?_) (fun q => ?_)
  · have q := (b2i_z _).mp q
    have K0 := K0.1 q
    refine r_bipush (pc := 16) (v := (-2)) dX8_hand_16 (by decide) ?_
    exact s_iret rfl dX8_hand_18 K0
  · have q := b2i_nz q
    have K0 := K0.2 q
    refine r_aload_n (pc := 8) dX8_hand_8 rfl ?_
    refine r_iload_n (pc := 9) dX8_hand_9 rfl ?_
    obtain ⟨i_3, K0⟩ := K0
    refine s_VI (pc := 10) mX8_isCarrier (ci := 8) (a := b0) (As := [.int l2]) dX8_hand_10 lk_X8_265 in_X8_isCarrier mo_X8_isCarrier ⟨by decide, rfl⟩ ⟨by decide, by decide⟩ (Nat.le_of_ble_eq_true rfl) k_b0 (sp_X8_isCarrier k_b0 g_b0_1 k_b0_1 i_3 ?_)
    refine r_if_ne (pc := 13) (tgt := 19) dX8_hand_13 (by decide) (fun q => ?_) (fun q => ?_)
    · have q := b2i_nz q
      have K0 := K0.1 q
      refine r_aload_n (pc := 19) dX8_hand_19 rfl ?_
      refine r_iload_n (pc := 20) dX8_hand_20 rfl ?_
      obtain ⟨p_5, K0⟩ := K0
      refine s_VI (pc := 21) mX8_isNew (ci := 8) (a := b0) (As := [.int l1]) dX8_hand_21 lk_X8_382 in_X8_isNew mo_X8_isNew ⟨by decide, rfl⟩ ⟨by decide, by decide⟩ (Nat.le_of_ble_eq_true rfl) k_b0 (sr_X8_isNew k_b0 g_b0_3 k_b0_3 p_5 ?_)
      refine r_if_eq (pc := 24) (tgt := 30) dX8_hand_24 (by decide) (fun q => ?_) (fun q => ?_)
      · have q := (b2i_z _).mp q
        have K0 := K0.1 q
        refine r_aload_n (pc := 30) dX8_hand_30 rfl ?_
        refine r_iload_n (pc := 31) dX8_hand_31 rfl ?_
        refine r_iconst (pc := 32) (v := 0) dX8_hand_32 (by decide) ?_
        refine s_VI (pc := 33) mX8_one (ci := 8) (a := b0) (As := [.int l1, .int 0]) dX8_hand_33 lk_X8_67 in_X8_one mo_X8_one ⟨by decide, rfl⟩ ⟨by decide, by decide⟩ (Nat.le_of_ble_eq_true rfl) k_b0 (sr_X8_one k_b0 g_b0_3 k_b0_3 p_5 ⟨by decide, by decide⟩ ?_)
        refine r_istore_n (pc := 36) dX8_hand_36 (by decide) ?_
        refine r_iload_n (pc := 37) (L := [some (.ref b0), some (.int l1), some (.int l2), some (.int (so (gi x b0_3) (l1 : Int32).toNatClampNeg 0))]) dX8_hand_37 rfl ?_
        refine r_iload_n (pc := 38) dX8_hand_38 rfl ?_
        refine r_icmp_ne (pc := 39) (tgt := 45) dX8_hand_39 (by decide) (fun q => ?_) (fun q => ?_)
        · have K0 := K0.1 q
          refine r_aload_n (pc := 45) dX8_hand_45 rfl ?_
          refine s_VV (pc := 46) mX8_keeps (ci := 8) (a := b0) (As := []) dX8_hand_46 lk_X8_366 in_X8_keeps mo_X8_keeps ⟨by decide, rfl⟩ ⟨by decide, by decide⟩ (Nat.le_of_ble_eq_true rfl) k_b0 (mSV_mono K0 (fun y_8 K0 => ?_))
          refine r_aload_n (pc := 49) dX8_hand_49 rfl ?_
          refine r_iload_n (pc := 50) dX8_hand_50 rfl ?_
          refine r_iconst (pc := 51) (v := 0) dX8_hand_51 (by decide) ?_
          refine r_iload_n (pc := 52) dX8_hand_52 rfl ?_
          refine s_VV (pc := 53) mX8_lays (ci := 8) (a := b0) (As := [.int l1, .int 0, .int l2]) dX8_hand_53 lk_X8_230 in_X8_lays mo_X8_lays ⟨by decide, rfl⟩ ⟨by decide, by decide⟩ (Nat.le_of_ble_eq_true rfl) k_b0 (mSV_mono K0 (fun y_9 K0 => ?_))
          refine r_iload_n (pc := 56) dX8_hand_56 rfl ?_
          exact s_iret rfl dX8_hand_57 K0
        · have K0 := K0.2 q
          refine r_bipush (pc := 42) (v := (-6)) dX8_hand_42 (by decide) ?_
          exact s_iret rfl dX8_hand_44 K0
      · have q := b2i_nz q
        have K0 := K0.2 q
        refine r_bipush (pc := 27) (v := (-5)) dX8_hand_27 (by decide) ?_
        exact s_iret rfl dX8_hand_29 K0
    · have q := (b2i_z _).mp q
      have K0 := K0.2 q
      refine r_bipush (pc := 16) (v := (-2)) dX8_hand_16 (by decide) ?_
      exact s_iret rfl dX8_hand_18 K0
section
variable {y : Cn} {Q : Int32 → Cn → Prop} {T : TT} {W C S A N n : Nat} {H : Nat → TT}
theorem sq_X8_hand {a b : Int32} (r : RS y T n H) (F : WF T W C S A N) (k1 : ¬ ((0 ≤ a ∧ a < nI S) ∧ (0 ≤ b ∧ b < nI C)) → Q (-2) y) (k2 : (0 ≤ a ∧ a < nI S) → (0 ≤ b ∧ b < nI C) → so T a.toNatClampNeg 4 = 1 → Q (-5) y) (k3 : (0 ≤ a ∧ a < nI S) → (0 ≤ b ∧ b < nI C) → ¬ so T a.toNatClampNeg 4 = 1 → so T a.toNatClampNeg 0 = b → Q (-6) y) (k4 : (0 ≤ a ∧ a < nI S) → (0 ≤ b ∧ b < nI C) → ¬ so T a.toNatClampNeg 4 = 1 → ¬ so T a.toNatClampNeg 0 = b → ∀ z, RFr y z → RS z (uT T (62 + 12 * a.toNatClampNeg + 0) b) (pn n) (push H n T) → Q (so T a.toNatClampNeg 0) z) : mSI mX8_hand [.ref 717, .int a, .int b] KW y Q := by
  have hS : S ≤ 24 := F.2.2.2.2.2.2.1
  have hC : C ≤ 8 := F.2.2.2.2.1
  have M := r.1
  refine v_X8_hand_0 km M.1 km1 M.2.2.1 km1 ⟨v0 (k := 2) (by decide) rfl rfl, ?_⟩
  rw [r.2.1, F.2.2.2.2.2.1, F.2.2.2.1, inN' (by omega), inN' (by omega)]
  refine ⟨fun z => k1 (fun u => z u.1), fun z1 => ⟨v0 (k := 1) (by decide) rfl rfl, fun z2 => ?_, fun z => k1 (fun u => z u.2)⟩⟩
  have k2 := k2 z1 z2
  have k3 := k3 z1 z2
  have k4 := k4 z1 z2
  obtain ⟨s, hs, rfl⟩ := inN (by omega) z1
  rw [nI_clamp (by omega)] at k2 k3 k4 ⊢
  refine ⟨l24_nI (by omega) rfl, fun u => ⟨fun u2 => ?_, fun u2 => k3 u u2⟩, fun u => k2 u⟩
  exact r.keeps (fun z f1 r1 => sp_X8_lays (k := 0) r1.1 km1 (by omega) (by decide) (k4 u u2 _ f1.u8 r1.u8))
theorem opf_in {T : TT} {C W s w : Nat} (g : Wse T C W s) (hW : W ≤ 30) (hw : w < 100) : ∀ i, i < 32 → tb (opf T W s w) i = true → tb (so T s (7 + 0)) i = true := fun i _ e => by
  rw [opf_eq g hW hw, tb_and, Bool.and_eq_true] at e
  exact e.1
theorem AC.giv {x z : Cn} {W C S A N n s p w : Nat} {T : TT} {H : Nat → TT} (az : AC x z W C S A N n T H) (hs : s < S) (hw : w < 100) (hp : gr z 5 s = some p) : AC x (ui z p 11 (gi z p 11 ||| opf T W s w)) W C S A N n (goT T s (opf T W s w) 0 4) H := by
  have E := az.2.2.2.2
  have hW : W ≤ 30 := E.nums.2.2.2.2.1
  have w0 := E.2.2.2.2.2.2.2.2.2.2.2.2.2.2.2.1 s hs
  have es := az.2.2.2.2.2.2.1.2.2.2.2.2.2.1 s p hs hp
  refine az.go hs hp ((EQx.rf z p).ui) (by decide) (by decide) (by decide) (opf_in w0 hW hw) (by rw [gi_ui, if_neg (by omega)]) (fun j h1 h2 => ?_)
  rw [gi_ui, so_goT _ _ _ (by decide) (by decide) h1]
  by_cases c : j = 11
  · rw [if_pos ⟨rfl, c⟩, if_pos c, es.1 11 (by decide) (by decide)]
  · rw [if_neg (fun v => c v.2), if_neg c, if_neg h2]
    exact es.1 j h1 h2
/-- one number of a series changes, none of its weeks -/
theorem AC.one {x z : Cn} {W C S A N n s p k : Nat} {T : TT} {H : Nat → TT} {v : Int32} (az : AC x z W C S A N n T H) (hs : s < S) (hp : gr z 5 s = some p) (hk : k < 7) (hw : Wse (uT T (62 + 12 * s + k) v) C W s) : AC x (ui z p k v) W C S A N n (uT T (62 + 12 * s + k) v) H := by
  have es := az.2.2.2.2.2.2.1.2.2.2.2.2.2.1 s p hs hp
  refine az.ser hs hp ((EQx.rf z p).ui) (fun i _ h => uT_ne _ _ (by omega)) ⟨fun j h1 h2 => ?_, ?_⟩ hw
  · rw [gi_ui, so_uT _ _ _ _ _ _ (by omega) h1]
    by_cases c : j = k
    · rw [if_pos ⟨rfl, c⟩, if_pos ⟨rfl, c⟩]
    · rw [if_neg (fun v => c v.2), if_neg (fun v => c v.2)]
      exact es.1 j h1 h2
  · unfold bas
    rw [gi_ui, if_neg (by omega), so_uT _ _ _ _ _ _ (by omega) (by decide), if_neg (by omega), so_uT _ _ _ _ _ _ (by omega) (by decide), if_neg (by omega), so_uT _ _ _ _ _ _ (by omega) (by decide), if_neg (by omega), so_uT _ _ _ _ _ _ (by omega) (by decide), if_neg (by omega), so_uT _ _ _ _ _ _ (by omega) (by decide), if_neg (by omega)]
    exact es.2
theorem Wse.u2 {T : TT} {C W s h : Nat} (g : Wse T C W s) (hh : h < 24) : Wse (uT T (62 + 12 * s + 2) (nI h)) C W s := by
  have e : ∀ j, j < 12 → j ≠ 2 → so (uT T (62 + 12 * s + 2) (nI h)) s j = so T s j := fun j h1 h2 => by rw [so_uT _ _ _ _ _ _ (by decide) h1, if_neg (fun v => h2 v.2)]
  obtain ⟨g1, g2, g3, g4, g5, g6, g7, g8⟩ := g
  exact ⟨by rw [e 0 (by decide) (by decide)]; exact g1, by rw [e 1 (by decide) (by decide)]; exact g2, ⟨h, hh, by rw [so_uT _ _ _ _ _ _ (by decide) (by decide), if_pos ⟨rfl, rfl⟩]⟩, by rw [e 3 (by decide) (by decide)]; exact g4, by rw [e 4 (by decide) (by decide)]; exact g5, by rw [e 5 (by decide) (by decide), e 6 (by decide) (by decide)]; exact g6, fun i hi k j hk hj a b => g7 i hi k j hk hj (by rw [← e (7 + k) (by omega) (by omega)]; exact a) (by rw [← e (7 + j) (by omega) (by omega)]; exact b), fun i k hk a => g8 i k hk (by rw [← e (7 + k) (by omega) (by omega)]; exact a)⟩
theorem Wse.u0 {T : TT} {C W s c : Nat} (g : Wse T C W s) (hc : c < C) : Wse (uT T (62 + 12 * s + 0) (nI c)) C W s := by
  have e : ∀ j, j < 12 → j ≠ 0 → so (uT T (62 + 12 * s + 0) (nI c)) s j = so T s j := fun j h1 h2 => by rw [so_uT _ _ _ _ _ _ (by decide) h1, if_neg (fun v => h2 v.2)]
  obtain ⟨g1, g2, g3, g4, g5, g6, g7, g8⟩ := g
  exact ⟨⟨c, hc, by rw [so_uT _ _ _ _ _ _ (by decide) (by decide), if_pos ⟨rfl, rfl⟩]⟩, by rw [e 1 (by decide) (by decide)]; exact g2, by rw [e 2 (by decide) (by decide)]; exact g3, by rw [e 3 (by decide) (by decide)]; exact g4, by rw [e 4 (by decide) (by decide)]; exact g5, by rw [e 5 (by decide) (by decide), e 6 (by decide) (by decide)]; exact g6, fun i hi k j hk hj a b => g7 i hi k j hk hj (by rw [← e (7 + k) (by omega) (by omega)]; exact a) (by rw [← e (7 + j) (by omega) (by omega)]; exact b), fun i k hk a => g8 i k hk (by rw [← e (7 + k) (by omega) (by omega)]; exact a)⟩
end
theorem eq_miss (a b : Int32) : Both mX7_miss mX8_miss [.int a, .int b] := by
  intro x R
  obtain ⟨W, C, S, A, N, n, H, ac, rs, nm⟩ := R.ac
  have E := ac.2.2.2.2
  have hn := E.nums
  have hS : S ≤ 24 := hn.2.2.2.2.2.2.1
  have hW : W ≤ 30 := hn.2.2.2.2.1
  have hC : C ≤ 8 := hn.2.2.2.2.2.1
  refine v_X7_miss_0 k0 R.1.2.1 (ks0 E.1) E.2.1.2.2.1 (ks3 E.1) ?_
  rw [hn.2.2.1, hn.1]
  refine ⟨fun z => sq_X8_miss rs E.2.2.2 (fun _ => ⟨rfl, R⟩) (fun u => absurd u z) (fun u => absurd u z), fun z1 => ⟨fun z2 => ?_, fun z => sq_X8_miss rs E.2.2.2 (fun _ => ⟨rfl, R⟩) (fun _ u => absurd u z) (fun _ u => absurd u z)⟩⟩
  have no := fun k2 => sq_X8_miss (Q := fun r' z => (-6 : Int32) = r' ∧ Rel z) rs E.2.2.2 (fun u => absurd ⟨z1, z2⟩ u) (fun _ _ _ => ⟨rfl, R⟩) k2
  obtain ⟨s, hs, rfl⟩ := inN (by omega) z1
  obtain ⟨w, hw, rfl⟩ := inN (by omega) z2
  obtain ⟨p, e1, e2, e3, e4, -, e6⟩ := E.ser hs
  rw [nI_clamp (show s < 2 ^ 31 by omega)] at no ⊢
  rw [nI_clamp (show w < 2 ^ 31 by omega)] at no
  refine ⟨vp_in_nI (by omega) (by decide), p, e1, e2, sp_X5_stateOf (by omega) e2 e3 e6 ⟨fun u => no (fun _ _ v => absurd v u), fun u => ⟨R.1.2.1, ?_⟩⟩⟩
  rw [hn.2.1]
  refine ⟨fun u2 => ac.rem (fun _ _ => rfl) (fun z az z1' z2' => ?_), fun u2 => no (fun _ _ _ v => absurd v u2)⟩
  have hp : gr z 5 s = some p := (z2' 5 s (by decide)).trans e1
  have hin := wb_in (show w < 32 by omega) (stt_tb (k := 0) (by decide) u)
  have es := az.2.2.2.2.2.2.1.2.2.2.2.2.2.1 s p hs hp
  have a2 : AC x (ui z p 9 (gi z p 9 ||| (1 <<< (nI w &&& 31)))) W C S A N (pn n) (goT (gi x 718) s (wb (nI w)) 0 2) (push H n (gi x 718)) := by
    refine az.go hs hp ((EQx.rf z p).ui) (by decide) (by decide) (by decide) hin (by rw [gi_ui, if_neg (by omega)]) (fun j h1 h2 => ?_)
    rw [gi_ui, so_goT _ _ _ (by decide) (by decide) h1]
    by_cases c : j = 9
    · rw [if_pos ⟨rfl, c⟩, if_pos c, es.1 9 (by decide) (by decide)]
    · rw [if_neg (fun v => c v.2), if_neg c, if_neg h2]
      exact es.1 j h1 h2
  have E2 := a2.2.2.2.2
  obtain ⟨p', g1, g2, g3, -, -, g6⟩ := E2.ser hs
  have epp : p' = p := Option.some.inj (g1.symm.trans hp)
  subst epp
  refine sp_X5_missesLeft g2 g3 g6 ?_
  have u9 : stt (gi x 718) (nI s).toNatClampNeg (nI w).toNatClampNeg = 0 := by rw [nI_clamp (by omega), nI_clamp (by omega)]; exact u
  refine sq_X8_miss (a2.rs rs) E.2.2.2 (fun v => absurd ⟨z1, z2⟩ v) (fun _ _ v => absurd ⟨u9, u2⟩ v) (fun _ _ _ _ v f r2 => ?_)
  · rw [nI_clamp (show s < 2 ^ 31 by omega)] at r2 ⊢
    exact ⟨rfl, a2.fin R nm (fun c hc => goT_nm _ _ _ _ _ _ (by omega)) f r2⟩
theorem eq_excuse (a b : Int32) : Both mX7_excuse mX8_excuse [.int a, .int b] := by
  intro x R
  obtain ⟨W, C, S, A, N, n, H, ac, rs, nm⟩ := R.ac
  have E := ac.2.2.2.2
  have hn := E.nums
  have hS : S ≤ 24 := hn.2.2.2.2.2.2.1
  have hW : W ≤ 30 := hn.2.2.2.2.1
  have hC : C ≤ 8 := hn.2.2.2.2.2.1
  refine v_X7_excuse_0 k0 R.1.2.1 (ks0 E.1) E.2.1.2.2.1 (ks3 E.1) ?_
  rw [hn.2.2.1, hn.1]
  refine ⟨fun z => sq_X8_excuse rs E.2.2.2 (fun _ => ⟨rfl, R⟩) (fun u => absurd u z) (fun u => absurd u z), fun z1 => ⟨fun z2 => ?_, fun z => sq_X8_excuse rs E.2.2.2 (fun _ => ⟨rfl, R⟩) (fun _ u => absurd u z) (fun _ u => absurd u z)⟩⟩
  obtain ⟨s, hs, rfl⟩ := inN (by omega) z1
  obtain ⟨w, hw, rfl⟩ := inN (by omega) z2
  obtain ⟨p, e1, e2, e3, e4, -, e6⟩ := E.ser hs
  rw [nI_clamp (show s < 2 ^ 31 by omega)]
  have go : ∀ k, k = 0 ∨ k = 2 → stt (gi x 718) s w = nI k → mSV mX7_remember [.ref 0] KW x (fun y_10 => ∀ r_11 : Int32, r_11 = gi (ui y_10 p 9 ((gi y_10 p 9) &&& ((1 <<< (nI w &&& 31)) ^^^ (-1)))) p 10 → mSI mX8_excuse [.ref 717, .int (nI s), .int (nI w)] KW (ui (ui y_10 p 9 ((gi y_10 p 9) &&& ((1 <<< (nI w &&& 31)) ^^^ (-1)))) p 10 (r_11 ||| (1 <<< (nI w &&& 31)))) (fun r' z => nI (cpt (gi (ui (ui y_10 p 9 ((gi y_10 p 9) &&& ((1 <<< (nI w &&& 31)) ^^^ (-1)))) p 10 (r_11 ||| (1 <<< (nI w &&& 31)))) p 8 ||| gi (ui (ui y_10 p 9 ((gi y_10 p 9) &&& ((1 <<< (nI w &&& 31)) ^^^ (-1)))) p 10 (r_11 ||| (1 <<< (nI w &&& 31)))) p 10)) = r' ∧ Rel z)) := by
    intro k hk u
    refine ac.rem (fun _ _ => rfl) (fun z az z1' z2' => ?_)
    intro r er
    have hp : gr z 5 s = some p := (z2' 5 s (by decide)).trans e1
    have hb := stt_tb (k := k) (by omega) u
    have hin := wb_in (show w < 32 by omega) hb
    have es := az.2.2.2.2.2.2.1.2.2.2.2.2.2.1 s p hs hp
    have er2 : r = so (gi x 718) s 10 := by rw [er, gi_ui, if_neg (by omega)]; exact es.1 10 (by decide) (by decide)
    have a2 : AC x (ui (ui z p 9 (gi z p 9 &&& ((1 <<< (nI w &&& 31)) ^^^ (-1)))) p 10 (r ||| (1 <<< (nI w &&& 31)))) W C S A N (pn n) (goT (gi x 718) s (wb (nI w)) k 3) (push H n (gi x 718)) := by
      refine az.go hs hp ((EQx.rf z p).ui.ui) (by omega) (by decide) (by omega) hin (by rw [gi_ui, if_neg (by omega), gi_ui, if_neg (by omega)]) (fun j h1 h2 => ?_)
      rw [gi_ui, so_goT _ _ _ (by omega) (by decide) h1]
      by_cases c : j = 10
      · rw [if_pos ⟨rfl, c⟩, if_pos c, er2]
      · rw [if_neg (fun v => c v.2), if_neg c, gi_ui]
        by_cases d : j = 9
        · rw [if_pos ⟨rfl, d⟩, es.1 9 (by decide) (by decide)]
          rcases hk with rfl | rfl
          · rw [if_neg (by omega), d]
            exact an_dis (fun i hi g1 g2 => absurd (e6.2.2.2.2.2.2.1 i hi 0 2 (by decide) (by decide) (hin i hi g1) g2) (by decide))
          · rw [if_pos d]
        · rw [if_neg (fun v => d v.2), if_neg (by omega)]
          exact es.1 j h1 h2
    have E2 := a2.2.2.2.2
    have s2 := E2.2.2.1.2.2.2.2.2.2.1 s p hs hp
    rw [s2.1 8 (by decide) (by decide), s2.1 10 (by decide) (by decide)]
    refine sq_X8_excuse (a2.rs rs) E.2.2.2 (fun v => absurd ⟨z1, z2⟩ v) (fun _ _ v1 v2 => absurd u ?_) (fun _ _ k' hk' u' v f r2 => ?_)
    · rw [nI_clamp (by omega), nI_clamp (by omega)] at v1 v2
      rcases hk with rfl | rfl
      · exact v1
      · exact v2
    · rw [nI_clamp (show s < 2 ^ 31 by omega), nI_clamp (show w < 2 ^ 31 by omega)] at u'
      have : k' = k := (nI_eq (by omega) (by omega)).mp (u'.symm.trans u)
      subst this
      rw [nI_clamp (by omega)] at r2 ⊢
      exact ⟨rfl, a2.fin R nm (fun c hc => goT_nm _ _ _ _ _ _ (by omega)) f r2⟩
  refine ⟨vp_in_nI (by omega) (by decide), p, e1, e2, sp_X5_stateOf (by omega) e2 e3 e6 ⟨fun u => go 2 (Or.inr rfl) u, fun u => ⟨fun u2 => go 0 (Or.inl rfl) u2, fun u2 => ?_⟩⟩⟩
  refine sq_X8_excuse rs E.2.2.2 (fun v => absurd ⟨z1, z2⟩ v) (fun _ _ _ _ => ⟨rfl, R⟩) (fun _ _ k' hk' u' => ?_)
  rw [nI_clamp (show s < 2 ^ 31 by omega), nI_clamp (show w < 2 ^ 31 by omega)] at u'
  rcases hk' with rfl | rfl
  · exact absurd u' u2
  · exact absurd u' u
theorem eq_fly (a b : Int32) : Both mX7_fly mX8_fly [.int a, .int b] := by
  intro x R
  obtain ⟨W, C, S, A, N, n, H, ac, rs, nm⟩ := R.ac
  have E := ac.2.2.2.2
  have hn := E.nums
  have hS : S ≤ 24 := hn.2.2.2.2.2.2.1
  have hW : W ≤ 30 := hn.2.2.2.2.1
  have hC : C ≤ 8 := hn.2.2.2.2.2.1
  refine v_X7_fly_0 k0 R.1.2.1 (ks0 E.1) E.2.1.2.2.1 (ks3 E.1) ?_
  rw [hn.2.2.1, hn.1]
  refine ⟨fun z => sq_X8_fly rs E.2.2.2 (fun _ => ⟨rfl, R⟩) (fun u => absurd u z) (fun u => absurd u z), fun z1 => ⟨fun z2 => ?_, fun z => sq_X8_fly rs E.2.2.2 (fun _ => ⟨rfl, R⟩) (fun _ u => absurd u z) (fun _ u => absurd u z)⟩⟩
  obtain ⟨s, hs, rfl⟩ := inN (by omega) z1
  obtain ⟨w, hw, rfl⟩ := inN (by omega) z2
  obtain ⟨p, e1, e2, e3, e4, -, e6⟩ := E.ser hs
  have no : ¬ ((stt (gi x 718) s w = 2 ∨ stt (gi x 718) s w = 3) ∧ nI N ≤ nI w) → mSI mX8_fly [.ref 717, .int (nI s), .int (nI w)] KW x (fun r' z => -6 = r' ∧ Rel z) := by
    intro v
    refine sq_X8_fly rs E.2.2.2 (fun v => absurd ⟨z1, z2⟩ v) (fun _ _ _ => ⟨rfl, R⟩) (fun _ _ k' hk' u' u2 => absurd ⟨?_, u2⟩ v)
    rw [nI_clamp (show s < 2 ^ 31 by omega), nI_clamp (show w < 2 ^ 31 by omega)] at u'
    rcases hk' with rfl | rfl
    · exact Or.inl u'
    · exact Or.inr u'
  rw [nI_clamp (show s < 2 ^ 31 by omega)]
  have go : ∀ k, k = 2 ∨ k = 3 → stt (gi x 718) s w = nI k → nI N ≤ nI w → mSV mX7_remember [.ref 0] KW x (fun y_12 => ∀ r_13 : Int32, r_13 = gi (ui y_12 p 9 ((gi y_12 p 9) &&& ((1 <<< (nI w &&& 31)) ^^^ (-1)))) p 10 → mSI mX8_fly [.ref 717, .int (nI s), .int (nI w)] KW (ui (ui y_12 p 9 ((gi y_12 p 9) &&& ((1 <<< (nI w &&& 31)) ^^^ (-1)))) p 10 (r_13 &&& ((1 <<< (nI w &&& 31)) ^^^ (-1)))) (fun r' z => stt (gi x 718) s w = r' ∧ Rel z)) := by
    intro k hk u u3
    refine ac.rem (fun _ _ => rfl) (fun z az z1' z2' => ?_)
    intro r er
    have hp : gr z 5 s = some p := (z2' 5 s (by decide)).trans e1
    have hb := stt_tb (k := k) (by omega) u
    have hin := wb_in (show w < 32 by omega) hb
    have es := az.2.2.2.2.2.2.1.2.2.2.2.2.2.1 s p hs hp
    have er2 : r = so (gi x 718) s 10 := by rw [er, gi_ui, if_neg (by omega)]; exact es.1 10 (by decide) (by decide)
    have a2 : AC x (ui (ui z p 9 (gi z p 9 &&& ((1 <<< (nI w &&& 31)) ^^^ (-1)))) p 10 (r &&& ((1 <<< (nI w &&& 31)) ^^^ (-1)))) W C S A N (pn n) (goT (gi x 718) s (wb (nI w)) k 0) (push H n (gi x 718)) := by
      refine az.go hs hp ((EQx.rf z p).ui.ui) (by omega) (by decide) (by omega) hin (by rw [gi_ui, if_neg (by omega), gi_ui, if_neg (by omega)]) (fun j h1 h2 => ?_)
      rw [gi_ui, so_goT _ _ _ (by omega) (by decide) h1, if_neg (show ¬ j = 7 + 0 from h2)]
      by_cases c : j = 10
      · rw [if_pos ⟨rfl, c⟩, er2]
        rcases hk with rfl | rfl
        · rw [if_neg (by omega), c]
          exact an_dis (fun i hi g1 g2 => absurd (e6.2.2.2.2.2.2.1 i hi 2 3 (by decide) (by decide) (hin i hi g1) g2) (by decide))
        · rw [if_pos c]
      · rw [if_neg (fun v => c v.2), gi_ui]
        by_cases d : j = 9
        · rw [if_pos ⟨rfl, d⟩, es.1 9 (by decide) (by decide)]
          rcases hk with rfl | rfl
          · rw [if_pos d]
          · rw [if_neg (by omega), d]
            exact an_dis (fun i hi g1 g2 => absurd (e6.2.2.2.2.2.2.1 i hi 3 2 (by decide) (by decide) (hin i hi g1) g2) (by decide))
        · rw [if_neg (fun v => d v.2), if_neg (by omega)]
          exact es.1 j h1 h2
    have u9 : stt (gi x 718) (nI s).toNatClampNeg (nI w).toNatClampNeg = 2 ∨ stt (gi x 718) (nI s).toNatClampNeg (nI w).toNatClampNeg = 3 := by
      rw [nI_clamp (show s < 2 ^ 31 by omega), nI_clamp (show w < 2 ^ 31 by omega)]
      rcases hk with rfl | rfl
      · exact Or.inl u
      · exact Or.inr u
    refine sq_X8_fly (a2.rs rs) E.2.2.2 (fun v => absurd ⟨z1, z2⟩ v) (fun _ _ v1 => absurd ⟨u9, u3⟩ v1) (fun _ _ k' hk' u' _ v f r2 => ?_)
    · rw [nI_clamp (show s < 2 ^ 31 by omega), nI_clamp (show w < 2 ^ 31 by omega)] at u'
      have : k' = k := (nI_eq (by omega) (by omega)).mp (u'.symm.trans u)
      subst this
      rw [nI_clamp (by omega)] at r2
      exact ⟨u, a2.fin R nm (fun c hc => goT_nm _ _ _ _ _ _ (by omega)) f r2⟩
  refine ⟨vp_in_nI (by omega) (by decide), p, e1, e2, sp_X5_stateOf (by omega) e2 e3 e6 ?_⟩
  rw [hn.2.1]
  exact ⟨fun u => ⟨R.1.2.1, fun u2 => go 2 (Or.inl rfl) u u2, fun u2 => no (fun v => u2 v.2)⟩, fun u => ⟨fun u2 => no (fun v => v.1.elim u u2), fun u2 => ⟨R.1.2.1, fun u3 => go 3 (Or.inr rfl) u2 u3, fun u3 => no (fun v => u3 v.2)⟩⟩⟩
theorem eq_back (a b : Int32) : Both mX7_back mX8_back [.int a, .int b] := by
  intro x R
  obtain ⟨W, C, S, A, N, n, H, ac, rs, nm⟩ := R.ac
  have E := ac.2.2.2.2
  have hn := E.nums
  have hS : S ≤ 24 := hn.2.2.2.2.2.2.1
  have hW : W ≤ 30 := hn.2.2.2.2.1
  have hC : C ≤ 8 := hn.2.2.2.2.2.1
  refine v_X7_back_0 k0 R.1.2.1 (ks0 E.1) E.2.1.2.2.1 (ks3 E.1) ?_
  rw [hn.2.2.1, hn.1, hn.2.1]
  refine ⟨fun z => sq_X8_back rs E.2.2.2 (fun _ => ⟨rfl, R⟩) (fun u => absurd u z) (fun u => absurd u z) (fun u => absurd u z), fun z1 => ⟨fun z2 => ⟨fun u => ?_, fun u => sq_X8_back rs E.2.2.2 (fun v => absurd ⟨z1, z2⟩ v) (fun _ _ _ => ⟨rfl, R⟩) (fun _ _ v => absurd v u) (fun _ _ v => absurd v u)⟩, fun z => sq_X8_back rs E.2.2.2 (fun _ => ⟨rfl, R⟩) (fun _ u => absurd u z) (fun _ u => absurd u z) (fun _ u => absurd u z)⟩⟩
  obtain ⟨s, hs, rfl⟩ := inN (by omega) z1
  obtain ⟨w, hw, rfl⟩ := inN (by omega) z2
  obtain ⟨p, e1, e2, e3, e4, e5, e6⟩ := E.ser hs
  rw [nI_clamp (show s < 2 ^ 31 by omega)]
  refine ⟨vp_in_nI (by omega) (by decide), p, e1, e2, ?_⟩
  rw [e5, ← opf_eq e6 hW (by omega)]
  refine ⟨fun v => ?_, fun v => ac.rem (fun _ _ => rfl) (fun z az z1' z2' => ?_)⟩
  · refine sq_X8_back rs E.2.2.2 (fun v => absurd ⟨z1, z2⟩ v) (fun _ _ v => absurd u v) (fun _ _ _ _ => ⟨?_, R⟩) (fun _ _ _ v' => absurd ?_ v')
    · rw [v, cpt_0]; rfl
    · rw [nI_clamp (by omega), nI_clamp (by omega)]; exact v
  · have a2 := az.giv hs (show w < 100 by omega) ((z2' 5 s (by decide)).trans e1)
    refine sq_X8_back (a2.rs rs) E.2.2.2 (fun v => absurd ⟨z1, z2⟩ v) (fun _ _ v => absurd u v) (fun _ _ _ v' => absurd v' ?_) (fun _ _ _ _ v f r2 => ?_)
    · rw [nI_clamp (by omega), nI_clamp (by omega)]; exact v
    · rw [nI_clamp (show s < 2 ^ 31 by omega), nI_clamp (show w < 2 ^ 31 by omega)] at r2 ⊢
      exact ⟨rfl, a2.fin R nm (fun c hc => goT_nm _ _ _ _ _ _ (by omega)) f r2⟩
theorem eq_retime (a b : Int32) : Both mX7_retime mX8_retime [.int a, .int b] := by
  intro x R
  obtain ⟨W, C, S, A, N, n, H, ac, rs, nm⟩ := R.ac
  have E := ac.2.2.2.2
  have hn := E.nums
  have hS : S ≤ 24 := hn.2.2.2.2.2.2.1
  have hW : W ≤ 30 := hn.2.2.2.2.1
  have hC : C ≤ 8 := hn.2.2.2.2.2.1
  refine v_X7_retime_0 k0 R.1.2.1 (ks0 E.1) ?_
  rw [hn.2.2.1, hn.1]
  refine ⟨fun z => sq_X8_retime rs E.2.2.2 (fun _ => ⟨rfl, R⟩) (fun u => absurd u z) (fun u => absurd u z), fun z1 => ⟨fun z2 => ?_, fun z => sq_X8_retime rs E.2.2.2 (fun _ => ⟨rfl, R⟩) (fun _ u => absurd u z) (fun _ u => absurd u z)⟩⟩
  obtain ⟨s, hs, rfl⟩ := inN (by omega) z1
  obtain ⟨h, hh, rfl⟩ := inN (n := 24) (by decide) z2.2
  obtain ⟨p, e1, e2, e3, e4, e5, e6⟩ := E.ser hs
  refine sp_X7_canRetime R.1 E hs hh (fun y hy => ⟨fun u => ?_, fun u => ?_⟩)
  · have ay := ac.e7 hy
    refine ay.rem (fun _ _ => rfl) (fun z az z1' z2' => ⟨az.2.1.2.1, 5, az.2.2.2.2.2.1.2.2.1, 24, ks3 E.1, vp_in_nI (by omega) (by decide), p, ?_, e2, ?_⟩)
    · have : gr y 5 s = some p := by unfold gr; rw [hy.1]; exact e1
      rw [nI_clamp (by omega), z2' 5 s (by decide)]; exact this
    · have hp : gr z 5 s = some p := by
        have : gr y 5 s = some p := by unfold gr; rw [hy.1]; exact e1
        rw [z2' 5 s (by decide)]; exact this
      have es := az.2.2.2.2.2.2.1.2.2.2.2.2.2.1 s p hs hp
      have a2 := az.one (v := nI h) hs hp (show 2 < 7 by decide) (e6.u2 hh)
      rw [es.1 2 (by decide) (by decide)]
      refine sq_X8_retime (a2.rs rs) E.2.2.2 (fun v => absurd ⟨z1, z2⟩ v) (fun _ _ v => absurd v ?_) (fun _ _ _ v f r2 => ?_)
      · rw [nI_clamp (by omega), nI_clamp (by omega)]; exact u
      · rw [nI_clamp (show s < 2 ^ 31 by omega)] at r2 ⊢
        exact ⟨rfl, a2.fin R nm (fun c hc => uT_ne _ _ (by omega)) f r2⟩
  · have ay := ac.e7 hy
    refine sq_X8_retime (ay.rs rs) E.2.2.2 (fun v => absurd ⟨z1, z2⟩ v) (fun _ _ _ => ⟨rfl, (R.e7 hy).1⟩) (fun _ _ v => absurd ?_ v)
    rw [nI_clamp (by omega), nI_clamp (by omega)]; exact u
theorem eq_hand (a b : Int32) : Both mX7_hand mX8_hand [.int a, .int b] := by
  intro x R
  obtain ⟨W, C, S, A, N, n, H, ac, rs, nm⟩ := R.ac
  have E := ac.2.2.2.2
  have hn := E.nums
  have hS : S ≤ 24 := hn.2.2.2.2.2.2.1
  have hC : C ≤ 8 := hn.2.2.2.2.2.1
  refine v_X7_hand_0 k0 R.1.2.1 (ks0 E.1) R.1.2.2.1 (by decide) E.2.1.2.2.1 (ks3 E.1) ?_
  rw [hn.2.2.1, nm.1]
  refine ⟨fun z => sq_X8_hand rs E.2.2.2 (fun _ => ⟨rfl, R⟩) (fun u => absurd u z) (fun u => absurd u z) (fun u => absurd u z), fun z1 => ⟨fun z2 => ?_, fun z => sq_X8_hand rs E.2.2.2 (fun _ => ⟨rfl, R⟩) (fun _ u => absurd u z) (fun _ u => absurd u z) (fun _ u => absurd u z)⟩⟩
  obtain ⟨s, hs, rfl⟩ := inN (by omega) z1
  obtain ⟨c, hc, rfl⟩ := inN (by omega) z2
  obtain ⟨p, e1, e2, e3, e4, e5, e6⟩ := E.ser hs
  have h01 := e6.2.2.2.2.1
  rw [nI_clamp (show s < 2 ^ 31 by omega)]
  refine ⟨vp_in_nI (by omega) (by decide), p, e1, e2, ?_⟩
  rw [e3.1 4 (by decide) (by decide), e3.1 0 (by decide) (by decide)]
  refine ⟨fun u => ⟨fun u2 => ac.rem (fun _ _ => rfl) (fun z az z1' z2' => ?_), fun u2 => ?_⟩, fun u => ?_⟩
  · have hp : gr z 5 s = some p := (z2' 5 s (by decide)).trans e1
    have es := az.2.2.2.2.2.2.1.2.2.2.2.2.2.1 s p hs hp
    have a2 := az.one (v := nI c) hs hp (show 0 < 7 by decide) (e6.u0 hc)
    rw [es.1 0 (by decide) (by decide)]
    refine sq_X8_hand (a2.rs rs) E.2.2.2 (fun v => absurd ⟨z1, z2⟩ v) (fun _ _ v => absurd v ?_) (fun _ _ _ v => absurd v ?_) (fun _ _ _ _ v f r2 => ?_)
    · rw [nI_clamp (by omega), u]; decide
    · rw [nI_clamp (by omega)]; exact u2
    · rw [nI_clamp (show s < 2 ^ 31 by omega)] at r2 ⊢
      exact ⟨rfl, a2.fin R nm (fun c hc => uT_ne _ _ (by omega)) f r2⟩
  · refine sq_X8_hand rs E.2.2.2 (fun v => absurd ⟨z1, z2⟩ v) (fun _ _ v => absurd v ?_) (fun _ _ _ _ => ⟨rfl, R⟩) (fun _ _ _ v => absurd ?_ v)
    · rw [nI_clamp (by omega), u]; decide
    · rw [nI_clamp (by omega)]; exact u2
  · refine sq_X8_hand rs E.2.2.2 (fun v => absurd ⟨z1, z2⟩ v) (fun _ _ _ => ⟨rfl, R⟩) (fun _ _ v => absurd ?_ v) (fun _ _ v => absurd ?_ v)
    · rw [nI_clamp (by omega)]; exact h01.resolve_left u
    · rw [nI_clamp (by omega)]; exact h01.resolve_left u


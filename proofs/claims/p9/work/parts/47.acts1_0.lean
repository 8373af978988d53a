abbrev wb (b : Int32) : Int32 := 1 <<< (b &&& 31)
theorem wb_in {T : TT} {s w k : Nat} (hw : w < 32) (h : tb (so T s (7 + k)) w = true) : ∀ i, i < 32 → tb (wb (nI w)) i = true → tb (so T s (7 + k)) i = true := fun i hi e => by
  rw [tb_one w hw i hi, decide_eq_true_eq] at e
  rw [e]; exact h
theorem an_dis {b v : Int32} (h : ∀ i, i < 32 → tb b i = true → ¬ tb v i = true) : v &&& (b ^^^ (-1)) = v := by
  apply tb_ext
  intro i hi
  rw [tb_and, tb_not _ hi]
  cases c : tb b i with
  | true => rw [Bool.eq_false_iff.mpr (h i hi c)]; rfl
  | false => simp
theorem goT_nm (T : TT) (s : Nat) (w : Int32) (k o c : Nat) (hc : c < 8) : goT T s w k o (54 + c) = T (54 + c) := by
  unfold goT
  rw [uT_ne _ _ (by omega), uT_ne _ _ (by omega)]
theorem SER.go {x y : Cn} {p s : Nat} {T : TT} {w : Int32} {k o : Nat} (h : SER x p T s) (hk : k < 5) (ho : o < 5) (hko : k ≠ o) (hw : ∀ i, i < 32 → tb w i = true → tb (so T s (7 + k)) i = true) (h7 : gi y p 7 = gi x p 7) (hj : ∀ j, j < 12 → j ≠ 7 → gi y p j = so (goT T s w k o) s j) : SER y p (goT T s w k o) s := ⟨fun j h1 h2 => hj j h1 h2, by rw [h7, h.2, all_goT hk ho hko hw]⟩
theorem AC.go {x y z : Cn} {W C S A N n s p : Nat} {T : TT} {H : Nat → TT} {w : Int32} {k o : Nat} (a : AC x y W C S A N n T H) (hs : s < S) (hp : gr y 5 s = some p) (f : EQx y z p) (hk : k < 5) (ho : o < 5) (hko : k ≠ o) (hw : ∀ i, i < 32 → tb w i = true → tb (so T s (7 + k)) i = true) (h7 : gi z p 7 = gi y p 7) (hj : ∀ j, j < 12 → j ≠ 7 → gi z p j = so (goT T s w k o) s j) : AC x z W C S A N n (goT T s w k o) H := by
  have E := a.2.2.2.2
  have hS := E.2.2.1.2.2.2.2.2.2.1 s p hs hp
  have w0 := E.2.2.2.2.2.2.2.2.2.2.2.2.2.2.2.1 s hs
  exact a.ser hs hp f (fun i _ h => goT_off T s w hk ho i h) (hS.go hk ho hko hw h7 hj) (w0.go hk ho hko hw)
set_option maxHeartbeats 2000000 in
theorem v_X7_miss_0 {K : Sh} {x : Cn} {Q : Int32 → Cn → Prop} {b0 : Nat} {l1 : Int32} {l2 : Int32} {b0_2 : Nat} {b0_2_7 : Nat} {n_b0_2_7 : Nat} (k_b0 : kk K b0 = some (7, 0)) (g_b0_2 : gr x b0 2 = some b0_2) (k_b0_2 : kk K b0_2 = some (4, 0)) (g_b0_2_7 : gr x b0_2 7 = some b0_2_7) (k_b0_2_7 : kk K b0_2_7 = some (23, n_b0_2_7)) (K0 : (¬ (0 ≤ l1 ∧ l1 < gi x b0_2 3) → (Q (-2) x)) ∧ ((0 ≤ l1 ∧ l1 < gi x b0_2 3) → (((0 ≤ l2 ∧ l2 < gi x b0_2 0) → (vp_in l1 n_b0_2_7 ∧ (∃ c_4 : Nat, gr x b0_2_7 ((l1 : Int32).toNatClampNeg) = some c_4 ∧ (kk K c_4 = some (5, 0) ∧ (mSI mX5_stateOf [.ref c_4, .int l2] K x (fun r_8 y_7 => (¬ r_8 = 0 → (Q (-6) y_7)) ∧ (r_8 = 0 → (gr y_7 b0 2 = some b0_2 ∧ (((gi y_7 b0_2 1) ≤ l2 → (mSV mX7_remember [.ref b0] K y_7 (fun y_12 => mSI mX5_missesLeft [.ref c_4] K (ui y_12 c_4 9 ((gi y_12 c_4 9) ||| (1 <<< (l2 &&& 31)))) (fun r_14 y_13 => Q r_14 y_13)))) ∧ (¬ (gi y_7 b0_2 1) ≤ l2 → (Q (-6) y_7))))))))))) ∧ (¬ (0 ≤ l2 ∧ l2 < gi x b0_2 0) → (Q (-2) x))))) : mSI mX7_miss [.ref b0, .int l1, .int l2] K x Q := by
  refine s_I (by decide) (by simp [Value.category]) (Nat.le_of_ble_eq_true rfl) ?_
  show mGM mX7_miss 0 [some (.ref b0), some (.int l1), some (.int l2), none] [] (hp K x) (PI K Q)
  refine r_aload_n (pc := 0) dX7_miss_0 rfl ?_
  refine r_iload_n (pc := 1) dX7_miss_1 rfl ?_
  refine s_VI (pc := 2) mX7_isSeries (ci := 7) (a := b0) (As := [.int l1]) dX7_miss_2 lk_X7_132 in_X7_isSeries mo_X7_isSeries ⟨by decide, rfl⟩ ⟨by decide, by decide⟩ (Nat.le_of_ble_eq_true rfl) k_b0 (sp_X7_isSeries k_b0 g_b0_2 k_b0_2 ?_)
  refine r_if_eq (pc := 5) (tgt := 16) dX7_miss_5 (by decide) (fun q => ?_) (fun q => ?_)
  · have q := (b2i_z _).mp q
    have K0 := K0.1 q
    refine r_bipush (pc := 16) (v := (-2)) dX7_miss_16 (by decide) ?_
    exact s_iret rfl dX7_miss_18 K0
  · have q := b2i_nz q
    have K0 := K0.2 q
    refine r_aload_n (pc := 8) dX7_miss_8 rfl ?_
    refine r_iload_n (pc := 9) dX7_miss_9 rfl ?_
    refine s_VI (pc := 10) mX7_isWeek (ci := 7) (a := b0) (As := [.int l2]) dX7_miss_10 lk_X7_167 in_X7_isWeek mo_X7_isWeek ⟨by decide, rfl⟩ ⟨by decide, by decide⟩ (Nat.le_of_ble_eq_true rfl) k_b0 (sp_X7_isWeek k_b0 g_b0_2 k_b0_2 ?_)
    refine r_if_ne (pc := 13) (tgt := 19) dX7_miss_13 (by decide) (fun q => ?_) (fun q => ?_)
    · have q := b2i_nz q
      have K0 := K0.1 q
      refine r_aload_n (pc := 19) dX7_miss_19 rfl ?_
      refine s_getR (pc := 20) dX7_miss_20 fl_X7_20 rfl k_b0 g_b0_2 ?_
      refine s_getR (pc := 23) dX7_miss_23 fl_X7_135 rfl k_b0_2 g_b0_2_7 ?_
      refine r_iload_n (pc := 26) dX7_miss_26 rfl ?_
      obtain ⟨i_3, K0⟩ := K0
      obtain ⟨c_4, g_5, K0⟩ := K0
      refine s_aald (pc := 27) dX7_miss_27 (by decide) rfl k_b0_2_7 i_3 g_5 ?_
      refine r_astore_n (pc := 28) dX7_miss_28 (by decide) ?_
      refine r_aload_n (pc := 29) (L := [some (.ref b0), some (.int l1), some (.int l2), some (.ref c_4)]) dX7_miss_29 rfl ?_
      refine r_iload_n (pc := 30) dX7_miss_30 rfl ?_
      obtain ⟨e_6, K0⟩ := K0
      refine s_VI (pc := 31) mX5_stateOf (ci := 5) (a := c_4) (As := [.int l2]) dX7_miss_31 lk_X7_170 in_X5_stateOf mo_X5_stateOf ⟨by decide, rfl⟩ ⟨by decide, by decide⟩ (Nat.le_of_ble_eq_true rfl) e_6 (mSI_mono K0 (fun r_8 y_7 K0 => ?_))
      refine r_if_ne (pc := 34) (tgt := 48) dX7_miss_34 (by decide) (fun q => ?_) (fun q => ?_)
      · have K0 := K0.1 q
        refine r_bipush (pc := 48) (v := (-6)) dX7_miss_48 (by decide) ?_
        exact s_iret rfl dX7_miss_50 K0
      · have K0 := K0.2 q
        refine r_iload_n (pc := 37) dX7_miss_37 rfl ?_
        refine r_aload_n (pc := 38) dX7_miss_38 rfl ?_
        obtain ⟨g_10, K0⟩ := K0
        refine s_getR (pc := 39) dX7_miss_39 fl_X7_20 rfl k_b0 g_10 ?_
        refine s_getI (pc := 42) dX7_miss_42 fl_X7_103 rfl k_b0_2 ?_
        refine r_icmp_ge (pc := 45) (tgt := 51) dX7_miss_45 (by decide) (fun q => ?_) (fun q => ?_)
        · have K0 := K0.1 q
          refine r_aload_n (pc := 51) dX7_miss_51 rfl ?_
          refine s_VV (pc := 52) mX7_remember (ci := 7) (a := b0) (As := []) dX7_miss_52 lk_X7_333 in_X7_remember mo_X7_remember ⟨by decide, rfl⟩ ⟨by decide, by decide⟩ (Nat.le_of_ble_eq_true rfl) k_b0 (mSV_mono K0 (fun y_12 K0 => ?_))
          refine r_aload_n (pc := 55) dX7_miss_55 rfl ?_
          refine r_dup (pc := 56) dX7_miss_56 rfl ?_
          refine s_getI (pc := 57) dX7_miss_57 fl_X7_266 rfl e_6 ?_
          refine r_iconst (pc := 60) (v := 1) dX7_miss_60 (by decide) ?_
          refine r_iload_n (pc := 61) dX7_miss_61 rfl ?_
          refine r_ishl (pc := 62) dX7_miss_62 ?_
          refine r_ior (pc := 63) dX7_miss_63 ?_
          refine s_putI (pc := 64) dX7_miss_64 fl_X7_266 rfl rfl e_6 ?_
          refine r_aload_n (pc := 67) dX7_miss_67 rfl ?_
          refine s_VI (pc := 68) mX5_missesLeft (ci := 5) (a := c_4) (As := []) dX7_miss_68 lk_X7_242 in_X5_missesLeft mo_X5_missesLeft ⟨by decide, rfl⟩ ⟨by decide, by decide⟩ (Nat.le_of_ble_eq_true rfl) e_6 (mSI_mono K0 (fun r_14 y_13 K0 => ?_))
          exact s_iret rfl dX7_miss_71 K0
        · have K0 := K0.2 q
          refine r_bipush (pc := 48) (v := (-6)) dX7_miss_48 (by decide) ?_
          exact s_iret rfl dX7_miss_50 K0
    · have q := (b2i_z _).mp q
      have K0 := K0.2 q
      refine r_bipush (pc := 16) (v := (-2)) dX7_miss_16 (by decide) ?_
      exact s_iret rfl dX7_miss_18 K0
set_option maxHeartbeats 2000000 in
theorem v_X8_miss_0 {K : Sh} {x : Cn} {Q : Int32 → Cn → Prop} {b0 : Nat} {l1 : Int32} {l2 : Int32} {b0_1 : Nat} {n_b0_1 : Nat} (k_b0 : kk K b0 = some (8, 0)) (g_b0_1 : gr x b0 1 = some b0_1) (k_b0_1 : kk K b0_1 = some (20, n_b0_1)) (K0 : vp_in 2 n_b0_1 ∧ ((¬ (0 ≤ l1 ∧ l1 ≤ gi x b0_1 2 - 1) → (Q (-2) x)) ∧ ((0 ≤ l1 ∧ l1 ≤ gi x b0_1 2 - 1) → (vp_in 0 n_b0_1 ∧ (((0 ≤ l2 ∧ l2 ≤ gi x b0_1 0 - 1) → (mSI mX8_stateOf [.ref b0, .int l1, .int l2] K x (fun r_6 y_5 => (¬ r_6 = 0 → (Q (-6) y_5)) ∧ (r_6 = 0 → (gr y_5 b0 1 = some b0_1 ∧ (vp_in 4 n_b0_1 ∧ (((gi y_5 b0_1 4 ≤ l2) → (mSV mX8_keeps [.ref b0] K y_5 (fun y_11 => mSV mX8_goes [.ref b0, .int l1, .int (1 <<< (l2 &&& 31)), .int 0, .int 2] K y_11 (fun y_12 => mSI mX8_spareOf [.ref b0, .int l1] K y_12 (fun r_14 y_13 => Q r_14 y_13))))) ∧ (¬ (gi y_5 b0_1 4 ≤ l2) → (Q (-6) y_5))))))))) ∧ (¬ (0 ≤ l2 ∧ l2 ≤ gi x b0_1 0 - 1) → (Q (-2) x))))))) : mSI mX8_miss [.ref b0, .int l1, .int l2] K x Q := by
  refine s_I (by decide) (by simp [Value.category]) (Nat.le_of_ble_eq_true rfl) ?_
  show mGM mX8_miss 0 [some (.ref b0), some (.int l1), some (.int l2)] [] (hp K x) (PI K Q)
  refine r_aload_n (pc := 0) dX8_miss_0 rfl ?_
  refine r_iload_n (pc := 1) dX8_miss_1 rfl ?_
  obtain ⟨i_1, K0⟩ := K0
  refine s_VI (pc := 2) mX8_isSeries (ci := 8) (a := b0) (As := [.int l1]) dX8_miss_2 lk_X8_273 in_X8_isSeries mo_X8_isSeries ⟨by decide, rfl⟩ ⟨by decide, by decide⟩ (Nat.le_of_ble_eq_true rfl) k_b0 (sp_X8_isSeries k_b0 g_b0_1 k_b0_1 i_1 ?_)
  refine r_if_eq (pc := 5) (tgt := 16) dX8_miss_5 (by decide) (fun q => ?_) (fun q => ?_)
  · have q := (b2i_z _).mp q
    have K0 := K0.1 q
    refine r_bipush (pc := 16) (v := (-2)) dX8_miss_16 (by decide) ?_
    exact s_iret rfl dX8_miss_18 K0
  · have q := b2i_nz q
    have K0 := K0.2 q
    refine r_aload_n (pc := 8) dX8_miss_8 rfl ?_
    refine r_iload_n (pc := 9) dX8_miss_9 rfl ?_
    obtain ⟨i_3, K0⟩ := K0
    refine s_VI (pc := 10) mX8_isWeek (ci := 8) (a := b0) (As := [.int l2]) dX8_miss_10 lk_X8_57 in_X8_isWeek mo_X8_isWeek ⟨by decide, rfl⟩ ⟨by decide, by decide⟩ (Nat.le_of_ble_eq_true rfl) k_b0 (sp_X8_isWeek k_b0 g_b0_1 k_b0_1 i_3 ?_)
    refine r_if_ne (pc := 13) (tgt := 19) dX8_miss_13 (by decide) (fun q => ?_) (fun q => ?_)
    · have q := b2i_nz q
      have K0 := K0.1 q
      refine r_aload_n (pc := 19) dX8_miss_19 rfl ?_
      refine r_iload_n (pc := 20) dX8_miss_20 rfl ?_
      refine r_iload_n (pc := 21) dX8_miss_21 rfl ?_
      refine s_VI (pc := 22) mX8_stateOf (ci := 8) (a := b0) (As := [.int l1, .int l2]) dX8_miss_22 lk_X8_278 in_X8_stateOf mo_X8_stateOf ⟨by decide, rfl⟩ ⟨by decide, by decide⟩ (Nat.le_of_ble_eq_true rfl) k_b0 (mSI_mono K0 (fun r_6 y_5 K0 => ?_))
      refine r_if_ne (pc := 25) (tgt := 36) dX8_miss_25 (by decide) (fun q => ?_) (fun q => ?_)
      · have K0 := K0.1 q
        refine r_bipush (pc := 36) (v := (-6)) dX8_miss_36 (by decide) ?_
        exact s_iret rfl dX8_miss_38 K0
      · have K0 := K0.2 q
        refine r_aload_n (pc := 28) dX8_miss_28 rfl ?_
        refine r_iload_n (pc := 29) dX8_miss_29 rfl ?_
        obtain ⟨g_8, K0⟩ := K0
        obtain ⟨i_9, K0⟩ := K0
        refine s_VI (pc := 30) mX8_isComing (ci := 8) (a := b0) (As := [.int l2]) dX8_miss_30 lk_X8_363 in_X8_isComing mo_X8_isComing ⟨by decide, rfl⟩ ⟨by decide, by decide⟩ (Nat.le_of_ble_eq_true rfl) k_b0 (sp_X8_isComing k_b0 g_8 k_b0_1 i_9 ?_)
        refine r_if_ne (pc := 33) (tgt := 39) dX8_miss_33 (by decide) (fun q => ?_) (fun q => ?_)
        · have q := b2i_nz q
          have K0 := K0.1 q
          refine r_aload_n (pc := 39) dX8_miss_39 rfl ?_
          refine s_VV (pc := 40) mX8_keeps (ci := 8) (a := b0) (As := []) dX8_miss_40 lk_X8_366 in_X8_keeps mo_X8_keeps ⟨by decide, rfl⟩ ⟨by decide, by decide⟩ (Nat.le_of_ble_eq_true rfl) k_b0 (mSV_mono K0 (fun y_11 K0 => ?_))
          refine r_aload_n (pc := 43) dX8_miss_43 rfl ?_
          refine r_iload_n (pc := 44) dX8_miss_44 rfl ?_
          refine r_iconst (pc := 45) (v := 1) dX8_miss_45 (by decide) ?_
          refine r_iload_n (pc := 46) dX8_miss_46 rfl ?_
          refine r_ishl (pc := 47) dX8_miss_47 ?_
          refine r_iconst (pc := 48) (v := 0) dX8_miss_48 (by decide) ?_
          refine r_iconst (pc := 49) (v := 2) dX8_miss_49 (by decide) ?_
          refine s_VV (pc := 50) mX8_goes (ci := 8) (a := b0) (As := [.int l1, .int (1 <<< (l2 &&& 31)), .int 0, .int 2]) dX8_miss_50 lk_X8_369 in_X8_goes mo_X8_goes ⟨by decide, rfl⟩ ⟨by decide, by decide⟩ (Nat.le_of_ble_eq_true rfl) k_b0 (mSV_mono K0 (fun y_12 K0 => ?_))
          refine r_aload_n (pc := 53) dX8_miss_53 rfl ?_
          refine r_iload_n (pc := 54) dX8_miss_54 rfl ?_
          refine s_VI (pc := 55) mX8_spareOf (ci := 8) (a := b0) (As := [.int l1]) dX8_miss_55 lk_X8_308 in_X8_spareOf mo_X8_spareOf ⟨by decide, rfl⟩ ⟨by decide, by decide⟩ (Nat.le_of_ble_eq_true rfl) k_b0 (mSI_mono K0 (fun r_14 y_13 K0 => ?_))
          exact s_iret rfl dX8_miss_58 K0
        · have q := (b2i_z _).mp q
          have K0 := K0.2 q
          refine r_bipush (pc := 36) (v := (-6)) dX8_miss_36 (by decide) ?_
          exact s_iret rfl dX8_miss_38 K0
    · have q := (b2i_z _).mp q
      have K0 := K0.2 q
      refine r_bipush (pc := 16) (v := (-2)) dX8_miss_16 (by decide) ?_
      exact s_iret rfl dX8_miss_18 K0
section
variable {y : Cn} {Q : Int32 → Cn → Prop} {T : TT} {W C S A N n : Nat} {H : Nat → TT}
theorem sq_X8_miss {a b : Int32} (r : RS y T n H) (F : WF T W C S A N) (k1 : ¬ ((0 ≤ a ∧ a < nI S) ∧ (0 ≤ b ∧ b < nI W)) → Q (-2) y) (k2 : (0 ≤ a ∧ a < nI S) → (0 ≤ b ∧ b < nI W) → ¬ (stt T a.toNatClampNeg b.toNatClampNeg = 0 ∧ nI N ≤ b) → Q (-6) y) (k3 : (0 ≤ a ∧ a < nI S) → (0 ≤ b ∧ b < nI W) → stt T a.toNatClampNeg b.toNatClampNeg = 0 → nI N ≤ b → ∀ z, RFr y z → RS z (goT T a.toNatClampNeg (wb b) 0 2) (pn n) (push H n T) → Q (sprT (goT T a.toNatClampNeg (wb b) 0 2) a.toNatClampNeg) z) : mSI mX8_miss [.ref 717, .int a, .int b] KW y Q := by
  have hS : S ≤ 24 := F.2.2.2.2.2.2.1
  have hW : W ≤ 30 := F.2.2.1
  have M := r.1
  refine v_X8_miss_0 km M.1 km1 ⟨v0 (k := 2) (by decide) rfl rfl, ?_⟩
  rw [r.2.1, F.2.2.2.2.2.1, F.1, inN' (by omega), inN' (by omega)]
  refine ⟨fun z => k1 (fun u => z u.1), fun z1 => ⟨v0 (k := 0) (by decide) rfl rfl, fun z2 => ?_, fun z => k1 (fun u => z u.2)⟩⟩
  have k2 := k2 z1 z2
  have k3 := k3 z1 z2
  obtain ⟨s, hs, rfl⟩ := inN (by omega) z1
  obtain ⟨w, hw, rfl⟩ := inN (by omega) z2
  rw [nI_clamp (by omega), nI_clamp (by omega)] at k2
  rw [nI_clamp (by omega), nI_clamp (by omega)] at k3
  refine sp_X8_stateOf (by omega) (by omega) M km1 ?_
  rw [r.2.1, F.2.2.2.2.2.2.2.2.2.1]
  refine ⟨fun u => k2 (fun v => u v.1), fun u => ⟨M.1, v0 (k := 4) (by decide) rfl rfl, fun u2 => ?_, fun u2 => k2 (fun v => u2 v.2)⟩⟩
  refine r.keeps (fun z f1 r1 => sp_X8_goes (k := 0) (o := 2) r1 (by omega) (by decide) (by decide) (by decide) (fun v f2 r2 => ?_))
  refine sp_X8_spareOf r2.1 km1 (by omega) ?_
  rw [r2.2.1]
  exact k3 u u2 v (f1.tr f2) r2
end
set_option maxHeartbeats 2000000 in
theorem v_X7_excuse_0 {K : Sh} {x : Cn} {Q : Int32 → Cn → Prop} {b0 : Nat} {l1 : Int32} {l2 : Int32} {b0_2 : Nat} {b0_2_7 : Nat} {n_b0_2_7 : Nat} (k_b0 : kk K b0 = some (7, 0)) (g_b0_2 : gr x b0 2 = some b0_2) (k_b0_2 : kk K b0_2 = some (4, 0)) (g_b0_2_7 : gr x b0_2 7 = some b0_2_7) (k_b0_2_7 : kk K b0_2_7 = some (23, n_b0_2_7)) (K0 : (¬ (0 ≤ l1 ∧ l1 < gi x b0_2 3) → (Q (-2) x)) ∧ ((0 ≤ l1 ∧ l1 < gi x b0_2 3) → (((0 ≤ l2 ∧ l2 < gi x b0_2 0) → (vp_in l1 n_b0_2_7 ∧ (∃ c_4 : Nat, gr x b0_2_7 ((l1 : Int32).toNatClampNeg) = some c_4 ∧ (kk K c_4 = some (5, 0) ∧ (mSI mX5_stateOf [.ref c_4, .int l2] K x (fun r_8 y_7 => (r_8 = 2 → (mSV mX7_remember [.ref b0] K y_7 (fun y_10 => ∀ r_11 : Int32, r_11 = gi (ui y_10 c_4 9 ((gi y_10 c_4 9) &&& ((1 <<< (l2 &&& 31)) ^^^ (-1)))) c_4 10 → (Q (nI (cpt (gi (ui (ui y_10 c_4 9 ((gi y_10 c_4 9) &&& ((1 <<< (l2 &&& 31)) ^^^ (-1)))) c_4 10 (r_11 ||| (1 <<< (l2 &&& 31)))) c_4 8 ||| gi (ui (ui y_10 c_4 9 ((gi y_10 c_4 9) &&& ((1 <<< (l2 &&& 31)) ^^^ (-1)))) c_4 10 (r_11 ||| (1 <<< (l2 &&& 31)))) c_4 10))) (ui (ui y_10 c_4 9 ((gi y_10 c_4 9) &&& ((1 <<< (l2 &&& 31)) ^^^ (-1)))) c_4 10 (r_11 ||| (1 <<< (l2 &&& 31)))))))) ∧ (¬ r_8 = 2 → ((r_8 = 0 → (mSV mX7_remember [.ref b0] K y_7 (fun y_14 => ∀ r_15 : Int32, r_15 = gi (ui y_14 c_4 9 ((gi y_14 c_4 9) &&& ((1 <<< (l2 &&& 31)) ^^^ (-1)))) c_4 10 → (Q (nI (cpt (gi (ui (ui y_14 c_4 9 ((gi y_14 c_4 9) &&& ((1 <<< (l2 &&& 31)) ^^^ (-1)))) c_4 10 (r_15 ||| (1 <<< (l2 &&& 31)))) c_4 8 ||| gi (ui (ui y_14 c_4 9 ((gi y_14 c_4 9) &&& ((1 <<< (l2 &&& 31)) ^^^ (-1)))) c_4 10 (r_15 ||| (1 <<< (l2 &&& 31)))) c_4 10))) (ui (ui y_14 c_4 9 ((gi y_14 c_4 9) &&& ((1 <<< (l2 &&& 31)) ^^^ (-1)))) c_4 10 (r_15 ||| (1 <<< (l2 &&& 31)))))))) ∧ (¬ r_8 = 0 → (Q (-6) y_7)))))))))) ∧ (¬ (0 ≤ l2 ∧ l2 < gi x b0_2 0) → (Q (-2) x))))) : mSI mX7_excuse [.ref b0, .int l1, .int l2] K x Q := by
  refine s_I (by decide) (by simp [Value.category]) (Nat.le_of_ble_eq_true rfl) ?_
  show mGM mX7_excuse 0 [some (.ref b0), some (.int l1), some (.int l2), none, none] [] (hp K x) (PI K Q)
  refine r_aload_n (pc := 0) dX7_excuse_0 rfl ?_
  refine r_iload_n (pc := 1) dX7_excuse_1 rfl ?_
  refine s_VI (pc := 2) mX7_isSeries (ci := 7) (a := b0) (As := [.int l1]) dX7_excuse_2 lk_X7_132 in_X7_isSeries mo_X7_isSeries ⟨by decide, rfl⟩ ⟨by decide, by decide⟩ (Nat.le_of_ble_eq_true rfl) k_b0 (sp_X7_isSeries k_b0 g_b0_2 k_b0_2 ?_)
  refine r_if_eq (pc := 5) (tgt := 16) dX7_excuse_5 (by decide) (fun q => ?_) (fun q => ?_)
  · have q := (b2i_z _).mp q
    have K0 := K0.1 q
    refine r_bipush (pc := 16) (v := (-2)) dX7_excuse_16 (by decide) ?_
    exact s_iret rfl dX7_excuse_18 K0
  · have q := b2i_nz q
    have K0 := K0.2 q
    refine r_aload_n (pc := 8) dX7_excuse_8 rfl ?_
    refine r_iload_n (pc := 9) dX7_excuse_9 rfl ?_
    refine s_VI (pc := 10) mX7_isWeek (ci := 7) (a := b0) (As := [.int l2]) dX7_excuse_10 lk_X7_167 in_X7_isWeek mo_X7_isWeek ⟨by decide, rfl⟩ ⟨by decide, by decide⟩ (Nat.le_of_ble_eq_true rfl) k_b0 (sp_X7_isWeek k_b0 g_b0_2 k_b0_2 ?_)
    refine r_if_ne (pc := 13) (tgt := 19) dX7_excuse_13 (by decide) (fun q => ?_) (fun q => ?_)
    · have q := b2i_nz q
      have K0 := K0.1 q
      refine r_aload_n (pc := 19) dX7_excuse_19 rfl ?_
      refine s_getR (pc := 20) dX7_excuse_20 fl_X7_20 rfl k_b0 g_b0_2 ?_
      refine s_getR (pc := 23) dX7_excuse_23 fl_X7_135 rfl k_b0_2 g_b0_2_7 ?_
      refine r_iload_n (pc := 26) dX7_excuse_26 rfl ?_
      obtain ⟨i_3, K0⟩ := K0
      obtain ⟨c_4, g_5, K0⟩ := K0
      refine s_aald (pc := 27) dX7_excuse_27 (by decide) rfl k_b0_2_7 i_3 g_5 ?_
      refine r_astore_n (pc := 28) dX7_excuse_28 (by decide) ?_
      refine r_aload_n (pc := 29) (L := [some (.ref b0), some (.int l1), some (.int l2), some (.ref c_4), none]) dX7_excuse_29 rfl ?_
      refine r_iload_n (pc := 30) dX7_excuse_30 rfl ?_
      obtain ⟨e_6, K0⟩ := K0
      refine s_VI (pc := 31) mX5_stateOf (ci := 5) (a := c_4) (As := [.int l2]) dX7_excuse_31 lk_X7_170 in_X5_stateOf mo_X5_stateOf ⟨by decide, rfl⟩ ⟨by decide, by decide⟩ (Nat.le_of_ble_eq_true rfl) e_6 (mSI_mono K0 (fun r_8 y_7 K0 => ?_))
      refine r_istore (pc := 34) dX7_excuse_34 (by decide) ?_
      refine r_iload (pc := 36) (L := [some (.ref b0), some (.int l1), some (.int l2), some (.ref c_4), some (.int r_8)]) dX7_excuse_36 rfl ?_
      refine r_iconst (pc := 38) (v := 2) dX7_excuse_38 (by decide) ?_
      refine r_icmp_eq (pc := 39) (tgt := 50) dX7_excuse_39 (by decide) (fun q => ?_) (fun q => ?_)
      · have K0 := K0.1 q
        refine r_aload_n (pc := 50) dX7_excuse_50 rfl ?_
        refine s_VV (pc := 51) mX7_remember (ci := 7) (a := b0) (As := []) dX7_excuse_51 lk_X7_333 in_X7_remember mo_X7_remember ⟨by decide, rfl⟩ ⟨by decide, by decide⟩ (Nat.le_of_ble_eq_true rfl) k_b0 (mSV_mono K0 (fun y_10 K0 => ?_))
        refine r_aload_n (pc := 54) dX7_excuse_54 rfl ?_
        refine r_dup (pc := 55) dX7_excuse_55 rfl ?_
        refine s_getI (pc := 56) dX7_excuse_56 fl_X7_266 rfl e_6 ?_
        refine r_iconst (pc := 59) (v := 1) dX7_excuse_59 (by decide) ?_
        refine r_iload_n (pc := 60) dX7_excuse_60 rfl ?_
        refine r_ishl (pc := 61) dX7_excuse_61 ?_
        refine r_iconst (pc := 62) (v := (-1)) dX7_excuse_62 (by decide) ?_
        refine r_ixor (pc := 63) dX7_excuse_63 ?_
        refine r_iand (pc := 64) dX7_excuse_64 ?_
        refine s_putI (pc := 65) dX7_excuse_65 fl_X7_266 rfl rfl e_6 ?_
        refine r_aload_n (pc := 68) dX7_excuse_68 rfl ?_
        refine r_dup (pc := 69) dX7_excuse_69 rfl ?_
        refine s_getI (pc := 70) dX7_excuse_70 fl_X7_336 rfl e_6 ?_
        obtain ⟨r_11, w_12⟩ : ∃ z : Int32, z = gi (ui y_10 c_4 9 ((gi y_10 c_4 9) &&& ((1 <<< (l2 &&& 31)) ^^^ (-1)))) c_4 10 := ⟨_, rfl⟩
        rw [← w_12]
        have K0 := K0 r_11 w_12
        refine r_iconst (pc := 73) (v := 1) dX7_excuse_73 (by decide) ?_
        refine r_iload_n (pc := 74) dX7_excuse_74 rfl ?_
        refine r_ishl (pc := 75) dX7_excuse_75 ?_
        refine r_ior (pc := 76) dX7_excuse_76 ?_
        refine s_putI (pc := 77) dX7_excuse_77 fl_X7_336 rfl rfl e_6 ?_
        refine r_aload_n (pc := 80) dX7_excuse_80 rfl ?_
        refine s_VI (pc := 81) mX5_good (ci := 5) (a := c_4) (As := []) dX7_excuse_81 lk_X7_233 in_X5_good mo_X5_good ⟨by decide, rfl⟩ ⟨by decide, by decide⟩ (Nat.le_of_ble_eq_true rfl) e_6 (sp_X5_good e_6 ?_)
        exact s_iret rfl dX7_excuse_84 K0
      · have K0 := K0.2 q
        refine r_iload (pc := 42) dX7_excuse_42 rfl ?_
        refine r_if_eq (pc := 44) (tgt := 50) dX7_excuse_44 (by decide) (fun q => ?_) (fun q => ?_)
        · have K0 := K0.1 q
          refine r_aload_n (pc := 50) dX7_excuse_50 rfl ?_
          refine s_VV (pc := 51) mX7_remember (ci := 7) (a := b0) (As := []) dX7_excuse_51 lk_X7_333 in_X7_remember mo_X7_remember ⟨by decide, rfl⟩ ⟨by decide, by decide⟩ (Nat.le_of_ble_eq_true rfl) k_b0 (mSV_mono K0 (fun y_14 K0 => ?_))
          refine r_aload_n (pc := 54) dX7_excuse_54 rfl ?_
          refine r_dup (pc := 55) dX7_excuse_55 rfl ?_
          refine s_getI (pc := 56) dX7_excuse_56 fl_X7_266 rfl e_6 ?_
          refine r_iconst (pc := 59) (v := 1) dX7_excuse_59 (by decide) ?_
          refine r_iload_n (pc := 60) dX7_excuse_60 rfl ?_
          refine r_ishl (pc := 61) dX7_excuse_61 ?_
          refine r_iconst (pc := 62) (v := (-1)) dX7_excuse_62 (by decide) ?_
          refine r_ixor (pc := 63) dX7_excuse_63 ?_
          refine r_iand (pc := 64) dX7_excuse_64 ?_
          refine s_putI (pc := 65) dX7_excuse_65 fl_X7_266 rfl rfl e_6 ?_
          refine r_aload_n (pc := 68) dX7_excuse_68 rfl ?_
          refine r_dup (pc := 69) dX7_excuse_69 rfl ?_
          refine s_getI (pc := 70) dX7_excuse_70 fl_X7_336 rfl e_6 ?_
          obtain ⟨r_15, w_16⟩ : ∃ z : Int32, z = gi (ui y_14 c_4 9 ((gi y_14 c_4 9) &&& ((1 <<< (l2 &&& 31)) ^^^ (-1)))) c_4 10 := ⟨_, rfl⟩
          rw [← w_16]
          have K0 := K0 r_15 w_16
          refine r_iconst (pc := 73) (v := 1) dX7_excuse_73 (by decide) ?_
          refine r_iload_n (pc := 74) dX7_excuse_74 rfl ?_
          refine r_ishl (pc := 75) dX7_excuse_75 ?_
          refine r_ior (pc := 76) dX7_excuse_76 ?_
          refine s_putI (pc := 77) dX7_excuse_77 fl_X7_336 rfl rfl e_6 ?_
          refine r_aload_n (pc := 80) dX7_excuse_80 rfl ?_
          refine s_VI (pc := 81) mX5_good (ci := 5) (a := c_4) (As := []) dX7_excuse_81 lk_X7_233 in_X5_good mo_X5_good ⟨by decide, rfl⟩ ⟨by decide, by decide⟩ (Nat.le_of_ble_eq_true rfl) e_6 (sp_X5_good e_6 ?_)
          exact s_iret rfl dX7_excuse_84 K0
        · have K0 := K0.2 q
          refine r_bipush (pc := 47) (v := (-6)) dX7_excuse_47 (by decide) ?_
          exact s_iret rfl dX7_excuse_49 K0
    · have q := (b2i_z _).mp q
      have K0 := K0.2 q
      refine r_bipush (pc := 16) (v := (-2)) dX7_excuse_16 (by decide) ?_
      exact s_iret rfl dX7_excuse_18 K0

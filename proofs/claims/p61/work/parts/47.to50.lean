/-! 47.acts1.lean.txt -/
section
abbrev wb (b : Int32) : Int32 := 1 <<< (b &&& 31)
theorem wb_in {T : TT} {s w k : Nat} (hw : w < 32) (h : tb (so T s (7 + k)) w = true) : ∀ i, i < 32 → tb (wb (nI w)) i = true → tb (so T s (7 + k)) i = true := fun i hi e => by
  rw [tb_one w hw i hi, decide_eq_true_eq] at e
  rw [e]; exact h
theorem an_dis {b v : Int32} (h : ∀ i, i < 32 → tb b i = true → ¬ tb v i = true) : v &&& (b ^^^ (-1)) = v := by
  apply tb_ext
  intro i hi
  rw [tb_and, tb_not _ hi]
  cases c : tb b i with
  | true => rw [Bool.eq_false_iff.mpr (h i hi c)]; rfl
  | false => simp
theorem goT_nm (T : TT) (s : Nat) (w : Int32) (k o c : Nat) (hc : c < 8) : goT T s w k o (54 + c) = T (54 + c) := by
  unfold goT
  rw [uT_ne _ _ (by omega), uT_ne _ _ (by omega)]
theorem SER.go {x y : Cn} {p s : Nat} {T : TT} {w : Int32} {k o : Nat} (h : SER x p T s) (hk : k < 5) (ho : o < 5) (hko : k ≠ o) (hw : ∀ i, i < 32 → tb w i = true → tb (so T s (7 + k)) i = true) (h7 : gi y p 7 = gi x p 7) (hj : ∀ j, j < 12 → j ≠ 7 → gi y p j = so (goT T s w k o) s j) : SER y p (goT T s w k o) s := ⟨fun j h1 h2 => hj j h1 h2, by rw [h7, h.2, all_goT hk ho hko hw]⟩
theorem AC.go {x y z : Cn} {W C S A N n s p : Nat} {T : TT} {H : Nat → TT} {w : Int32} {k o : Nat} (a : AC x y W C S A N n T H) (hs : s < S) (hp : gr y 5 s = some p) (f : EQx y z p) (hk : k < 5) (ho : o < 5) (hko : k ≠ o) (hw : ∀ i, i < 32 → tb w i = true → tb (so T s (7 + k)) i = true) (h7 : gi z p 7 = gi y p 7) (hj : ∀ j, j < 12 → j ≠ 7 → gi z p j = so (goT T s w k o) s j) : AC x z W C S A N n (goT T s w k o) H := by
  have E := a.2.2.2.2
  have hS := E.2.2.1.2.2.2.2.2.2.1 s p hs hp
  have w0 := E.2.2.2.2.2.2.2.2.2.2.2.2.2.2.2.1 s hs
  exact a.ser hs hp f (fun i _ h => goT_off T s w hk ho i h) (hS.go hk ho hko hw h7 hj) (w0.go hk ho hko hw)
set_option maxHeartbeats 2000000 in
theorem v_X7_miss_0 {K : Sh} {x : Cn} {Q : Int32 → Cn → Prop} {b0 : Nat} {l1 : Int32} {l2 : Int32} {b0_2 : Nat} {b0_2_7 : Nat} {n_b0_2_7 : Nat} (k_b0 : kk K b0 = some (7, 0)) (g_b0_2 : gr x b0 2 = some b0_2) (k_b0_2 : kk K b0_2 = some (4, 0)) (g_b0_2_7 : gr x b0_2 7 = some b0_2_7) (k_b0_2_7 : kk K b0_2_7 = some (23, n_b0_2_7)) (K0 : (¬ (0 ≤ l1 ∧ l1 < gi x b0_2 3) → (Q (-2) x)) ∧ ((0 ≤ l1 ∧ l1 < gi x b0_2 3) → (((0 ≤ l2 ∧ l2 < gi x b0_2 0) → (vp_in l1 n_b0_2_7 ∧ (∃ c_4 : Nat, gr x b0_2_7 ((l1 : Int32).toNatClampNeg) = some c_4 ∧ (kk K c_4 = some (5, 0) ∧ (mSI mX5_stateOf [.ref c_4, .int l2] K x (fun r_8 y_7 => (¬ r_8 = 0 → (Q (-6) y_7)) ∧ (r_8 = 0 → (gr y_7 b0 2 = some b0_2 ∧ (((gi y_7 b0_2 1) ≤ l2 → (mSV mX7_remember [.ref b0] K y_7 (fun y_12 => mSI mX5_missesLeft [.ref c_4] K (ui y_12 c_4 9 ((gi y_12 c_4 9) ||| (1 <<< (l2 &&& 31)))) (fun r_14 y_13 => Q r_14 y_13)))) ∧ (¬ (gi y_7 b0_2 1) ≤ l2 → (Q (-6) y_7))))))))))) ∧ (¬ (0 ≤ l2 ∧ l2 < gi x b0_2 0) → (Q (-2) x))))) : mSI mX7_miss [.ref b0, .int l1, .int l2] K x Q := by
  refine s_I (by decide) (by simp [Value.category]) (Nat.le_of_ble_eq_true rfl) ?_
  show mGM mX7_miss 0 [some (.ref b0), some (.int l1), some (.int l2), none] [] (hp K x) (PI K Q)
  refine r_aload_n (pc := 0) dX7_miss_0 rfl ?_
  refine r_iload_n (pc := 1) dX7_miss_1 rfl ?_
  refine s_VI (pc := 2) mX7_isSeries (ci := 7) (a := b0) (As := [.int l1]) dX7_miss_2 lk_X7_132 in_X7_isSeries mo_X7_isSeries ⟨by decide, rfl⟩ ⟨by decide, by decide⟩ (Nat.le_of_ble_eq_true rfl) k_b0 (sp_X7_isSeries k_b0 g_b0_2 k_b0_2 ?_)
  refine r_if_eq (pc := 5) (tgt := 16) dX7_miss_5 (by decide) (fun q => ?_) (fun q => ?_)
  · have q := (b2i_z _).mp q
    have K0 := K0.1 q
    refine r_bipush (pc := 16) (v := (-2)) dX7_miss_16 (by decide) ?_
    exact s_iret rfl dX7_miss_18 K0
  · have q := b2i_nz q
    have K0 := K0.2 q
    refine r_aload_n (pc := 8) dX7_miss_8 rfl ?_
    refine r_iload_n (pc := 9) dX7_miss_9 rfl ?_
    refine s_VI (pc := 10) mX7_isWeek (ci := 7) (a := b0) (As := [.int l2]) dX7_miss_10 lk_X7_167 in_X7_isWeek mo_X7_isWeek ⟨by decide, rfl⟩ ⟨by decide, by decide⟩ (Nat.le_of_ble_eq_true rfl) k_b0 (sp_X7_isWeek k_b0 g_b0_2 k_b0_2 ?_)
    refine r_if_ne (pc := 13) (tgt := 19) dX7_miss_13 (by decide) (fun q => ?_) (fun q => ?_)
    · have q := b2i_nz q
      have K0 := K0.1 q
      refine r_aload_n (pc := 19) dX7_miss_19 rfl ?_
      refine s_getR (pc := 20) dX7_miss_20 fl_X7_20 rfl k_b0 g_b0_2 ?_
      refine s_getR (pc := 23) dX7_miss_23 fl_X7_135 rfl k_b0_2 g_b0_2_7 ?_
      refine r_iload_n (pc := 26) dX7_miss_26 rfl ?_
      obtain ⟨i_3, K0⟩ := K0
      obtain ⟨c_4, g_5, K0⟩ := K0
      refine s_aald (pc := 27) dX7_miss_27 (by decide) rfl k_b0_2_7 i_3 g_5 ?_
      refine r_astore_n (pc := 28) dX7_miss_28 (by decide) ?_
      refine r_aload_n (pc := 29) (L := [some (.ref b0), some (.int l1), some (.int l2), some (.ref c_4)]) dX7_miss_29 rfl ?_
      refine r_iload_n (pc := 30) dX7_miss_30 rfl ?_
      obtain ⟨e_6, K0⟩ := K0
      refine s_VI (pc := 31) mX5_stateOf (ci := 5) (a := c_4) (As := [.int l2]) dX7_miss_31 lk_X7_170 in_X5_stateOf mo_X5_stateOf ⟨by decide, rfl⟩ ⟨by decide, by decide⟩ (Nat.le_of_ble_eq_true rfl) e_6 (mSI_mono K0 (fun r_8 y_7 K0 => ?_))
      refine r_if_ne (pc := 34) (tgt := 48) dX7_miss_34 (by decide) (fun q => ?_) (fun q => ?_)
      · have K0 := K0.1 q
        refine r_bipush (pc := 48) (v := (-6)) dX7_miss_48 (by decide) ?_
        exact s_iret rfl dX7_miss_50 K0
      · have K0 := K0.2 q
        refine r_iload_n (pc := 37) dX7_miss_37 rfl ?_
        refine r_aload_n (pc := 38) dX7_miss_38 rfl ?_
        obtain ⟨g_10, K0⟩ := K0
        refine s_getR (pc := 39) dX7_miss_39 fl_X7_20 rfl k_b0 g_10 ?_
        refine s_getI (pc := 42) dX7_miss_42 fl_X7_103 rfl k_b0_2 ?_
        refine r_icmp_ge (pc := 45) (tgt := 51) dX7_miss_45 (by decide) (fun q => ?_) (fun q => ?_)
        · have K0 := K0.1 q
          refine r_aload_n (pc := 51) dX7_miss_51 rfl ?_
          refine s_VV (pc := 52) mX7_remember (ci := 7) (a := b0) (As := []) dX7_miss_52 lk_X7_333 in_X7_remember mo_X7_remember ⟨by decide, rfl⟩ ⟨by decide, by decide⟩ (Nat.le_of_ble_eq_true rfl) k_b0 (mSV_mono K0 (fun y_12 K0 => ?_))
          refine r_aload_n (pc := 55) dX7_miss_55 rfl ?_
          refine r_dup (pc := 56) dX7_miss_56 rfl ?_
          refine s_getI (pc := 57) dX7_miss_57 fl_X7_266 rfl e_6 ?_
          refine r_iconst (pc := 60) (v := 1) dX7_miss_60 (by decide) ?_
          refine r_iload_n (pc := 61) dX7_miss_61 rfl ?_
          refine r_ishl (pc := 62) dX7_miss_62 ?_
          refine r_ior (pc := 63) dX7_miss_63 ?_
          refine s_putI (pc := 64) dX7_miss_64 fl_X7_266 rfl rfl e_6 ?_
          refine r_aload_n (pc := 67) dX7_miss_67 rfl ?_
          refine s_VI (pc := 68) mX5_missesLeft (ci := 5) (a := c_4) (As := []) dX7_miss_68 lk_X7_242 in_X5_missesLeft mo_X5_missesLeft ⟨by decide, rfl⟩ ⟨by decide, by decide⟩ (Nat.le_of_ble_eq_true rfl) e_6 (mSI_mono K0 (fun r_14 y_13 K0 => ?_))
          exact s_iret rfl dX7_miss_71 K0
        · have K0 := K0.2 q
          refine r_bipush (pc := 48) (v := (-6)) dX7_miss_48 (by decide) ?_
          exact s_iret rfl dX7_miss_50 K0
    · have q := (b2i_z _).mp q
      have K0 := K0.2 q
      refine r_bipush (pc := 16) (v := (-2)) dX7_miss_16 (by decide) ?_
      exact s_iret rfl dX7_miss_18 K0
set_option maxHeartbeats 2000000 in
theorem v_X8_miss_0 {K : Sh} {x : Cn} {Q : Int32 → Cn → Prop} {b0 : Nat} {l1 : Int32} {l2 : Int32} {b0_1 : Nat} {n_b0_1 : Nat} (k_b0 : kk K b0 = some (8, 0)) (g_b0_1 : gr x b0 1 = some b0_1) (k_b0_1 : kk K b0_1 = some (20, n_b0_1)) (K0 : vp_in 2 n_b0_1 ∧ ((¬ (0 ≤ l1 ∧ l1 ≤ gi x b0_1 2 - 1) → (Q (-2) x)) ∧ ((0 ≤ l1 ∧ l1 ≤ gi x b0_1 2 - 1) → (vp_in 0 n_b0_1 ∧ (((0 ≤ l2 ∧ l2 ≤ gi x b0_1 0 - 1) → (mSI mX8_stateOf [.ref b0, .int l1, .int l2] K x (fun r_6 y_5 => (¬ r_6 = 0 → (Q (-6) y_5)) ∧ (r_6 = 0 → (gr y_5 b0 1 = some b0_1 ∧ (vp_in 4 n_b0_1 ∧ (((gi y_5 b0_1 4 ≤ l2) → (mSV mX8_keeps [.ref b0] K y_5 (fun y_11 => mSV mX8_goes [.ref b0, .int l1, .int (1 <<< (l2 &&& 31)), .int 0, .int 2] K y_11 (fun y_12 => mSI mX8_spareOf [.ref b0, .int l1] K y_12 (fun r_14 y_13 => Q r_14 y_13))))) ∧ (¬ (gi y_5 b0_1 4 ≤ l2) → (Q (-6) y_5))))))))) ∧ (¬ (0 ≤ l2 ∧ l2 ≤ gi x b0_1 0 - 1) → (Q (-2) x))))))) : mSI mX8_miss [.ref b0, .int l1, .int l2] K x Q := by
  refine s_I (by decide) (by simp [Value.category]) (Nat.le_of_ble_eq_true rfl) ?_
  show mGM mX8_miss 0 [some (.ref b0), some (.int l1), some (.int l2)] [] (hp K x) (PI K Q)
  refine r_aload_n (pc := 0) dX8_miss_0 rfl ?_
  refine r_iload_n (pc := 1) dX8_miss_1 rfl ?_
  obtain ⟨i_1, K0⟩ := K0
  refine s_VI (pc := 2) mX8_isSeries (ci := 8) (a := b0) (As := [.int l1]) dX8_miss_2 lk_X8_273 in_X8_isSeries mo_X8_isSeries ⟨by decide, rfl⟩ ⟨by decide, by decide⟩ (Nat.le_of_ble_eq_true rfl) k_b0 (sp_X8_isSeries k_b0 g_b0_1 k_b0_1 i_1 ?_)
  refine r_if_eq (pc := 5) (tgt := 16) dX8_miss_5 (by decide) (fun q => ?_) (fun q => ?_)
  · have q := (b2i_z _).mp q
    have K0 := K0.1 q
    refine r_bipush (pc := 16) (v := (-2)) dX8_miss_16 (by decide) ?_
    exact s_iret rfl dX8_miss_18 K0
  · have q := b2i_nz q
    have K0 := K0.2 q
    refine r_aload_n (pc := 8) dX8_miss_8 rfl ?_
    refine r_iload_n (pc := 9) dX8_miss_9 rfl ?_
    obtain ⟨i_3, K0⟩ := K0
    refine s_VI (pc := 10) mX8_isWeek (ci := 8) (a := b0) (As := [.int l2]) dX8_miss_10 lk_X8_57 in_X8_isWeek mo_X8_isWeek ⟨by decide, rfl⟩ ⟨by decide, by decide⟩ (Nat.le_of_ble_eq_true rfl) k_b0 (sp_X8_isWeek k_b0 g_b0_1 k_b0_1 i_3 ?_)
    refine r_if_ne (pc := 13) (tgt := 19) dX8_miss_13 (by decide) (fun q => ?_) (fun q => ?_)
    · have q := b2i_nz q
      have K0 := K0.1 q
      refine r_aload_n (pc := 19) dX8_miss_19 rfl ?_
      refine r_iload_n (pc := 20) dX8_miss_20 rfl ?_
      refine r_iload_n (pc := 21) dX8_miss_21 rfl ?_
      refine s_VI (pc := 22) mX8_stateOf (ci := 8) (a := b0) (As := [.int l1, .int l2]) dX8_miss_22 lk_X8_278 in_X8_stateOf mo_X8_stateOf ⟨by decide, rfl⟩ ⟨by decide, by decide⟩ (Nat.le_of_ble_eq_true rfl) k_b0 (mSI_mono K0 (fun r_6 y_5 K0 => ?_))
      refine r_if_ne (pc := 25) (tgt := 36) dX8_miss_25 (by decide) (fun q => ?_) (fun q => ?_)
      · have K0 := K0.1 q
        refine r_bipush (pc := 36) (v := (-6)) dX8_miss_36 (by decide) ?_
        exact s_iret rfl dX8_miss_38 K0
      · have K0 := K0.2 q
        refine r_aload_n (pc := 28) dX8_miss_28 rfl ?_
        refine r_iload_n (pc := 29) dX8_miss_29 rfl ?_
        obtain ⟨g_8, K0⟩ := K0
        obtain ⟨i_9, K0⟩ := K0
        refine s_VI (pc := 30) mX8_isComing (ci := 8) (a := b0) (As := [.int l2]) dX8_miss_30 lk_X8_363 in_X8_isComing mo_X8_isComing ⟨by decide, rfl⟩ ⟨by decide, by decide⟩ (Nat.le_of_ble_eq_true rfl) k_b0 (sp_X8_isComing k_b0 g_8 k_b0_1 i_9 ?_)
        refine r_if_ne (pc := 33) (tgt := 39) dX8_miss_33 (by decide) (fun q => ?_) (fun q => ?_)
        · have q := b2i_nz q
          have K0 := K0.1 q
          refine r_aload_n (pc := 39) dX8_miss_39 rfl ?_
          refine s_VV (pc := 40) mX8_keeps (ci := 8) (a := b0) (As := []) dX8_miss_40 lk_X8_366 in_X8_keeps mo_X8_keeps ⟨by decide, rfl⟩ ⟨by decide, by decide⟩ (Nat.le_of_ble_eq_true rfl) k_b0 (mSV_mono K0 (fun y_11 K0 => ?_))
          refine r_aload_n (pc := 43) dX8_miss_43 rfl ?_
          refine r_iload_n (pc := 44) dX8_miss_44 rfl ?_
          refine r_iconst (pc := 45) (v := 1) dX8_miss_45 (by decide) ?_
          refine r_iload_n (pc := 46) dX8_miss_46 rfl ?_
          refine r_ishl (pc := 47) dX8_miss_47 ?_
          refine r_iconst (pc := 48) (v := 0) dX8_miss_48 (by decide) ?_
          refine r_iconst (pc := 49) (v := 2) dX8_miss_49 (by decide) ?_
          refine s_VV (pc := 50) mX8_goes (ci := 8) (a := b0) (As := [.int l1, .int (1 <<< (l2 &&& 31)), .int 0, .int 2]) dX8_miss_50 lk_X8_369 in_X8_goes mo_X8_goes ⟨by decide, rfl⟩ ⟨by decide, by decide⟩ (Nat.le_of_ble_eq_true rfl) k_b0 (mSV_mono K0 (fun y_12 K0 => ?_))
          refine r_aload_n (pc := 53) dX8_miss_53 rfl ?_
          refine r_iload_n (pc := 54) dX8_miss_54 rfl ?_
          refine s_VI (pc := 55) mX8_spareOf (ci := 8) (a := b0) (As := [.int l1]) dX8_miss_55 lk_X8_308 in_X8_spareOf mo_X8_spareOf ⟨by decide, rfl⟩ ⟨by decide, by decide⟩ (Nat.le_of_ble_eq_true rfl) k_b0 (mSI_mono K0 (fun r_14 y_13 K0 => ?_))
          exact s_iret rfl dX8_miss_58 K0
        · have q := (b2i_z _).mp q
          have K0 := K0.2 q
          refine r_bipush (pc := 36) (v := (-6)) dX8_miss_36 (by decide) ?_
          exact s_iret rfl dX8_miss_38 K0
    · have q := (b2i_z _).mp q
      have K0 := K0.2 q
      refine r_bipush (pc := 16) (v := (-2)) dX8_miss_16 (by decide) ?_
      exact s_iret rfl dX8_miss_18 K0
section
variable {y : Cn} {Q : Int32 → Cn → Prop} {T : TT} {W C S A N n : Nat} {H : Nat → TT}
theorem sq_X8_miss {a b : Int32} (r : RS y T n H) (F : WF T W C S A N) (k1 : ¬ ((0 ≤ a ∧ a < nI S) ∧ (0 ≤ b ∧ b < nI W)) → Q (-2) y) (k2 : (0 ≤ a ∧ a < nI S) → (0 ≤ b ∧ b < nI W) → ¬ (stt T a.toNatClampNeg b.toNatClampNeg = 0 ∧ nI N ≤ b) → Q (-6) y) (k3 : (0 ≤ a ∧ a < nI S) → (0 ≤ b ∧ b < nI W) → stt T a.toNatClampNeg b.toNatClampNeg = 0 → nI N ≤ b → ∀ z, RFr y z → RS z (goT T a.toNatClampNeg (wb b) 0 2) (pn n) (push H n T) → Q (sprT (goT T a.toNatClampNeg (wb b) 0 2) a.toNatClampNeg) z) : mSI mX8_miss [.ref 717, .int a, .int b] KW y Q := by
  have hS : S ≤ 24 := F.2.2.2.2.2.2.1
  have hW : W ≤ 30 := F.2.2.1
  have M := r.1
  refine v_X8_miss_0 km M.1 km1 ⟨v0 (k := 2) (by decide) rfl rfl, ?_⟩
  rw [r.2.1, F.2.2.2.2.2.1, F.1, inN' (by omega), inN' (by omega)]
  refine ⟨fun z => k1 (fun u => z u.1), fun z1 => ⟨v0 (k := 0) (by decide) rfl rfl, fun z2 => ?_, fun z => k1 (fun u => z u.2)⟩⟩
  have k2 := k2 z1 z2
  have k3 := k3 z1 z2
  obtain ⟨s, hs, rfl⟩ := inN (by omega) z1
  obtain ⟨w, hw, rfl⟩ := inN (by omega) z2
  rw [nI_clamp (by omega), nI_clamp (by omega)] at k2
  rw [nI_clamp (by omega), nI_clamp (by omega)] at k3
  refine sp_X8_stateOf (by omega) (by omega) M km1 ?_
  rw [r.2.1, F.2.2.2.2.2.2.2.2.2.1]
  refine ⟨fun u => k2 (fun v => u v.1), fun u => ⟨M.1, v0 (k := 4) (by decide) rfl rfl, fun u2 => ?_, fun u2 => k2 (fun v => u2 v.2)⟩⟩
  refine r.keeps (fun z f1 r1 => sp_X8_goes (k := 0) (o := 2) r1 (by omega) (by decide) (by decide) (by decide) (fun v f2 r2 => ?_))
  refine sp_X8_spareOf r2.1 km1 (by omega) ?_
  rw [r2.2.1]
  exact k3 u u2 v (f1.tr f2) r2
end
set_option maxHeartbeats 2000000 in
theorem v_X7_excuse_0 {K : Sh} {x : Cn} {Q : Int32 → Cn → Prop} {b0 : Nat} {l1 : Int32} {l2 : Int32} {b0_2 : Nat} {b0_2_7 : Nat} {n_b0_2_7 : Nat} (k_b0 : kk K b0 = some (7, 0)) (g_b0_2 : gr x b0 2 = some b0_2) (k_b0_2 : kk K b0_2 = some (4, 0)) (g_b0_2_7 : gr x b0_2 7 = some b0_2_7) (k_b0_2_7 : kk K b0_2_7 = some (23, n_b0_2_7)) (K0 : (¬ (0 ≤ l1 ∧ l1 < gi x b0_2 3) → (Q (-2) x)) ∧ ((0 ≤ l1 ∧ l1 < gi x b0_2 3) → (((0 ≤ l2 ∧ l2 < gi x b0_2 0) → (vp_in l1 n_b0_2_7 ∧ (∃ c_4 : Nat, gr x b0_2_7 ((l1 : Int32).toNatClampNeg) = some c_4 ∧ (kk K c_4 = some (5, 0) ∧ (mSI mX5_stateOf [.ref c_4, .int l2] K x (fun r_8 y_7 => (r_8 = 2 → (mSV mX7_remember [.ref b0] K y_7 (fun y_10 => ∀ r_11 : Int32, r_11 = gi (ui y_10 c_4 9 ((gi y_10 c_4 9) &&& ((1 <<< (l2 &&& 31)) ^^^ (-1)))) c_4 10 → (Q (nI (cpt (gi (ui (ui y_10 c_4 9 ((gi y_10 c_4 9) &&& ((1 <<< (l2 &&& 31)) ^^^ (-1)))) c_4 10 (r_11 ||| (1 <<< (l2 &&& 31)))) c_4 8 ||| gi (ui (ui y_10 c_4 9 ((gi y_10 c_4 9) &&& ((1 <<< (l2 &&& 31)) ^^^ (-1)))) c_4 10 (r_11 ||| (1 <<< (l2 &&& 31)))) c_4 10))) (ui (ui y_10 c_4 9 ((gi y_10 c_4 9) &&& ((1 <<< (l2 &&& 31)) ^^^ (-1)))) c_4 10 (r_11 ||| (1 <<< (l2 &&& 31)))))))) ∧ (¬ r_8 = 2 → ((r_8 = 0 → (mSV mX7_remember [.ref b0] K y_7 (fun y_14 => ∀ r_15 : Int32, r_15 = gi (ui y_14 c_4 9 ((gi y_14 c_4 9) &&& ((1 <<< (l2 &&& 31)) ^^^ (-1)))) c_4 10 → (Q (nI (cpt (gi (ui (ui y_14 c_4 9 ((gi y_14 c_4 9) &&& ((1 <<< (l2 &&& 31)) ^^^ (-1)))) c_4 10 (r_15 ||| (1 <<< (l2 &&& 31)))) c_4 8 ||| gi (ui (ui y_14 c_4 9 ((gi y_14 c_4 9) &&& ((1 <<< (l2 &&& 31)) ^^^ (-1)))) c_4 10 (r_15 ||| (1 <<< (l2 &&& 31)))) c_4 10))) (ui (ui y_14 c_4 9 ((gi y_14 c_4 9) &&& ((1 <<< (l2 &&& 31)) ^^^ (-1)))) c_4 10 (r_15 ||| (1 <<< (l2 &&& 31)))))))) ∧ (¬ r_8 = 0 → (Q (-6) y_7)))))))))) ∧ (¬ (0 ≤ l2 ∧ l2 < gi x b0_2 0) → (Q (-2) x))))) : mSI mX7_excuse [.ref b0, .int l1, .int l2] K x Q := by
  refine s_I (by decide) (by simp [Value.category]) (Nat.le_of_ble_eq_true rfl) ?_
  show mGM mX7_excuse 0 [some (.ref b0), some (.int l1), some (.int l2), none, none] [] (hp K x) (PI K Q)
  refine r_aload_n (pc := 0) dX7_excuse_0 rfl ?_
  refine r_iload_n (pc := 1) dX7_excuse_1 rfl ?_
  refine s_VI (pc := 2) mX7_isSeries (ci := 7) (a := b0) (As := [.int l1]) dX7_excuse_2 lk_X7_132 in_X7_isSeries mo_X7_isSeries ⟨by decide, rfl⟩ ⟨by decide, by decide⟩ (Nat.le_of_ble_eq_true rfl) k_b0 (sp_X7_isSeries k_b0 g_b0_2 k_b0_2 ?_)
  refine r_if_eq (pc := 5) (tgt := 16) dX7_excuse_5 (by decide) (fun q => ?_) (fun q => ?_)
  · have q := (b2i_z _).mp q
    have K0 := K0.1 q
    refine r_bipush (pc := 16) (v := (-2)) dX7_excuse_16 (by decide) ?_
    exact s_iret rfl dX7_excuse_18 K0
  · have q := b2i_nz q
    have K0 := K0.2 q
    refine r_aload_n (pc := 8) dX7_excuse_8 rfl ?_
    refine r_iload_n (pc := 9) dX7_excuse_9 rfl ?_
    refine s_VI (pc := 10) mX7_isWeek (ci := 7) (a := b0) (As := [.int l2]) dX7_excuse_10 lk_X7_167 in_X7_isWeek mo_X7_isWeek ⟨by decide, rfl⟩ ⟨by decide, by decide⟩ (Nat.le_of_ble_eq_true rfl) k_b0 (sp_X7_isWeek k_b0 g_b0_2 k_b0_2 ?_)
    refine r_if_ne (pc := 13) (tgt := 19) dX7_excuse_13 (by decide) (fun q => ?_) (fun q => ?_)
    · have q := b2i_nz q
      have K0 := K0.1 q
      refine r_aload_n (pc := 19) dX7_excuse_19 rfl ?_
      refine s_getR (pc := 20) dX7_excuse_20 fl_X7_20 rfl k_b0 g_b0_2 ?_
      refine s_getR (pc := 23) dX7_excuse_23 fl_X7_135 rfl k_b0_2 g_b0_2_7 ?_
      refine r_iload_n (pc := 26) dX7_excuse_26 rfl ?_
      obtain ⟨i_3, K0⟩ := K0
      obtain ⟨c_4, g_5, K0⟩ := K0
      refine s_aald (pc := 27) dX7_excuse_27 (by decide) rfl k_b0_2_7 i_3 g_5 ?_
      refine r_astore_n (pc := 28) dX7_excuse_28 (by decide) ?_
      refine r_aload_n (pc := 29) (L := [some (.ref b0), some (.int l1), some (.int l2), some (.ref c_4), none]) dX7_excuse_29 rfl ?_
      refine r_iload_n (pc := 30) dX7_excuse_30 rfl ?_
      obtain ⟨e_6, K0⟩ := K0
      refine s_VI (pc := 31) mX5_stateOf (ci := 5) (a := c_4) (As := [.int l2]) dX7_excuse_31 lk_X7_170 in_X5_stateOf mo_X5_stateOf ⟨by decide, rfl⟩ ⟨by decide, by decide⟩ (Nat.le_of_ble_eq_true rfl) e_6 (mSI_mono K0 (fun r_8 y_7 K0 => ?_))
      refine r_istore (pc := 34) dX7_excuse_34 (by decide) ?_
      refine r_iload (pc := 36) (L := [some (.ref b0), some (.int l1), some (.int l2), some (.ref c_4), some (.int r_8)]) dX7_excuse_36 rfl ?_
      refine r_iconst (pc := 38) (v := 2) dX7_excuse_38 (by decide) ?_
      refine r_icmp_eq (pc := 39) (tgt := 50) dX7_excuse_39 (by decide) (fun q => ?_) (fun q => ?_)
      · have K0 := K0.1 q
        refine r_aload_n (pc := 50) dX7_excuse_50 rfl ?_
        refine s_VV (pc := 51) mX7_remember (ci := 7) (a := b0) (As := []) dX7_excuse_51 lk_X7_333 in_X7_remember mo_X7_remember ⟨by decide, rfl⟩ ⟨by decide, by decide⟩ (Nat.le_of_ble_eq_true rfl) k_b0 (mSV_mono K0 (fun y_10 K0 => ?_))
        refine r_aload_n (pc := 54) dX7_excuse_54 rfl ?_
        refine r_dup (pc := 55) dX7_excuse_55 rfl ?_
        refine s_getI (pc := 56) dX7_excuse_56 fl_X7_266 rfl e_6 ?_
        refine r_iconst (pc := 59) (v := 1) dX7_excuse_59 (by decide) ?_
        refine r_iload_n (pc := 60) dX7_excuse_60 rfl ?_
        refine r_ishl (pc := 61) dX7_excuse_61 ?_
        refine r_iconst (pc := 62) (v := (-1)) dX7_excuse_62 (by decide) ?_
        refine r_ixor (pc := 63) dX7_excuse_63 ?_
        refine r_iand (pc := 64) dX7_excuse_64 ?_
        refine s_putI (pc := 65) dX7_excuse_65 fl_X7_266 rfl rfl e_6 ?_
        refine r_aload_n (pc := 68) dX7_excuse_68 rfl ?_
        refine r_dup (pc := 69) dX7_excuse_69 rfl ?_
        refine s_getI (pc := 70) dX7_excuse_70 fl_X7_336 rfl e_6 ?_
        obtain ⟨r_11, w_12⟩ : ∃ z : Int32, z = gi (ui y_10 c_4 9 ((gi y_10 c_4 9) &&& ((1 <<< (l2 &&& 31)) ^^^ (-1)))) c_4 10 := ⟨_, rfl⟩
        rw [← w_12]
        have K0 := K0 r_11 w_12
        refine r_iconst (pc := 73) (v := 1) dX7_excuse_73 (by decide) ?_
        refine r_iload_n (pc := 74) dX7_excuse_74 rfl ?_
        refine r_ishl (pc := 75) dX7_excuse_75 ?_
        refine r_ior (pc := 76) dX7_excuse_76 ?_
        refine s_putI (pc := 77) dX7_excuse_77 fl_X7_336 rfl rfl e_6 ?_
        refine r_aload_n (pc := 80) dX7_excuse_80 rfl ?_
        refine s_VI (pc := 81) mX5_good (ci := 5) (a := c_4) (As := []) dX7_excuse_81 lk_X7_233 in_X5_good mo_X5_good ⟨by decide, rfl⟩ ⟨by decide, by decide⟩ (Nat.le_of_ble_eq_true rfl) e_6 (sp_X5_good e_6 ?_)
        exact s_iret rfl dX7_excuse_84 K0
      · have K0 := K0.2 q
        refine r_iload (pc := 42) dX7_excuse_42 rfl ?_
        refine r_if_eq (pc := 44) (tgt := 50) dX7_excuse_44 (by decide) (fun q => ?_) (fun q => ?_)
        · have K0 := K0.1 q
          refine r_aload_n (pc := 50) dX7_excuse_50 rfl ?_
          refine s_VV (pc := 51) mX7_remember (ci := 7) (a := b0) (As := []) dX7_excuse_51 lk_X7_333 in_X7_remember mo_X7_remember ⟨by decide, rfl⟩ ⟨by decide, by decide⟩ (Nat.le_of_ble_eq_true rfl) k_b0 (mSV_mono K0 (fun y_14 K0 => ?_))
          refine r_aload_n (pc := 54) dX7_excuse_54 rfl ?_
          refine r_dup (pc := 55) dX7_excuse_55 rfl ?_
          refine s_getI (pc := 56) dX7_excuse_56 fl_X7_266 rfl e_6 ?_
          refine r_iconst (pc := 59) (v := 1) dX7_excuse_59 (by decide) ?_
          refine r_iload_n (pc := 60) dX7_excuse_60 rfl ?_
          refine r_ishl (pc := 61) dX7_excuse_61 ?_
          refine r_iconst (pc := 62) (v := (-1)) dX7_excuse_62 (by decide) ?_
          refine r_ixor (pc := 63) dX7_excuse_63 ?_
          refine r_iand (pc := 64) dX7_excuse_64 ?_
          refine s_putI (pc := 65) dX7_excuse_65 fl_X7_266 rfl rfl e_6 ?_
          refine r_aload_n (pc := 68) dX7_excuse_68 rfl ?_
          refine r_dup (pc := 69) dX7_excuse_69 rfl ?_
          refine s_getI (pc := 70) dX7_excuse_70 fl_X7_336 rfl e_6 ?_
          obtain ⟨r_15, w_16⟩ : ∃ z : Int32, z = gi (ui y_14 c_4 9 ((gi y_14 c_4 9) &&& ((1 <<< (l2 &&& 31)) ^^^ (-1)))) c_4 10 := ⟨_, rfl⟩
          rw [← w_16]
          have K0 := K0 r_15 w_16
          refine r_iconst (pc := 73) (v := 1) dX7_excuse_73 (by decide) ?_
          refine r_iload_n (pc := 74) dX7_excuse_74 rfl ?_
          refine r_ishl (pc := 75) dX7_excuse_75 ?_
          refine r_ior (pc := 76) dX7_excuse_76 ?_
          refine s_putI (pc := 77) dX7_excuse_77 fl_X7_336 rfl rfl e_6 ?_
          refine r_aload_n (pc := 80) dX7_excuse_80 rfl ?_
          refine s_VI (pc := 81) mX5_good (ci := 5) (a := c_4) (As := []) dX7_excuse_81 lk_X7_233 in_X5_good mo_X5_good ⟨by decide, rfl⟩ ⟨by decide, by decide⟩ (Nat.le_of_ble_eq_true rfl) e_6 (sp_X5_good e_6 ?_)
          exact s_iret rfl dX7_excuse_84 K0
        · have K0 := K0.2 q
          refine r_bipush (pc := 47) (v := (-6)) dX7_excuse_47 (by decide) ?_
          exact s_iret rfl dX7_excuse_49 K0
    · have q := (b2i_z _).mp q
      have K0 := K0.2 q
      refine r_bipush (pc := 16) (v := (-2)) dX7_excuse_16 (by decide) ?_
      exact s_iret rfl dX7_excuse_18 K0
set_option maxHeartbeats 2000000 in
theorem v_X8_excuse_0 {K : Sh} {x : Cn} {Q : Int32 → Cn → Prop} {b0 : Nat} {l1 : Int32} {l2 : Int32} {b0_1 : Nat} {n_b0_1 : Nat} (k_b0 : kk K b0 = some (8, 0)) (g_b0_1 : gr x b0 1 = some b0_1) (k_b0_1 : kk K b0_1 = some (20, n_b0_1)) (K0 : vp_in 2 n_b0_1 ∧ ((¬ (0 ≤ l1 ∧ l1 ≤ gi x b0_1 2 - 1) → (Q (-2) x)) ∧ ((0 ≤ l1 ∧ l1 ≤ gi x b0_1 2 - 1) → (vp_in 0 n_b0_1 ∧ (((0 ≤ l2 ∧ l2 ≤ gi x b0_1 0 - 1) → (mSI mX8_stateOf [.ref b0, .int l1, .int l2] K x (fun r_6 y_5 => (r_6 = 0 → (mSV mX8_keeps [.ref b0] K y_5 (fun y_8 => mSV mX8_goes [.ref b0, .int l1, .int (1 <<< (l2 &&& 31)), .int r_6, .int 3] K y_8 (fun y_9 => ∃ c_10 : Nat, gr y_9 b0 3 = some c_10 ∧ (∃ n_13 : Nat, kk K c_10 = some (20, n_13) ∧ ((l24 l1 n_13) ∧ (Q (nI (cpt (so (gi y_9 c_10) (l1 : Int32).toNatClampNeg 8 ||| so (gi y_9 c_10) (l1 : Int32).toNatClampNeg 10))) y_9))))))) ∧ (¬ r_6 = 0 → ((r_6 = 2 → (mSV mX8_keeps [.ref b0] K y_5 (fun y_16 => mSV mX8_goes [.ref b0, .int l1, .int (1 <<< (l2 &&& 31)), .int r_6, .int 3] K y_16 (fun y_17 => ∃ c_18 : Nat, gr y_17 b0 3 = some c_18 ∧ (∃ n_21 : Nat, kk K c_18 = some (20, n_21) ∧ ((l24 l1 n_21) ∧ (Q (nI (cpt (so (gi y_17 c_18) (l1 : Int32).toNatClampNeg 8 ||| so (gi y_17 c_18) (l1 : Int32).toNatClampNeg 10))) y_17))))))) ∧ (¬ r_6 = 2 → (Q (-6) y_5))))))) ∧ (¬ (0 ≤ l2 ∧ l2 ≤ gi x b0_1 0 - 1) → (Q (-2) x))))))) : mSI mX8_excuse [.ref b0, .int l1, .int l2] K x Q := by
  refine s_I (by decide) (by simp [Value.category]) (Nat.le_of_ble_eq_true rfl) ?_
  show mGM mX8_excuse 0 [some (.ref b0), some (.int l1), some (.int l2), none] [] (hp K x) (PI K Q)
  refine r_aload_n (pc := 0) dX8_excuse_0 rfl ?_
  refine r_iload_n (pc := 1) dX8_excuse_1 rfl ?_
  obtain ⟨i_1, K0⟩ := K0
  refine s_VI (pc := 2) mX8_isSeries (ci := 8) (a := b0) (As := [.int l1]) dX8_excuse_2 lk_X8_273 in_X8_isSeries mo_X8_isSeries ⟨by decide, rfl⟩ ⟨by decide, by decide⟩ (Nat.le_of_ble_eq_true rfl) k_b0 (sp_X8_isSeries k_b0 g_b0_1 k_b0_1 i_1 ?_)
  refine r_if_eq (pc := 5) (tgt := 16) dX8_excuse_5 (by decide) (fun q => ?_) (fun q => ?_)
  · have q := (b2i_z _).mp q
    have K0 := K0.1 q
    refine r_bipush (pc := 16) (v := (-2)) dX8_excuse_16 (by decide) ?_
    exact s_iret rfl dX8_excuse_18 K0
  · have q := b2i_nz q
    have K0 := K0.2 q
    refine r_aload_n (pc := 8) dX8_excuse_8 rfl ?_
    refine r_iload_n (pc := 9) dX8_excuse_9 rfl ?_
    obtain ⟨i_3, K0⟩ := K0
    refine s_VI (pc := 10) mX8_isWeek (ci := 8) (a := b0) (As := [.int l2]) dX8_excuse_10 lk_X8_57 in_X8_isWeek mo_X8_isWeek ⟨by decide, rfl⟩ ⟨by decide, by decide⟩ (Nat.le_of_ble_eq_true rfl) k_b0 (sp_X8_isWeek k_b0 g_b0_1 k_b0_1 i_3 ?_)
    refine r_if_ne (pc := 13) (tgt := 19) dX8_excuse_13 (by decide) (fun q => ?_) (fun q => ?_)
    · have q := b2i_nz q
      have K0 := K0.1 q
      refine r_aload_n (pc := 19) dX8_excuse_19 rfl ?_
      refine r_iload_n (pc := 20) dX8_excuse_20 rfl ?_
      refine r_iload_n (pc := 21) dX8_excuse_21 rfl ?_
      refine s_VI (pc := 22) mX8_stateOf (ci := 8) (a := b0) (As := [.int l1, .int l2]) dX8_excuse_22 lk_X8_278 in_X8_stateOf mo_X8_stateOf ⟨by decide, rfl⟩ ⟨by decide, by decide⟩ (Nat.le_of_ble_eq_true rfl) k_b0 (mSI_mono K0 (fun r_6 y_5 K0 => ?_))
      refine r_istore_n (pc := 25) dX8_excuse_25 (by decide) ?_
      refine r_iload_n (pc := 26) (L := [some (.ref b0), some (.int l1), some (.int l2), some (.int r_6)]) dX8_excuse_26 rfl ?_
      refine r_if_eq (pc := 27) (tgt := 38) dX8_excuse_27 (by decide) (fun q => ?_) (fun q => ?_)
      · have K0 := K0.1 q
        refine r_aload_n (pc := 38) dX8_excuse_38 rfl ?_
        refine s_VV (pc := 39) mX8_keeps (ci := 8) (a := b0) (As := []) dX8_excuse_39 lk_X8_366 in_X8_keeps mo_X8_keeps ⟨by decide, rfl⟩ ⟨by decide, by decide⟩ (Nat.le_of_ble_eq_true rfl) k_b0 (mSV_mono K0 (fun y_8 K0 => ?_))
        refine r_aload_n (pc := 42) dX8_excuse_42 rfl ?_
        refine r_iload_n (pc := 43) dX8_excuse_43 rfl ?_
        refine r_iconst (pc := 44) (v := 1) dX8_excuse_44 (by decide) ?_
        refine r_iload_n (pc := 45) dX8_excuse_45 rfl ?_
        refine r_ishl (pc := 46) dX8_excuse_46 ?_
        refine r_iload_n (pc := 47) dX8_excuse_47 rfl ?_
        refine r_iconst (pc := 48) (v := 3) dX8_excuse_48 (by decide) ?_
        refine s_VV (pc := 49) mX8_goes (ci := 8) (a := b0) (As := [.int l1, .int (1 <<< (l2 &&& 31)), .int r_6, .int 3]) dX8_excuse_49 lk_X8_369 in_X8_goes mo_X8_goes ⟨by decide, rfl⟩ ⟨by decide, by decide⟩ (Nat.le_of_ble_eq_true rfl) k_b0 (mSV_mono K0 (fun y_9 K0 => ?_))
        refine r_aload_n (pc := 52) dX8_excuse_52 rfl ?_
        refine r_iload_n (pc := 53) dX8_excuse_53 rfl ?_
        obtain ⟨c_10, g_11, K0⟩ := K0
        obtain ⟨n_13, e_12, K0⟩ := K0
        obtain ⟨p_14, K0⟩ := K0
        refine s_VI (pc := 54) mX8_goodOf (ci := 8) (a := b0) (As := [.int l1]) dX8_excuse_54 lk_X8_299 in_X8_goodOf mo_X8_goodOf ⟨by decide, rfl⟩ ⟨by decide, by decide⟩ (Nat.le_of_ble_eq_true rfl) k_b0 (sr_X8_goodOf k_b0 g_11 e_12 p_14 ?_)
        exact s_iret rfl dX8_excuse_57 K0
      · have K0 := K0.2 q
        refine r_iload_n (pc := 30) dX8_excuse_30 rfl ?_
        refine r_iconst (pc := 31) (v := 2) dX8_excuse_31 (by decide) ?_
        refine r_icmp_eq (pc := 32) (tgt := 38) dX8_excuse_32 (by decide) (fun q => ?_) (fun q => ?_)
        · have K0 := K0.1 q
          refine r_aload_n (pc := 38) dX8_excuse_38 rfl ?_
          refine s_VV (pc := 39) mX8_keeps (ci := 8) (a := b0) (As := []) dX8_excuse_39 lk_X8_366 in_X8_keeps mo_X8_keeps ⟨by decide, rfl⟩ ⟨by decide, by decide⟩ (Nat.le_of_ble_eq_true rfl) k_b0 (mSV_mono K0 (fun y_16 K0 => ?_))
          refine r_aload_n (pc := 42) dX8_excuse_42 rfl ?_
          refine r_iload_n (pc := 43) dX8_excuse_43 rfl ?_
          refine r_iconst (pc := 44) (v := 1) dX8_excuse_44 (by decide) ?_
          refine r_iload_n (pc := 45) dX8_excuse_45 rfl ?_
          refine r_ishl (pc := 46) dX8_excuse_46 ?_
          refine r_iload_n (pc := 47) dX8_excuse_47 rfl ?_
          refine r_iconst (pc := 48) (v := 3) dX8_excuse_48 (by decide) ?_
          refine s_VV (pc := 49) mX8_goes (ci := 8) (a := b0) (As := [.int l1, .int (1 <<< (l2 &&& 31)), .int r_6, .int 3]) dX8_excuse_49 lk_X8_369 in_X8_goes mo_X8_goes ⟨by decide, rfl⟩ ⟨by decide, by decide⟩ (Nat.le_of_ble_eq_true rfl) k_b0 (mSV_mono K0 (fun y_17 K0 => ?_))
          refine r_aload_n (pc := 52) dX8_excuse_52 rfl ?_
          refine r_iload_n (pc := 53) dX8_excuse_53 rfl ?_
          obtain ⟨c_18, g_19, K0⟩ := K0
          obtain ⟨n_21, e_20, K0⟩ := K0
          obtain ⟨p_22, K0⟩ := K0
          refine s_VI (pc := 54) mX8_goodOf (ci := 8) (a := b0) (As := [.int l1]) dX8_excuse_54 lk_X8_299 in_X8_goodOf mo_X8_goodOf ⟨by decide, rfl⟩ ⟨by decide, by decide⟩ (Nat.le_of_ble_eq_true rfl) k_b0 (sr_X8_goodOf k_b0 g_19 e_20 p_22 ?_)
          exact s_iret rfl dX8_excuse_57 K0
        · have K0 := K0.2 q
          refine r_bipush (pc := 35) (v := (-6)) dX8_excuse_35 (by decide) ?_
          exact s_iret rfl dX8_excuse_37 K0
    · have q := (b2i_z _).mp q
      have K0 := K0.2 q
      refine r_bipush (pc := 16) (v := (-2)) dX8_excuse_16 (by decide) ?_
      exact s_iret rfl dX8_excuse_18 K0
section
variable {y : Cn} {Q : Int32 → Cn → Prop} {T : TT} {W C S A N n : Nat} {H : Nat → TT}
theorem sq_X8_excuse {a b : Int32} (r : RS y T n H) (F : WF T W C S A N) (k1 : ¬ ((0 ≤ a ∧ a < nI S) ∧ (0 ≤ b ∧ b < nI W)) → Q (-2) y) (k2 : (0 ≤ a ∧ a < nI S) → (0 ≤ b ∧ b < nI W) → ¬ stt T a.toNatClampNeg b.toNatClampNeg = 0 → ¬ stt T a.toNatClampNeg b.toNatClampNeg = 2 → Q (-6) y) (k3 : (0 ≤ a ∧ a < nI S) → (0 ≤ b ∧ b < nI W) → ∀ k, k = 0 ∨ k = 2 → stt T a.toNatClampNeg b.toNatClampNeg = nI k → ∀ z, RFr y z → RS z (goT T a.toNatClampNeg (wb b) k 3) (pn n) (push H n T) → Q (nI (cpt (so (goT T a.toNatClampNeg (wb b) k 3) a.toNatClampNeg 8 ||| so (goT T a.toNatClampNeg (wb b) k 3) a.toNatClampNeg 10))) z) : mSI mX8_excuse [.ref 717, .int a, .int b] KW y Q := by
  have hS : S ≤ 24 := F.2.2.2.2.2.2.1
  have hW : W ≤ 30 := F.2.2.1
  have M := r.1
  refine v_X8_excuse_0 km M.1 km1 ⟨v0 (k := 2) (by decide) rfl rfl, ?_⟩
  rw [r.2.1, F.2.2.2.2.2.1, F.1, inN' (by omega), inN' (by omega)]
  refine ⟨fun z => k1 (fun u => z u.1), fun z1 => ⟨v0 (k := 0) (by decide) rfl rfl, fun z2 => ?_, fun z => k1 (fun u => z u.2)⟩⟩
  have k2 := k2 z1 z2
  have k3 := k3 z1 z2
  obtain ⟨s, hs, rfl⟩ := inN (by omega) z1
  obtain ⟨w, hw, rfl⟩ := inN (by omega) z2
  rw [nI_clamp (by omega), nI_clamp (by omega)] at k2
  rw [nI_clamp (by omega), nI_clamp (by omega)] at k3
  refine sp_X8_stateOf (by omega) (by omega) M km1 ?_
  rw [r.2.1]
  have go : ∀ k, k = 0 ∨ k = 2 → stt T s w = nI k → mSV mX8_keeps [.ref 717] KW y (fun y_8 => mSV mX8_goes [.ref 717, .int (nI s), .int (1 <<< (nI w &&& 31)), .int (stt T s w), .int 3] KW y_8 (fun y_9 => ∃ c_10, gr y_9 717 3 = some c_10 ∧ (∃ n_13, kk KW c_10 = some (20, n_13) ∧ ((l24 (nI s) n_13) ∧ (Q (nI (cpt (so (gi y_9 c_10) (nI s).toNatClampNeg 8 ||| so (gi y_9 c_10) (nI s).toNatClampNeg 10))) y_9))))) := by
    intro k hk e
    rw [e]
    refine r.keeps (fun z f1 r1 => sp_X8_goes (o := 3) r1 (by omega) (by omega) (by decide) (by omega) (fun v f2 r2 => ⟨718, r2.1.2.2.1, 518, km1, l24_nI (by omega) rfl, ?_⟩))
    rw [r2.2.1, nI_clamp (by omega)]
    exact k3 k hk e v (f1.tr f2) r2
  exact ⟨fun u => go 0 (Or.inl rfl) u, fun u => ⟨fun u2 => go 2 (Or.inr rfl) u2, fun u2 => k2 u u2⟩⟩
end
set_option maxHeartbeats 2000000 in
theorem v_X7_fly_0 {K : Sh} {x : Cn} {Q : Int32 → Cn → Prop} {b0 : Nat} {l1 : Int32} {l2 : Int32} {b0_2 : Nat} {b0_2_7 : Nat} {n_b0_2_7 : Nat} (k_b0 : kk K b0 = some (7, 0)) (g_b0_2 : gr x b0 2 = some b0_2) (k_b0_2 : kk K b0_2 = some (4, 0)) (g_b0_2_7 : gr x b0_2 7 = some b0_2_7) (k_b0_2_7 : kk K b0_2_7 = some (23, n_b0_2_7)) (K0 : (¬ (0 ≤ l1 ∧ l1 < gi x b0_2 3) → (Q (-2) x)) ∧ ((0 ≤ l1 ∧ l1 < gi x b0_2 3) → (((0 ≤ l2 ∧ l2 < gi x b0_2 0) → (vp_in l1 n_b0_2_7 ∧ (∃ c_4 : Nat, gr x b0_2_7 ((l1 : Int32).toNatClampNeg) = some c_4 ∧ (kk K c_4 = some (5, 0) ∧ (mSI mX5_stateOf [.ref c_4, .int l2] K x (fun r_8 y_7 => (r_8 = 2 → (gr y_7 b0 2 = some b0_2 ∧ (((gi y_7 b0_2 1) ≤ l2 → (mSV mX7_remember [.ref b0] K y_7 (fun y_12 => ∀ r_13 : Int32, r_13 = gi (ui y_12 c_4 9 ((gi y_12 c_4 9) &&& ((1 <<< (l2 &&& 31)) ^^^ (-1)))) c_4 10 → (Q r_8 (ui (ui y_12 c_4 9 ((gi y_12 c_4 9) &&& ((1 <<< (l2 &&& 31)) ^^^ (-1)))) c_4 10 (r_13 &&& ((1 <<< (l2 &&& 31)) ^^^ (-1)))))))) ∧ (¬ (gi y_7 b0_2 1) ≤ l2 → (Q (-6) y_7))))) ∧ (¬ r_8 = 2 → ((¬ r_8 = 3 → (Q (-6) y_7)) ∧ (r_8 = 3 → (gr y_7 b0 2 = some b0_2 ∧ (((gi y_7 b0_2 1) ≤ l2 → (mSV mX7_remember [.ref b0] K y_7 (fun y_18 => ∀ r_19 : Int32, r_19 = gi (ui y_18 c_4 9 ((gi y_18 c_4 9) &&& ((1 <<< (l2 &&& 31)) ^^^ (-1)))) c_4 10 → (Q r_8 (ui (ui y_18 c_4 9 ((gi y_18 c_4 9) &&& ((1 <<< (l2 &&& 31)) ^^^ (-1)))) c_4 10 (r_19 &&& ((1 <<< (l2 &&& 31)) ^^^ (-1)))))))) ∧ (¬ (gi y_7 b0_2 1) ≤ l2 → (Q (-6) y_7))))))))))))) ∧ (¬ (0 ≤ l2 ∧ l2 < gi x b0_2 0) → (Q (-2) x))))) : mSI mX7_fly [.ref b0, .int l1, .int l2] K x Q := by
  refine s_I (by decide) (by simp [Value.category]) (Nat.le_of_ble_eq_true rfl) ?_
  show mGM mX7_fly 0 [some (.ref b0), some (.int l1), some (.int l2), none, none] [] (hp K x) (PI K Q)
  refine r_aload_n (pc := 0) dX7_fly_0 rfl ?_
  refine r_iload_n (pc := 1) dX7_fly_1 rfl ?_
  refine s_VI (pc := 2) mX7_isSeries (ci := 7) (a := b0) (As := [.int l1]) dX7_fly_2 lk_X7_132 in_X7_isSeries mo_X7_isSeries ⟨by decide, rfl⟩ ⟨by decide, by decide⟩ (Nat.le_of_ble_eq_true rfl) k_b0 (sp_X7_isSeries k_b0 g_b0_2 k_b0_2 ?_)
  refine r_if_eq (pc := 5) (tgt := 16) dX7_fly_5 (by decide) (fun q => ?_) (fun q => ?_)
  · have q := (b2i_z _).mp q
    have K0 := K0.1 q
    refine r_bipush (pc := 16) (v := (-2)) dX7_fly_16 (by decide) ?_
    exact s_iret rfl dX7_fly_18 K0
  · have q := b2i_nz q
    have K0 := K0.2 q
    refine r_aload_n (pc := 8) dX7_fly_8 rfl ?_
    refine r_iload_n (pc := 9) dX7_fly_9 rfl ?_
    refine s_VI (pc := 10) mX7_isWeek (ci := 7) (a := b0) (As := [.int l2]) dX7_fly_10 lk_X7_167 in_X7_isWeek mo_X7_isWeek ⟨by decide, rfl⟩ ⟨by decide, by decide⟩ (Nat.le_of_ble_eq_true rfl) k_b0 (sp_X7_isWeek k_b0 g_b0_2 k_b0_2 ?_)
    refine r_if_ne (pc := 13) (tgt := 19) dX7_fly_13 (by decide) (fun q => ?_) (fun q => ?_)
    · have q := b2i_nz q
      have K0 := K0.1 q
      refine r_aload_n (pc := 19) dX7_fly_19 rfl ?_
      refine s_getR (pc := 20) dX7_fly_20 fl_X7_20 rfl k_b0 g_b0_2 ?_
      refine s_getR (pc := 23) dX7_fly_23 fl_X7_135 rfl k_b0_2 g_b0_2_7 ?_
      refine r_iload_n (pc := 26) dX7_fly_26 rfl ?_
      obtain ⟨i_3, K0⟩ := K0
      obtain ⟨c_4, g_5, K0⟩ := K0
      refine s_aald (pc := 27) dX7_fly_27 (by decide) rfl k_b0_2_7 i_3 g_5 ?_
      refine r_astore_n (pc := 28) dX7_fly_28 (by decide) ?_
      refine r_aload_n (pc := 29) (L := [some (.ref b0), some (.int l1), some (.int l2), some (.ref c_4), none]) dX7_fly_29 rfl ?_
      refine r_iload_n (pc := 30) dX7_fly_30 rfl ?_
      obtain ⟨e_6, K0⟩ := K0
      refine s_VI (pc := 31) mX5_stateOf (ci := 5) (a := c_4) (As := [.int l2]) dX7_fly_31 lk_X7_170 in_X5_stateOf mo_X5_stateOf ⟨by decide, rfl⟩ ⟨by decide, by decide⟩ (Nat.le_of_ble_eq_true rfl) e_6 (mSI_mono K0 (fun r_8 y_7 K0 => ?_))
      refine r_istore (pc := 34) dX7_fly_34 (by decide) ?_
      refine r_iload (pc := 36) (L := [some (.ref b0), some (.int l1), some (.int l2), some (.ref c_4), some (.int r_8)]) dX7_fly_36 rfl ?_
      refine r_iconst (pc := 38) (v := 2) dX7_fly_38 (by decide) ?_
      refine r_icmp_eq (pc := 39) (tgt := 48) dX7_fly_39 (by decide) (fun q => ?_) (fun q => ?_)
      · have K0 := K0.1 q
        refine r_iload_n (pc := 48) dX7_fly_48 rfl ?_
        refine r_aload_n (pc := 49) dX7_fly_49 rfl ?_
        obtain ⟨g_10, K0⟩ := K0
        refine s_getR (pc := 50) dX7_fly_50 fl_X7_20 rfl k_b0 g_10 ?_
        refine s_getI (pc := 53) dX7_fly_53 fl_X7_103 rfl k_b0_2 ?_
        refine r_icmp_ge (pc := 56) (tgt := 62) dX7_fly_56 (by decide) (fun q => ?_) (fun q => ?_)
        · have K0 := K0.1 q
          refine r_aload_n (pc := 62) dX7_fly_62 rfl ?_
          refine s_VV (pc := 63) mX7_remember (ci := 7) (a := b0) (As := []) dX7_fly_63 lk_X7_333 in_X7_remember mo_X7_remember ⟨by decide, rfl⟩ ⟨by decide, by decide⟩ (Nat.le_of_ble_eq_true rfl) k_b0 (mSV_mono K0 (fun y_12 K0 => ?_))
          refine r_aload_n (pc := 66) dX7_fly_66 rfl ?_
          refine r_dup (pc := 67) dX7_fly_67 rfl ?_
          refine s_getI (pc := 68) dX7_fly_68 fl_X7_266 rfl e_6 ?_
          refine r_iconst (pc := 71) (v := 1) dX7_fly_71 (by decide) ?_
          refine r_iload_n (pc := 72) dX7_fly_72 rfl ?_
          refine r_ishl (pc := 73) dX7_fly_73 ?_
          refine r_iconst (pc := 74) (v := (-1)) dX7_fly_74 (by decide) ?_
          refine r_ixor (pc := 75) dX7_fly_75 ?_
          refine r_iand (pc := 76) dX7_fly_76 ?_
          refine s_putI (pc := 77) dX7_fly_77 fl_X7_266 rfl rfl e_6 ?_
          refine r_aload_n (pc := 80) dX7_fly_80 rfl ?_
          refine r_dup (pc := 81) dX7_fly_81 rfl ?_
          refine s_getI (pc := 82) dX7_fly_82 fl_X7_336 rfl e_6 ?_
          obtain ⟨r_13, w_14⟩ : ∃ z : Int32, z = gi (ui y_12 c_4 9 ((gi y_12 c_4 9) &&& ((1 <<< (l2 &&& 31)) ^^^ (-1)))) c_4 10 := ⟨_, rfl⟩
          rw [← w_14]
          have K0 := K0 r_13 w_14
          refine r_iconst (pc := 85) (v := 1) dX7_fly_85 (by decide) ?_
          refine r_iload_n (pc := 86) dX7_fly_86 rfl ?_
          refine r_ishl (pc := 87) dX7_fly_87 ?_
          refine r_iconst (pc := 88) (v := (-1)) dX7_fly_88 (by decide) ?_
          refine r_ixor (pc := 89) dX7_fly_89 ?_
          refine r_iand (pc := 90) dX7_fly_90 ?_
          refine s_putI (pc := 91) dX7_fly_91 fl_X7_336 rfl rfl e_6 ?_
          refine r_iload (pc := 94) dX7_fly_94 rfl ?_
          exact s_iret rfl dX7_fly_96 K0
        · have K0 := K0.2 q
          refine r_bipush (pc := 59) (v := (-6)) dX7_fly_59 (by decide) ?_
          exact s_iret rfl dX7_fly_61 K0
      · have K0 := K0.2 q
        refine r_iload (pc := 42) dX7_fly_42 rfl ?_
        refine r_iconst (pc := 44) (v := 3) dX7_fly_44 (by decide) ?_
        refine r_icmp_ne (pc := 45) (tgt := 59) dX7_fly_45 (by decide) (fun q => ?_) (fun q => ?_)
        · have K0 := K0.1 q
          refine r_bipush (pc := 59) (v := (-6)) dX7_fly_59 (by decide) ?_
          exact s_iret rfl dX7_fly_61 K0
        · have K0 := K0.2 q
          refine r_iload_n (pc := 48) dX7_fly_48 rfl ?_
          refine r_aload_n (pc := 49) dX7_fly_49 rfl ?_
          obtain ⟨g_16, K0⟩ := K0
          refine s_getR (pc := 50) dX7_fly_50 fl_X7_20 rfl k_b0 g_16 ?_
          refine s_getI (pc := 53) dX7_fly_53 fl_X7_103 rfl k_b0_2 ?_
          refine r_icmp_ge (pc := 56) (tgt := 62) dX7_fly_56 (by decide) (fun q => ?_) (fun q => ?_)
          · have K0 := K0.1 q
            refine r_aload_n (pc := 62) dX7_fly_62 rfl ?_
            refine s_VV (pc := 63) mX7_remember (ci := 7) (a := b0) (As := []) dX7_fly_63 lk_X7_333 in_X7_remember mo_X7_remember ⟨by decide, rfl⟩ ⟨by decide, by decide⟩ (Nat.le_of_ble_eq_true rfl) k_b0 (mSV_mono K0 (fun y_18 K0 => ?_))
            refine r_aload_n (pc := 66) dX7_fly_66 rfl ?_
            refine r_dup (pc := 67) dX7_fly_67 rfl ?_
            refine s_getI (pc := 68) dX7_fly_68 fl_X7_266 rfl e_6 ?_
            refine r_iconst (pc := 71) (v := 1) dX7_fly_71 (by decide) ?_
            refine r_iload_n (pc := 72) dX7_fly_72 rfl ?_
            refine r_ishl (pc := 73) dX7_fly_73 ?_
            refine r_iconst (pc := 74) (v := (-1)) dX7_fly_74 (by decide) ?_
            refine r_ixor (pc := 75) dX7_fly_75 ?_
            refine r_iand (pc := 76) dX7_fly_76 ?_
            refine s_putI (pc := 77) dX7_fly_77 fl_X7_266 rfl rfl e_6 ?_
            refine r_aload_n (pc := 80) dX7_fly_80 rfl ?_
            refine r_dup (pc := 81) dX7_fly_81 rfl ?_
            refine s_getI (pc := 82) dX7_fly_82 fl_X7_336 rfl e_6 ?_
            obtain ⟨r_19, w_20⟩ : ∃ z : Int32, z = gi (ui y_18 c_4 9 ((gi y_18 c_4 9) &&& ((1 <<< (l2 &&& 31)) ^^^ (-1)))) c_4 10 := ⟨_, rfl⟩
            rw [← w_20]
            have K0 := K0 r_19 w_20
            refine r_iconst (pc := 85) (v := 1) dX7_fly_85 (by decide) ?_
            refine r_iload_n (pc := 86) dX7_fly_86 rfl ?_
            refine r_ishl (pc := 87) dX7_fly_87 ?_
            refine r_iconst (pc := 88) (v := (-1)) dX7_fly_88 (by decide) ?_
            refine r_ixor (pc := 89) dX7_fly_89 ?_
            refine r_iand (pc := 90) dX7_fly_90 ?_
            refine s_putI (pc := 91) dX7_fly_91 fl_X7_336 rfl rfl e_6 ?_
            refine r_iload (pc := 94) dX7_fly_94 rfl ?_
            exact s_iret rfl dX7_fly_96 K0
          · have K0 := K0.2 q
            refine r_bipush (pc := 59) (v := (-6)) dX7_fly_59 (by decide) ?_
            exact s_iret rfl dX7_fly_61 K0
    · have q := (b2i_z _).mp q
      have K0 := K0.2 q
      refine r_bipush (pc := 16) (v := (-2)) dX7_fly_16 (by decide) ?_
      exact s_iret rfl dX7_fly_18 K0
set_option maxHeartbeats 2000000 in
theorem v_X8_fly_0 {K : Sh} {x : Cn} {Q : Int32 → Cn → Prop} {b0 : Nat} {l1 : Int32} {l2 : Int32} {b0_1 : Nat} {n_b0_1 : Nat} (k_b0 : kk K b0 = some (8, 0)) (g_b0_1 : gr x b0 1 = some b0_1) (k_b0_1 : kk K b0_1 = some (20, n_b0_1)) (K0 : vp_in 2 n_b0_1 ∧ ((¬ (0 ≤ l1 ∧ l1 ≤ gi x b0_1 2 - 1) → (Q (-2) x)) ∧ ((0 ≤ l1 ∧ l1 ≤ gi x b0_1 2 - 1) → (vp_in 0 n_b0_1 ∧ (((0 ≤ l2 ∧ l2 ≤ gi x b0_1 0 - 1) → (mSI mX8_stateOf [.ref b0, .int l1, .int l2] K x (fun r_6 y_5 => (r_6 = 2 → (gr y_5 b0 1 = some b0_1 ∧ (vp_in 4 n_b0_1 ∧ (((gi y_5 b0_1 4 ≤ l2) → (mSV mX8_keeps [.ref b0] K y_5 (fun y_11 => mSV mX8_goes [.ref b0, .int l1, .int (1 <<< (l2 &&& 31)), .int r_6, .int 0] K y_11 (fun y_12 => Q r_6 y_12)))) ∧ (¬ (gi y_5 b0_1 4 ≤ l2) → (Q (-6) y_5)))))) ∧ (¬ r_6 = 2 → ((¬ r_6 = 3 → (Q (-6) y_5)) ∧ (r_6 = 3 → (gr y_5 b0 1 = some b0_1 ∧ (vp_in 4 n_b0_1 ∧ (((gi y_5 b0_1 4 ≤ l2) → (mSV mX8_keeps [.ref b0] K y_5 (fun y_17 => mSV mX8_goes [.ref b0, .int l1, .int (1 <<< (l2 &&& 31)), .int r_6, .int 0] K y_17 (fun y_18 => Q r_6 y_18)))) ∧ (¬ (gi y_5 b0_1 4 ≤ l2) → (Q (-6) y_5))))))))))) ∧ (¬ (0 ≤ l2 ∧ l2 ≤ gi x b0_1 0 - 1) → (Q (-2) x))))))) : mSI mX8_fly [.ref b0, .int l1, .int l2] K x Q := by
  refine s_I (by decide) (by simp [Value.category]) (Nat.le_of_ble_eq_true rfl) ?_
  show mGM mX8_fly 0 [some (.ref b0), some (.int l1), some (.int l2), none] [] (hp K x) (PI K Q)
  refine r_aload_n (pc := 0) dX8_fly_0 rfl ?_
  refine r_iload_n (pc := 1) dX8_fly_1 rfl ?_
  obtain ⟨i_1, K0⟩ := K0
  refine s_VI (pc := 2) mX8_isSeries (ci := 8) (a := b0) (As := [.int l1]) dX8_fly_2 lk_X8_273 in_X8_isSeries mo_X8_isSeries ⟨by decide, rfl⟩ ⟨by decide, by decide⟩ (Nat.le_of_ble_eq_true rfl) k_b0 (sp_X8_isSeries k_b0 g_b0_1 k_b0_1 i_1 ?_)
  refine r_if_eq (pc := 5) (tgt := 16) dX8_fly_5 (by decide) (fun q => ?_) (fun q => ?_)
  · have q := (b2i_z _).mp q
    have K0 := K0.1 q
    refine r_bipush (pc := 16) (v := (-2)) dX8_fly_16 (by decide) ?_
    exact s_iret rfl dX8_fly_18 K0
  · have q := b2i_nz q
    have K0 := K0.2 q
    refine r_aload_n (pc := 8) dX8_fly_8 rfl ?_
    refine r_iload_n (pc := 9) dX8_fly_9 rfl ?_
    obtain ⟨i_3, K0⟩ := K0
    refine s_VI (pc := 10) mX8_isWeek (ci := 8) (a := b0) (As := [.int l2]) dX8_fly_10 lk_X8_57 in_X8_isWeek mo_X8_isWeek ⟨by decide, rfl⟩ ⟨by decide, by decide⟩ (Nat.le_of_ble_eq_true rfl) k_b0 (sp_X8_isWeek k_b0 g_b0_1 k_b0_1 i_3 ?_)
    refine r_if_ne (pc := 13) (tgt := 19) dX8_fly_13 (by decide) (fun q => ?_) (fun q => ?_)
    · have q := b2i_nz q
      have K0 := K0.1 q
      refine r_aload_n (pc := 19) dX8_fly_19 rfl ?_
      refine r_iload_n (pc := 20) dX8_fly_20 rfl ?_
      refine r_iload_n (pc := 21) dX8_fly_21 rfl ?_
      refine s_VI (pc := 22) mX8_stateOf (ci := 8) (a := b0) (As := [.int l1, .int l2]) dX8_fly_22 lk_X8_278 in_X8_stateOf mo_X8_stateOf ⟨by decide, rfl⟩ ⟨by decide, by decide⟩ (Nat.le_of_ble_eq_true rfl) k_b0 (mSI_mono K0 (fun r_6 y_5 K0 => ?_))
      refine r_istore_n (pc := 25) dX8_fly_25 (by decide) ?_
      refine r_iload_n (pc := 26) (L := [some (.ref b0), some (.int l1), some (.int l2), some (.int r_6)]) dX8_fly_26 rfl ?_
      refine r_iconst (pc := 27) (v := 2) dX8_fly_27 (by decide) ?_
      refine r_icmp_eq (pc := 28) (tgt := 36) dX8_fly_28 (by decide) (fun q => ?_) (fun q => ?_)
      · have K0 := K0.1 q
        refine r_aload_n (pc := 36) dX8_fly_36 rfl ?_
        refine r_iload_n (pc := 37) dX8_fly_37 rfl ?_
        obtain ⟨g_8, K0⟩ := K0
        obtain ⟨i_9, K0⟩ := K0
        refine s_VI (pc := 38) mX8_isComing (ci := 8) (a := b0) (As := [.int l2]) dX8_fly_38 lk_X8_363 in_X8_isComing mo_X8_isComing ⟨by decide, rfl⟩ ⟨by decide, by decide⟩ (Nat.le_of_ble_eq_true rfl) k_b0 (sp_X8_isComing k_b0 g_8 k_b0_1 i_9 ?_)
        refine r_if_ne (pc := 41) (tgt := 47) dX8_fly_41 (by decide) (fun q => ?_) (fun q => ?_)
        · have q := b2i_nz q
          have K0 := K0.1 q
          refine r_aload_n (pc := 47) dX8_fly_47 rfl ?_
          refine s_VV (pc := 48) mX8_keeps (ci := 8) (a := b0) (As := []) dX8_fly_48 lk_X8_366 in_X8_keeps mo_X8_keeps ⟨by decide, rfl⟩ ⟨by decide, by decide⟩ (Nat.le_of_ble_eq_true rfl) k_b0 (mSV_mono K0 (fun y_11 K0 => ?_))
          refine r_aload_n (pc := 51) dX8_fly_51 rfl ?_
          refine r_iload_n (pc := 52) dX8_fly_52 rfl ?_
          refine r_iconst (pc := 53) (v := 1) dX8_fly_53 (by decide) ?_
          refine r_iload_n (pc := 54) dX8_fly_54 rfl ?_
          refine r_ishl (pc := 55) dX8_fly_55 ?_
          refine r_iload_n (pc := 56) dX8_fly_56 rfl ?_
          refine r_iconst (pc := 57) (v := 0) dX8_fly_57 (by decide) ?_
          refine s_VV (pc := 58) mX8_goes (ci := 8) (a := b0) (As := [.int l1, .int (1 <<< (l2 &&& 31)), .int r_6, .int 0]) dX8_fly_58 lk_X8_369 in_X8_goes mo_X8_goes ⟨by decide, rfl⟩ ⟨by decide, by decide⟩ (Nat.le_of_ble_eq_true rfl) k_b0 (mSV_mono K0 (fun y_12 K0 => ?_))
          refine r_iload_n (pc := 61) dX8_fly_61 rfl ?_
          exact s_iret rfl dX8_fly_62 K0
        · have q := (b2i_z _).mp q
          have K0 := K0.2 q
          refine r_bipush (pc := 44) (v := (-6)) dX8_fly_44 (by decide) ?_
          exact s_iret rfl dX8_fly_46 K0
      · have K0 := K0.2 q
        refine r_iload_n (pc := 31) dX8_fly_31 rfl ?_
        refine r_iconst (pc := 32) (v := 3) dX8_fly_32 (by decide) ?_
        refine r_icmp_ne (pc := 33) (tgt := 44) dX8_fly_33 (by decide) (fun q => ?_) (fun q => ?_)
        · have K0 := K0.1 q
          refine r_bipush (pc := 44) (v := (-6)) dX8_fly_44 (by decide) ?_
          exact s_iret rfl dX8_fly_46 K0
        · have K0 := K0.2 q
          refine r_aload_n (pc := 36) dX8_fly_36 rfl ?_
          refine r_iload_n (pc := 37) dX8_fly_37 rfl ?_
          obtain ⟨g_14, K0⟩ := K0
          obtain ⟨i_15, K0⟩ := K0
          refine s_VI (pc := 38) mX8_isComing (ci := 8) (a := b0) (As := [.int l2]) dX8_fly_38 lk_X8_363 in_X8_isComing mo_X8_isComing ⟨by decide, rfl⟩ ⟨by decide, by decide⟩ (Nat.le_of_ble_eq_true rfl) k_b0 (sp_X8_isComing k_b0 g_14 k_b0_1 i_15 ?_)
          refine r_if_ne (pc := 41) (tgt := 47) dX8_fly_41 (by decide) (fun q => ?_) (fun q => ?_)
          · have q := b2i_nz q
            have K0 := K0.1 q
            refine r_aload_n (pc := 47) dX8_fly_47 rfl ?_
            refine s_VV (pc := 48) mX8_keeps (ci := 8) (a := b0) (As := []) dX8_fly_48 lk_X8_366 in_X8_keeps mo_X8_keeps ⟨by decide, rfl⟩ ⟨by decide, by decide⟩ (Nat.le_of_ble_eq_true rfl) k_b0 (mSV_mono K0 (fun y_17 K0 => ?_))
            refine r_aload_n (pc := 51) dX8_fly_51 rfl ?_
            refine r_iload_n (pc := 52) dX8_fly_52 rfl ?_
            refine r_iconst (pc := 53) (v := 1) dX8_fly_53 (by decide) ?_
            refine r_iload_n (pc := 54) dX8_fly_54 rfl ?_
            refine r_ishl (pc := 55) dX8_fly_55 ?_
            refine r_iload_n (pc := 56) dX8_fly_56 rfl ?_
            refine r_iconst (pc := 57) (v := 0) dX8_fly_57 (by decide) ?_
            refine s_VV (pc := 58) mX8_goes (ci := 8) (a := b0) (As := [.int l1, .int (1 <<< (l2 &&& 31)), .int r_6, .int 0]) dX8_fly_58 lk_X8_369 in_X8_goes mo_X8_goes ⟨by decide, rfl⟩ ⟨by decide, by decide⟩ (Nat.le_of_ble_eq_true rfl) k_b0 (mSV_mono K0 (fun y_18 K0 => ?_))
            refine r_iload_n (pc := 61) dX8_fly_61 rfl ?_
            exact s_iret rfl dX8_fly_62 K0
          · have q := (b2i_z _).mp q
            have K0 := K0.2 q
            refine r_bipush (pc := 44) (v := (-6)) dX8_fly_44 (by decide) ?_
            exact s_iret rfl dX8_fly_46 K0
    · have q := (b2i_z _).mp q
      have K0 := K0.2 q
      refine r_bipush (pc := 16) (v := (-2)) dX8_fly_16 (by decide) ?_
      exact s_iret rfl dX8_fly_18 K0
section
variable {y : Cn} {Q : Int32 → Cn → Prop} {T : TT} {W C S A N n : Nat} {H : Nat → TT}
theorem sq_X8_fly {a b : Int32} (r : RS y T n H) (F : WF T W C S A N) (k1 : ¬ ((0 ≤ a ∧ a < nI S) ∧ (0 ≤ b ∧ b < nI W)) → Q (-2) y) (k2 : (0 ≤ a ∧ a < nI S) → (0 ≤ b ∧ b < nI W) → ¬ ((stt T a.toNatClampNeg b.toNatClampNeg = 2 ∨ stt T a.toNatClampNeg b.toNatClampNeg = 3) ∧ nI N ≤ b) → Q (-6) y) (k3 : (0 ≤ a ∧ a < nI S) → (0 ≤ b ∧ b < nI W) → ∀ k, k = 2 ∨ k = 3 → stt T a.toNatClampNeg b.toNatClampNeg = nI k → nI N ≤ b → ∀ z, RFr y z → RS z (goT T a.toNatClampNeg (wb b) k 0) (pn n) (push H n T) → Q (nI k) z) : mSI mX8_fly [.ref 717, .int a, .int b] KW y Q := by
  have hS : S ≤ 24 := F.2.2.2.2.2.2.1
  have hW : W ≤ 30 := F.2.2.1
  have M := r.1
  refine v_X8_fly_0 km M.1 km1 ⟨v0 (k := 2) (by decide) rfl rfl, ?_⟩
  rw [r.2.1, F.2.2.2.2.2.1, F.1, inN' (by omega), inN' (by omega)]
  refine ⟨fun z => k1 (fun u => z u.1), fun z1 => ⟨v0 (k := 0) (by decide) rfl rfl, fun z2 => ?_, fun z => k1 (fun u => z u.2)⟩⟩
  have k2 := k2 z1 z2
  have k3 := k3 z1 z2
  obtain ⟨s, hs, rfl⟩ := inN (by omega) z1
  obtain ⟨w, hw, rfl⟩ := inN (by omega) z2
  rw [nI_clamp (by omega), nI_clamp (by omega)] at k2
  rw [nI_clamp (by omega), nI_clamp (by omega)] at k3
  refine sp_X8_stateOf (by omega) (by omega) M km1 ?_
  rw [r.2.1, F.2.2.2.2.2.2.2.2.2.1]
  have go : ∀ k, k = 2 ∨ k = 3 → stt T s w = nI k → nI N ≤ nI w → mSV mX8_keeps [.ref 717] KW y (fun y_8 => mSV mX8_goes [.ref 717, .int (nI s), .int (1 <<< (nI w &&& 31)), .int (stt T s w), .int 0] KW y_8 (fun y_9 => Q (stt T s w) y_9)) := by
    intro k hk e e2
    rw [e]
    exact r.keeps (fun z f1 r1 => sp_X8_goes (o := 0) r1 (by omega) (by omega) (by decide) (by omega) (fun v f2 r2 => k3 k hk e e2 v (f1.tr f2) r2))
  refine ⟨fun u => ⟨M.1, v0 (k := 4) (by decide) rfl rfl, fun u2 => go 2 (Or.inl rfl) u u2, fun u2 => k2 (fun v => u2 v.2)⟩, fun u => ⟨fun u2 => k2 (fun v => v.1.elim u u2), fun u2 => ⟨M.1, v0 (k := 4) (by decide) rfl rfl, fun u3 => go 3 (Or.inr rfl) u2 u3, fun u3 => k2 (fun v => u3 v.2)⟩⟩⟩
/-- open weeks from one on -/
def opf (T : TT) (W s w : Nat) : Int32 := if W ≤ w then 0 else so T s 7 &&& f_span (nI w) (nI W - 1)
end
set_option maxHeartbeats 2000000 in
theorem v_X8_openFrom_0 {K : Sh} {x : Cn} {Q : Int32 → Cn → Prop} {b0 : Nat} {l1 : Int32} {l2 : Int32} {b0_1 : Nat} {n_b0_1 : Nat} {b0_3 : Nat} {n_b0_3 : Nat} (k_b0 : kk K b0 = some (8, 0)) (g_b0_1 : gr x b0 1 = some b0_1) (k_b0_1 : kk K b0_1 = some (20, n_b0_1)) (g_b0_3 : gr x b0 3 = some b0_3) (k_b0_3 : kk K b0_3 = some (20, n_b0_3)) (K0 : vp_in 0 n_b0_1 ∧ (((gi x b0_1 0) ≤ l2 → (Q 0 x)) ∧ (¬ (gi x b0_1 0) ≤ l2 → ((l24 l1 n_b0_3) ∧ (Q ((so (gi x b0_3) (l1 : Int32).toNatClampNeg 7) &&& (f_span l2 ((gi x b0_1 0) - 1))) x))))) : mSI mX8_openFrom [.ref b0, .int l1, .int l2] K x Q := by
  refine s_I (by decide) (by simp [Value.category]) (Nat.le_of_ble_eq_true rfl) ?_
  show mGM mX8_openFrom 0 [some (.ref b0), some (.int l1), some (.int l2)] [] (hp K x) (PI K Q)
  refine r_iload_n (pc := 0) dX8_openFrom_0 rfl ?_
  refine r_aload_n (pc := 1) dX8_openFrom_1 rfl ?_
  refine s_getR (pc := 2) dX8_openFrom_2 fl_X8_9 rfl k_b0 g_b0_1 ?_
  refine r_iconst (pc := 5) (v := 0) dX8_openFrom_5 (by decide) ?_
  obtain ⟨i_1, K0⟩ := K0
  refine s_iald (pc := 6) dX8_openFrom_6 k_b0_1 i_1 ?_
  refine r_icmp_ge (pc := 7) (tgt := 33) dX8_openFrom_7 (by decide) (fun q => ?_) (fun q => ?_)
  · have K0 := K0.1 q
    refine r_iconst (pc := 33) (v := 0) dX8_openFrom_33 (by decide) ?_
    exact s_iret rfl dX8_openFrom_34 K0
  · have K0 := K0.2 q
    refine r_aload_n (pc := 10) dX8_openFrom_10 rfl ?_
    refine r_iload_n (pc := 11) dX8_openFrom_11 rfl ?_
    refine r_bipush (pc := 12) (v := 7) dX8_openFrom_12 (by decide) ?_
    obtain ⟨p_3, K0⟩ := K0
    refine s_VI (pc := 14) mX8_one (ci := 8) (a := b0) (As := [.int l1, .int 7]) dX8_openFrom_14 lk_X8_67 in_X8_one mo_X8_one ⟨by decide, rfl⟩ ⟨by decide, by decide⟩ (Nat.le_of_ble_eq_true rfl) k_b0 (sr_X8_one k_b0 g_b0_3 k_b0_3 p_3 ⟨by decide, by decide⟩ ?_)
    refine r_iload_n (pc := 17) dX8_openFrom_17 rfl ?_
    refine r_aload_n (pc := 18) dX8_openFrom_18 rfl ?_
    refine s_getR (pc := 19) dX8_openFrom_19 fl_X8_9 rfl k_b0 g_b0_1 ?_
    refine r_iconst (pc := 22) (v := 0) dX8_openFrom_22 (by decide) ?_
    refine s_iald (pc := 23) dX8_openFrom_23 k_b0_1 i_1 ?_
    refine r_iconst (pc := 24) (v := 1) dX8_openFrom_24 (by decide) ?_
    refine r_isub (pc := 25) dX8_openFrom_25 ?_
    refine s_SI (pc := 26) mX8_span (As := [.int l2, .int ((gi x b0_1 0) - 1)]) dX8_openFrom_26 lk_X8_79 st_X8_span mo_X8_span ⟨by decide, by decide⟩ (Nat.le_of_ble_eq_true rfl) (sp_X8_span  ?_)
    refine r_iand (pc := 29) dX8_openFrom_29 ?_
    refine r_goto (pc := 30) (tgt := 34) dX8_openFrom_30 (by decide) ?_
    exact s_iret rfl dX8_openFrom_34 K0
section
variable {y : Cn} {Q : Int32 → Cn → Prop} {T : TT} {W C S A N n : Nat} {H : Nat → TT}
theorem sp_X8_openFrom {s w : Nat} (r : RS y T n H) (F : WF T W C S A N) (hs : s < 24) (hw : w < 100) (k : Q (opf T W s w) y) : mSI mX8_openFrom [.ref 717, .int (nI s), .int (nI w)] KW y Q := by
  have hW : W ≤ 30 := F.2.2.1
  have M := r.1
  refine v_X8_openFrom_0 km M.1 km1 M.2.2.1 km1 ⟨v0 (k := 0) (by decide) rfl rfl, ?_⟩
  rw [r.2.1, F.1, nI_leI (by omega) (by omega), nI_clamp (by omega)]
  unfold opf at k
  exact ⟨fun z => by rwa [if_pos z] at k, fun z => ⟨l24_nI hs rfl, by rwa [if_neg z] at k⟩⟩
theorem opf_eq {s w : Nat} (g : Wse T C W s) (hW : W ≤ 30) (hw : w < 100) : opf T W s w = so T s 7 &&& f_bf (nI w) := by
  have g8 := g.2.2.2.2.2.2.2
  unfold opf
  by_cases c : W ≤ w
  · rw [if_pos c]
    by_cases d : w ≤ 30
    · apply tb_ext
      intro i hi
      rw [tb_0, tb_and, tb_bf0 w (by omega) i hi]
      cases e : tb (so T s 7) i with
      | false => rfl
      | true =>
        have := g8 i 0 (by decide) e
        rw [decide_eq_false (by omega)]; rfl
    · unfold f_bf
      rw [if_neg (show ¬ nI w ≤ 30 from nI_ge (a := 30) (b := w) (by omega) (by omega))]
      exact (Int32.and_zero).symm
  · rw [if_neg c]
    apply tb_ext
    intro i hi
    rw [tb_and, tb_and, tb_bf0 w (by omega) i hi, tb_fn hW (by omega) hi (by omega)]
    cases e : tb (so T s 7) i with
    | false => rfl
    | true =>
      have := g8 i 0 (by decide) e
      rw [Bool.true_and, Bool.true_and]
      apply decide_eq_decide.mpr
      omega
end
set_option maxHeartbeats 2000000 in
theorem v_X7_back_0 {K : Sh} {x : Cn} {Q : Int32 → Cn → Prop} {b0 : Nat} {l1 : Int32} {l2 : Int32} {b0_2 : Nat} {b0_2_7 : Nat} {n_b0_2_7 : Nat} (k_b0 : kk K b0 = some (7, 0)) (g_b0_2 : gr x b0 2 = some b0_2) (k_b0_2 : kk K b0_2 = some (4, 0)) (g_b0_2_7 : gr x b0_2 7 = some b0_2_7) (k_b0_2_7 : kk K b0_2_7 = some (23, n_b0_2_7)) (K0 : (¬ (0 ≤ l1 ∧ l1 < gi x b0_2 3) → (Q (-2) x)) ∧ ((0 ≤ l1 ∧ l1 < gi x b0_2 3) → (((0 ≤ l2 ∧ l2 < gi x b0_2 0) → ((((gi x b0_2 1) + 4) ≤ l2 → (vp_in l1 n_b0_2_7 ∧ (∃ c_5 : Nat, gr x b0_2_7 ((l1 : Int32).toNatClampNeg) = some c_5 ∧ (kk K c_5 = some (5, 0) ∧ ((((f_open x c_5) &&& (f_bf l2)) = 0 → (Q (nI (cpt ((f_open x c_5) &&& (f_bf l2)))) x)) ∧ (¬ ((f_open x c_5) &&& (f_bf l2)) = 0 → (mSV mX7_remember [.ref b0] K x (fun y_9 => Q (nI (cpt ((f_open x c_5) &&& (f_bf l2)))) (ui y_9 c_5 11 ((gi y_9 c_5 11) ||| ((f_open x c_5) &&& (f_bf l2)))))))))))) ∧ (¬ ((gi x b0_2 1) + 4) ≤ l2 → (Q (-6) x)))) ∧ (¬ (0 ≤ l2 ∧ l2 < gi x b0_2 0) → (Q (-2) x))))) : mSI mX7_back [.ref b0, .int l1, .int l2] K x Q := by
  refine s_I (by decide) (by simp [Value.category]) (Nat.le_of_ble_eq_true rfl) ?_
  show mGM mX7_back 0 [some (.ref b0), some (.int l1), some (.int l2), none, none] [] (hp K x) (PI K Q)
  refine r_aload_n (pc := 0) dX7_back_0 rfl ?_
  refine r_iload_n (pc := 1) dX7_back_1 rfl ?_
  refine s_VI (pc := 2) mX7_isSeries (ci := 7) (a := b0) (As := [.int l1]) dX7_back_2 lk_X7_132 in_X7_isSeries mo_X7_isSeries ⟨by decide, rfl⟩ ⟨by decide, by decide⟩ (Nat.le_of_ble_eq_true rfl) k_b0 (sp_X7_isSeries k_b0 g_b0_2 k_b0_2 ?_)
  refine r_if_eq (pc := 5) (tgt := 16) dX7_back_5 (by decide) (fun q => ?_) (fun q => ?_)
  · have q := (b2i_z _).mp q
    have K0 := K0.1 q
    refine r_bipush (pc := 16) (v := (-2)) dX7_back_16 (by decide) ?_
    exact s_iret rfl dX7_back_18 K0
  · have q := b2i_nz q
    have K0 := K0.2 q
    refine r_aload_n (pc := 8) dX7_back_8 rfl ?_
    refine r_iload_n (pc := 9) dX7_back_9 rfl ?_
    refine s_VI (pc := 10) mX7_isWeek (ci := 7) (a := b0) (As := [.int l2]) dX7_back_10 lk_X7_167 in_X7_isWeek mo_X7_isWeek ⟨by decide, rfl⟩ ⟨by decide, by decide⟩ (Nat.le_of_ble_eq_true rfl) k_b0 (sp_X7_isWeek k_b0 g_b0_2 k_b0_2 ?_)
    refine r_if_ne (pc := 13) (tgt := 19) dX7_back_13 (by decide) (fun q => ?_) (fun q => ?_)
    · have q := b2i_nz q
      have K0 := K0.1 q
      refine r_iload_n (pc := 19) dX7_back_19 rfl ?_
      refine r_aload_n (pc := 20) dX7_back_20 rfl ?_
      refine s_getR (pc := 21) dX7_back_21 fl_X7_20 rfl k_b0 g_b0_2 ?_
      refine s_getI (pc := 24) dX7_back_24 fl_X7_103 rfl k_b0_2 ?_
      refine r_iconst (pc := 27) (v := 4) dX7_back_27 (by decide) ?_
      refine r_iadd (pc := 28) dX7_back_28 ?_
      refine r_icmp_ge (pc := 29) (tgt := 35) dX7_back_29 (by decide) (fun q => ?_) (fun q => ?_)
      · have K0 := K0.1 q
        refine r_aload_n (pc := 35) dX7_back_35 rfl ?_
        refine s_getR (pc := 36) dX7_back_36 fl_X7_20 rfl k_b0 g_b0_2 ?_
        refine s_getR (pc := 39) dX7_back_39 fl_X7_135 rfl k_b0_2 g_b0_2_7 ?_
        refine r_iload_n (pc := 42) dX7_back_42 rfl ?_
        obtain ⟨i_4, K0⟩ := K0
        obtain ⟨c_5, g_6, K0⟩ := K0
        refine s_aald (pc := 43) dX7_back_43 (by decide) rfl k_b0_2_7 i_4 g_6 ?_
        refine r_astore_n (pc := 44) dX7_back_44 (by decide) ?_
        refine r_aload_n (pc := 45) (L := [some (.ref b0), some (.int l1), some (.int l2), some (.ref c_5), none]) dX7_back_45 rfl ?_
        obtain ⟨e_7, K0⟩ := K0
        refine s_VI (pc := 46) mX5_openBits (ci := 5) (a := c_5) (As := []) dX7_back_46 lk_X7_339 in_X5_openBits mo_X5_openBits ⟨by decide, rfl⟩ ⟨by decide, by decide⟩ (Nat.le_of_ble_eq_true rfl) e_7 (sp_X5_openBits e_7 ?_)
        refine r_iload_n (pc := 49) dX7_back_49 rfl ?_
        refine s_SI (pc := 50) mX7_bitsFrom (As := [.int l2]) dX7_back_50 lk_X7_342 st_X7_bitsFrom mo_X7_bitsFrom ⟨by decide, by decide⟩ (Nat.le_of_ble_eq_true rfl) (sp_X7_bitsFrom  ?_)
        refine r_iand (pc := 53) dX7_back_53 ?_
        refine r_istore (pc := 54) dX7_back_54 (by decide) ?_
        refine r_iload (pc := 56) (L := [some (.ref b0), some (.int l1), some (.int l2), some (.ref c_5), some (.int ((f_open x c_5) &&& (f_bf l2)))]) dX7_back_56 rfl ?_
        refine r_if_eq (pc := 58) (tgt := 76) dX7_back_58 (by decide) (fun q => ?_) (fun q => ?_)
        · have K0 := K0.1 q
          refine r_iload (pc := 76) dX7_back_76 rfl ?_
          refine s_SI (pc := 78) mJ6_bitCount_0f7a4 (As := [.int ((f_open x c_5) &&& (f_bf l2))]) dX7_back_78 lk_X7_255 st_J6_bitCount_0f7a4 mo_J6_bitCount_0f7a4 ⟨by decide, by decide⟩ (Nat.le_of_ble_eq_true rfl) (sp_bc  ?_)
          exact s_iret rfl dX7_back_81 K0
        · have K0 := K0.2 q
          refine r_aload_n (pc := 61) dX7_back_61 rfl ?_
          refine s_VV (pc := 62) mX7_remember (ci := 7) (a := b0) (As := []) dX7_back_62 lk_X7_333 in_X7_remember mo_X7_remember ⟨by decide, rfl⟩ ⟨by decide, by decide⟩ (Nat.le_of_ble_eq_true rfl) k_b0 (mSV_mono K0 (fun y_9 K0 => ?_))
          refine r_aload_n (pc := 65) dX7_back_65 rfl ?_
          refine r_dup (pc := 66) dX7_back_66 rfl ?_
          refine s_getI (pc := 67) dX7_back_67 fl_X7_345 rfl e_7 ?_
          refine r_iload (pc := 70) dX7_back_70 rfl ?_
          refine r_ior (pc := 72) dX7_back_72 ?_
          refine s_putI (pc := 73) dX7_back_73 fl_X7_345 rfl rfl e_7 ?_
          refine r_iload (pc := 76) dX7_back_76 rfl ?_
          refine s_SI (pc := 78) mJ6_bitCount_0f7a4 (As := [.int ((f_open x c_5) &&& (f_bf l2))]) dX7_back_78 lk_X7_255 st_J6_bitCount_0f7a4 mo_J6_bitCount_0f7a4 ⟨by decide, by decide⟩ (Nat.le_of_ble_eq_true rfl) (sp_bc  ?_)
          exact s_iret rfl dX7_back_81 K0
      · have K0 := K0.2 q
        refine r_bipush (pc := 32) (v := (-6)) dX7_back_32 (by decide) ?_
        exact s_iret rfl dX7_back_34 K0
    · have q := (b2i_z _).mp q
      have K0 := K0.2 q
      refine r_bipush (pc := 16) (v := (-2)) dX7_back_16 (by decide) ?_
      exact s_iret rfl dX7_back_18 K0
set_option maxHeartbeats 2000000 in
theorem v_X8_back_0 {K : Sh} {x : Cn} {Q : Int32 → Cn → Prop} {b0 : Nat} {l1 : Int32} {l2 : Int32} {b0_1 : Nat} {n_b0_1 : Nat} (k_b0 : kk K b0 = some (8, 0)) (g_b0_1 : gr x b0 1 = some b0_1) (k_b0_1 : kk K b0_1 = some (20, n_b0_1)) (K0 : vp_in 2 n_b0_1 ∧ ((¬ (0 ≤ l1 ∧ l1 ≤ gi x b0_1 2 - 1) → (Q (-2) x)) ∧ ((0 ≤ l1 ∧ l1 ≤ gi x b0_1 2 - 1) → (vp_in 0 n_b0_1 ∧ (((0 ≤ l2 ∧ l2 ≤ gi x b0_1 0 - 1) → (vp_in 4 n_b0_1 ∧ ((((gi x b0_1 4) + 4) ≤ l2 → (mSI mX8_openFrom [.ref b0, .int l1, .int l2] K x (fun r_8 y_7 => (¬ r_8 = 0 → (mSV mX8_keeps [.ref b0] K y_7 (fun y_10 => mSV mX8_goes [.ref b0, .int l1, .int r_8, .int 0, .int 4] K y_10 (fun y_11 => Q (nI (cpt r_8)) y_11)))) ∧ (r_8 = 0 → (Q 0 y_7))))) ∧ (¬ ((gi x b0_1 4) + 4) ≤ l2 → (Q (-6) x))))) ∧ (¬ (0 ≤ l2 ∧ l2 ≤ gi x b0_1 0 - 1) → (Q (-2) x))))))) : mSI mX8_back [.ref b0, .int l1, .int l2] K x Q := by
  refine s_I (by decide) (by simp [Value.category]) (Nat.le_of_ble_eq_true rfl) ?_
  show mGM mX8_back 0 [some (.ref b0), some (.int l1), some (.int l2), none] [] (hp K x) (PI K Q)
  refine r_aload_n (pc := 0) dX8_back_0 rfl ?_
  refine r_iload_n (pc := 1) dX8_back_1 rfl ?_
  obtain ⟨i_1, K0⟩ := K0
  refine s_VI (pc := 2) mX8_isSeries (ci := 8) (a := b0) (As := [.int l1]) dX8_back_2 lk_X8_273 in_X8_isSeries mo_X8_isSeries ⟨by decide, rfl⟩ ⟨by decide, by decide⟩ (Nat.le_of_ble_eq_true rfl) k_b0 (sp_X8_isSeries k_b0 g_b0_1 k_b0_1 i_1 ?_)
  refine r_if_eq (pc := 5) (tgt := 16) dX8_back_5 (by decide) (fun q => ?_) (fun q => ?_)
  · have q := (b2i_z _).mp q
    have K0 := K0.1 q
    refine r_bipush (pc := 16) (v := (-2)) dX8_back_16 (by decide) ?_
    exact s_iret rfl dX8_back_18 K0
  · have q := b2i_nz q
    have K0 := K0.2 q
    refine r_aload_n (pc := 8) dX8_back_8 rfl ?_
    refine r_iload_n (pc := 9) dX8_back_9 rfl ?_
    obtain ⟨i_3, K0⟩ := K0
    refine s_VI (pc := 10) mX8_isWeek (ci := 8) (a := b0) (As := [.int l2]) dX8_back_10 lk_X8_57 in_X8_isWeek mo_X8_isWeek ⟨by decide, rfl⟩ ⟨by decide, by decide⟩ (Nat.le_of_ble_eq_true rfl) k_b0 (sp_X8_isWeek k_b0 g_b0_1 k_b0_1 i_3 ?_)
    refine r_if_ne (pc := 13) (tgt := 19) dX8_back_13 (by decide) (fun q => ?_) (fun q => ?_)
    · have q := b2i_nz q
      have K0 := K0.1 q
      refine r_iload_n (pc := 19) dX8_back_19 rfl ?_
      refine r_aload_n (pc := 20) dX8_back_20 rfl ?_
      refine s_getR (pc := 21) dX8_back_21 fl_X8_9 rfl k_b0 g_b0_1 ?_
      refine r_iconst (pc := 24) (v := 4) dX8_back_24 (by decide) ?_
      obtain ⟨i_5, K0⟩ := K0
      refine s_iald (pc := 25) dX8_back_25 k_b0_1 i_5 ?_
      refine r_iconst (pc := 26) (v := 4) dX8_back_26 (by decide) ?_
      refine r_iadd (pc := 27) dX8_back_27 ?_
      refine r_icmp_ge (pc := 28) (tgt := 34) dX8_back_28 (by decide) (fun q => ?_) (fun q => ?_)
      · have K0 := K0.1 q
        refine r_aload_n (pc := 34) dX8_back_34 rfl ?_
        refine r_iload_n (pc := 35) dX8_back_35 rfl ?_
        refine r_iload_n (pc := 36) dX8_back_36 rfl ?_
        refine s_VI (pc := 37) mX8_openFrom (ci := 8) (a := b0) (As := [.int l1, .int l2]) dX8_back_37 lk_X8_373 in_X8_openFrom mo_X8_openFrom ⟨by decide, rfl⟩ ⟨by decide, by decide⟩ (Nat.le_of_ble_eq_true rfl) k_b0 (mSI_mono K0 (fun r_8 y_7 K0 => ?_))
        refine r_istore_n (pc := 40) dX8_back_40 (by decide) ?_
        refine r_iload_n (pc := 41) (L := [some (.ref b0), some (.int l1), some (.int l2), some (.int r_8)]) dX8_back_41 rfl ?_
        refine r_if_ne (pc := 42) (tgt := 47) dX8_back_42 (by decide) (fun q => ?_) (fun q => ?_)
        · have K0 := K0.1 q
          refine r_aload_n (pc := 47) dX8_back_47 rfl ?_
          refine s_VV (pc := 48) mX8_keeps (ci := 8) (a := b0) (As := []) dX8_back_48 lk_X8_366 in_X8_keeps mo_X8_keeps ⟨by decide, rfl⟩ ⟨by decide, by decide⟩ (Nat.le_of_ble_eq_true rfl) k_b0 (mSV_mono K0 (fun y_10 K0 => ?_))
          refine r_aload_n (pc := 51) dX8_back_51 rfl ?_
          refine r_iload_n (pc := 52) dX8_back_52 rfl ?_
          refine r_iload_n (pc := 53) dX8_back_53 rfl ?_
          refine r_iconst (pc := 54) (v := 0) dX8_back_54 (by decide) ?_
          refine r_iconst (pc := 55) (v := 4) dX8_back_55 (by decide) ?_
          refine s_VV (pc := 56) mX8_goes (ci := 8) (a := b0) (As := [.int l1, .int r_8, .int 0, .int 4]) dX8_back_56 lk_X8_369 in_X8_goes mo_X8_goes ⟨by decide, rfl⟩ ⟨by decide, by decide⟩ (Nat.le_of_ble_eq_true rfl) k_b0 (mSV_mono K0 (fun y_11 K0 => ?_))
          refine r_iload_n (pc := 59) dX8_back_59 rfl ?_
          refine s_SI (pc := 60) mX8_bits (As := [.int r_8]) dX8_back_60 lk_X8_296 st_X8_bits mo_X8_bits ⟨by decide, by decide⟩ (Nat.le_of_ble_eq_true rfl) (sp_X8_bits  ?_)
          exact s_iret rfl dX8_back_63 K0
        · have K0 := K0.2 q
          refine r_iconst (pc := 45) (v := 0) dX8_back_45 (by decide) ?_
          exact s_iret rfl dX8_back_46 K0
      · have K0 := K0.2 q
        refine r_bipush (pc := 31) (v := (-6)) dX8_back_31 (by decide) ?_
        exact s_iret rfl dX8_back_33 K0
    · have q := (b2i_z _).mp q
      have K0 := K0.2 q
      refine r_bipush (pc := 16) (v := (-2)) dX8_back_16 (by decide) ?_
      exact s_iret rfl dX8_back_18 K0
section
variable {y : Cn} {Q : Int32 → Cn → Prop} {T : TT} {W C S A N n : Nat} {H : Nat → TT}
theorem sq_X8_back {a b : Int32} (r : RS y T n H) (F : WF T W C S A N) (k1 : ¬ ((0 ≤ a ∧ a < nI S) ∧ (0 ≤ b ∧ b < nI W)) → Q (-2) y) (k2 : (0 ≤ a ∧ a < nI S) → (0 ≤ b ∧ b < nI W) → ¬ nI N + 4 ≤ b → Q (-6) y) (k3 : (0 ≤ a ∧ a < nI S) → (0 ≤ b ∧ b < nI W) → nI N + 4 ≤ b → opf T W a.toNatClampNeg b.toNatClampNeg = 0 → Q 0 y) (k4 : (0 ≤ a ∧ a < nI S) → (0 ≤ b ∧ b < nI W) → nI N + 4 ≤ b → ¬ opf T W a.toNatClampNeg b.toNatClampNeg = 0 → ∀ z, RFr y z → RS z (goT T a.toNatClampNeg (opf T W a.toNatClampNeg b.toNatClampNeg) 0 4) (pn n) (push H n T) → Q (nI (cpt (opf T W a.toNatClampNeg b.toNatClampNeg))) z) : mSI mX8_back [.ref 717, .int a, .int b] KW y Q := by
  have hS : S ≤ 24 := F.2.2.2.2.2.2.1
  have hW : W ≤ 30 := F.2.2.1
  have M := r.1
  refine v_X8_back_0 km M.1 km1 ⟨v0 (k := 2) (by decide) rfl rfl, ?_⟩
  rw [r.2.1, F.2.2.2.2.2.1, F.1, inN' (by omega), inN' (by omega), F.2.2.2.2.2.2.2.2.2.1]
  refine ⟨fun z => k1 (fun u => z u.1), fun z1 => ⟨v0 (k := 0) (by decide) rfl rfl, fun z2 => ⟨v0 (k := 4) (by decide) rfl rfl, fun u => ?_, fun u => k2 z1 z2 u⟩, fun z => k1 (fun u => z u.2)⟩⟩
  have k3 := k3 z1 z2 u
  have k4 := k4 z1 z2 u
  obtain ⟨s, hs, rfl⟩ := inN (by omega) z1
  obtain ⟨w, hw, rfl⟩ := inN (by omega) z2
  rw [nI_clamp (by omega), nI_clamp (by omega)] at k3
  rw [nI_clamp (by omega), nI_clamp (by omega)] at k4
  refine sp_X8_openFrom r F (by omega) (by omega) ⟨fun v => ?_, fun v => k3 v⟩
  exact r.keeps (fun z f1 r1 => sp_X8_goes (k := 0) (o := 4) r1 (by omega) (by decide) (by decide) (by decide) (fun z2 f2 r2 => k4 v z2 (f1.tr f2) r2))
end
set_option maxHeartbeats 2000000 in
theorem v_X7_retime_0 {K : Sh} {x : Cn} {Q : Int32 → Cn → Prop} {b0 : Nat} {l1 : Int32} {l2 : Int32} {b0_2 : Nat} (k_b0 : kk K b0 = some (7, 0)) (g_b0_2 : gr x b0 2 = some b0_2) (k_b0_2 : kk K b0_2 = some (4, 0)) (K0 : (¬ (0 ≤ l1 ∧ l1 < gi x b0_2 3) → (Q (-2) x)) ∧ ((0 ≤ l1 ∧ l1 < gi x b0_2 3) → (((0 < gi x b0_2 0 ∧ 0 ≤ l2 ∧ l2 < 24) → (mSI mX7_canRetime [.ref b0, .int l1, .int l2] K x (fun r_4 y_3 => (¬ r_4 = 0 → (mSV mX7_remember [.ref b0] K y_3 (fun y_6 => gr y_6 b0 2 = some b0_2 ∧ (∃ c_8 : Nat, gr y_6 b0_2 7 = some c_8 ∧ (∃ n_11 : Nat, kk K c_8 = some (23, n_11) ∧ (vp_in l1 n_11 ∧ (∃ c_13 : Nat, gr y_6 c_8 ((l1 : Int32).toNatClampNeg) = some c_13 ∧ (kk K c_13 = some (5, 0) ∧ (Q (gi y_6 c_13 2) (ui y_6 c_13 2 l2)))))))))) ∧ (r_4 = 0 → (Q (-6) y_3))))) ∧ (¬ (0 < gi x b0_2 0 ∧ 0 ≤ l2 ∧ l2 < 24) → (Q (-2) x))))) : mSI mX7_retime [.ref b0, .int l1, .int l2] K x Q := by
  refine s_I (by decide) (by simp [Value.category]) (Nat.le_of_ble_eq_true rfl) ?_
  show mGM mX7_retime 0 [some (.ref b0), some (.int l1), some (.int l2), none] [] (hp K x) (PI K Q)
  refine r_aload_n (pc := 0) dX7_retime_0 rfl ?_
  refine r_iload_n (pc := 1) dX7_retime_1 rfl ?_
  refine s_VI (pc := 2) mX7_isSeries (ci := 7) (a := b0) (As := [.int l1]) dX7_retime_2 lk_X7_132 in_X7_isSeries mo_X7_isSeries ⟨by decide, rfl⟩ ⟨by decide, by decide⟩ (Nat.le_of_ble_eq_true rfl) k_b0 (sp_X7_isSeries k_b0 g_b0_2 k_b0_2 ?_)
  refine r_if_eq (pc := 5) (tgt := 16) dX7_retime_5 (by decide) (fun q => ?_) (fun q => ?_)
  · have q := (b2i_z _).mp q
    have K0 := K0.1 q
    refine r_bipush (pc := 16) (v := (-2)) dX7_retime_16 (by decide) ?_
    exact s_iret rfl dX7_retime_18 K0
  · have q := b2i_nz q
    have K0 := K0.2 q
    refine r_aload_n (pc := 8) dX7_retime_8 rfl ?_
    refine r_iload_n (pc := 9) dX7_retime_9 rfl ?_
    refine s_VI (pc := 10) mX7_isHour (ci := 7) (a := b0) (As := [.int l2]) dX7_retime_10 lk_X7_195 in_X7_isHour mo_X7_isHour ⟨by decide, rfl⟩ ⟨by decide, by decide⟩ (Nat.le_of_ble_eq_true rfl) k_b0 (sp_X7_isHour k_b0 g_b0_2 k_b0_2 ?_)
    refine r_if_ne (pc := 13) (tgt := 19) dX7_retime_13 (by decide) (fun q => ?_) (fun q => ?_)
    · have q := b2i_nz q
      have K0 := K0.1 q
      refine r_aload_n (pc := 19) dX7_retime_19 rfl ?_
      refine r_iload_n (pc := 20) dX7_retime_20 rfl ?_
      refine r_iload_n (pc := 21) dX7_retime_21 rfl ?_
      refine s_VI (pc := 22) mX7_canRetime (ci := 7) (a := b0) (As := [.int l1, .int l2]) dX7_retime_22 lk_X7_327 in_X7_canRetime mo_X7_canRetime ⟨by decide, rfl⟩ ⟨by decide, by decide⟩ (Nat.le_of_ble_eq_true rfl) k_b0 (mSI_mono K0 (fun r_4 y_3 K0 => ?_))
      refine r_if_ne (pc := 25) (tgt := 31) dX7_retime_25 (by decide) (fun q => ?_) (fun q => ?_)
      · have K0 := K0.1 q
        refine r_aload_n (pc := 31) dX7_retime_31 rfl ?_
        refine s_VV (pc := 32) mX7_remember (ci := 7) (a := b0) (As := []) dX7_retime_32 lk_X7_333 in_X7_remember mo_X7_remember ⟨by decide, rfl⟩ ⟨by decide, by decide⟩ (Nat.le_of_ble_eq_true rfl) k_b0 (mSV_mono K0 (fun y_6 K0 => ?_))
        refine r_aload_n (pc := 35) dX7_retime_35 rfl ?_
        obtain ⟨g_7, K0⟩ := K0
        refine s_getR (pc := 36) dX7_retime_36 fl_X7_20 rfl k_b0 g_7 ?_
        obtain ⟨c_8, g_9, K0⟩ := K0
        refine s_getR (pc := 39) dX7_retime_39 fl_X7_135 rfl k_b0_2 g_9 ?_
        refine r_iload_n (pc := 42) dX7_retime_42 rfl ?_
        obtain ⟨n_11, e_10, K0⟩ := K0
        obtain ⟨i_12, K0⟩ := K0
        obtain ⟨c_13, g_14, K0⟩ := K0
        refine s_aald (pc := 43) dX7_retime_43 (by decide) rfl e_10 i_12 g_14 ?_
        obtain ⟨e_15, K0⟩ := K0
        refine s_getI (pc := 44) dX7_retime_44 fl_X7_147 rfl e_15 ?_
        refine r_istore_n (pc := 47) dX7_retime_47 (by decide) ?_
        refine r_aload_n (pc := 48) (L := [some (.ref b0), some (.int l1), some (.int l2), some (.int (gi y_6 c_13 2))]) dX7_retime_48 rfl ?_
        refine s_getR (pc := 49) dX7_retime_49 fl_X7_20 rfl k_b0 g_7 ?_
        refine s_getR (pc := 52) dX7_retime_52 fl_X7_135 rfl k_b0_2 g_9 ?_
        refine r_iload_n (pc := 55) dX7_retime_55 rfl ?_
        refine s_aald (pc := 56) dX7_retime_56 (by decide) rfl e_10 i_12 g_14 ?_
        refine r_iload_n (pc := 57) dX7_retime_57 rfl ?_
        refine s_putI (pc := 58) dX7_retime_58 fl_X7_147 rfl rfl e_15 ?_
        refine r_iload_n (pc := 61) dX7_retime_61 rfl ?_
        exact s_iret rfl dX7_retime_62 K0
      · have K0 := K0.2 q
        refine r_bipush (pc := 28) (v := (-6)) dX7_retime_28 (by decide) ?_
        exact s_iret rfl dX7_retime_30 K0
    · have q := (b2i_z _).mp q
      have K0 := K0.2 q
      refine r_bipush (pc := 16) (v := (-2)) dX7_retime_16 (by decide) ?_
      exact s_iret rfl dX7_retime_18 K0
set_option maxHeartbeats 2000000 in
theorem v_X8_retime_0 {K : Sh} {x : Cn} {Q : Int32 → Cn → Prop} {b0 : Nat} {l1 : Int32} {l2 : Int32} {b0_1 : Nat} {n_b0_1 : Nat} (k_b0 : kk K b0 = some (8, 0)) (g_b0_1 : gr x b0 1 = some b0_1) (k_b0_1 : kk K b0_1 = some (20, n_b0_1)) (K0 : vp_in 2 n_b0_1 ∧ ((¬ (0 ≤ l1 ∧ l1 ≤ gi x b0_1 2 - 1) → (Q (-2) x)) ∧ ((0 ≤ l1 ∧ l1 ≤ gi x b0_1 2 - 1) → (vp_in 0 n_b0_1 ∧ (((0 < gi x b0_1 0 ∧ 0 ≤ l2 ∧ l2 ≤ 23) → (mSI mX8_canRetime [.ref b0, .int l1, .int l2] K x (fun r_6 y_5 => (¬ r_6 = 0 → (mSV mX8_keeps [.ref b0] K y_5 (fun y_8 => ∃ c_9 : Nat, gr y_8 b0 3 = some c_9 ∧ (∃ n_12 : Nat, kk K c_9 = some (20, n_12) ∧ ((l24 l1 n_12) ∧ (mSV mX8_lays [.ref b0, .int l1, .int 2, .int l2] K y_8 (fun y_14 => Q (so (gi y_8 c_9) (l1 : Int32).toNatClampNeg 2) y_14))))))) ∧ (r_6 = 0 → (Q (-6) y_5))))) ∧ (¬ (0 < gi x b0_1 0 ∧ 0 ≤ l2 ∧ l2 ≤ 23) → (Q (-2) x))))))) : mSI mX8_retime [.ref b0, .int l1, .int l2] K x Q := by
  refine s_I (by decide) (by simp [Value.category]) (Nat.le_of_ble_eq_true rfl) ?_
  show mGM mX8_retime 0 [some (.ref b0), some (.int l1), some (.int l2), none] [] (hp K x) (PI K Q)
  refine r_aload_n (pc := 0) dX8_retime_0 rfl ?_
  refine r_iload_n (pc := 1) dX8_retime_1 rfl ?_
  obtain ⟨i_1, K0⟩ := K0
  refine s_VI (pc := 2) mX8_isSeries (ci := 8) (a := b0) (As := [.int l1]) dX8_retime_2 lk_X8_273 in_X8_isSeries mo_X8_isSeries ⟨by decide, rfl⟩ ⟨by decide, by decide⟩ (Nat.le_of_ble_eq_true rfl) k_b0 (sp_X8_isSeries k_b0 g_b0_1 k_b0_1 i_1 ?_)
  refine r_if_eq (pc := 5) (tgt := 16) dX8_retime_5 (by decide) (fun q => ?_) (fun q => ?_)
  · have q := (b2i_z _).mp q
    have K0 := K0.1 q
    refine r_bipush (pc := 16) (v := (-2)) dX8_retime_16 (by decide) ?_
    exact s_iret rfl dX8_retime_18 K0
  · have q := b2i_nz q
    have K0 := K0.2 q
    refine r_aload_n (pc := 8) dX8_retime_8 rfl ?_
    refine r_iload_n (pc := 9) dX8_retime_9 rfl ?_
    obtain ⟨i_3, K0⟩ := K0
    refine s_VI (pc := 10) mX8_isHour (ci := 8) (a := b0) (As := [.int l2]) dX8_retime_10 lk_X8_64 in_X8_isHour mo_X8_isHour ⟨by decide, rfl⟩ ⟨by decide, by decide⟩ (Nat.le_of_ble_eq_true rfl) k_b0 (sp_X8_isHour k_b0 g_b0_1 k_b0_1 i_3 ?_)
    refine r_if_ne (pc := 13) (tgt := 19) dX8_retime_13 (by decide) (fun q => ?_) (fun q => ?_)
    · have q := b2i_nz q
      have K0 := K0.1 q
      refine r_aload_n (pc := 19) dX8_retime_19 rfl ?_
      refine r_iload_n (pc := 20) dX8_retime_20 rfl ?_
      refine r_iload_n (pc := 21) dX8_retime_21 rfl ?_
      refine s_VI (pc := 22) mX8_canRetime (ci := 8) (a := b0) (As := [.int l1, .int l2]) dX8_retime_22 lk_X8_357 in_X8_canRetime mo_X8_canRetime ⟨by decide, rfl⟩ ⟨by decide, by decide⟩ (Nat.le_of_ble_eq_true rfl) k_b0 (mSI_mono K0 (fun r_6 y_5 K0 => ?_))
      refine r_if_ne (pc := 25) (tgt := 31) dX8_retime_25 (by decide) (fun q => ?_) (fun q => ?_)
      · have K0 := K0.1 q
        refine r_aload_n (pc := 31) dX8_retime_31 rfl ?_
        refine s_VV (pc := 32) mX8_keeps (ci := 8) (a := b0) (As := []) dX8_retime_32 lk_X8_366 in_X8_keeps mo_X8_keeps ⟨by decide, rfl⟩ ⟨by decide, by decide⟩ (Nat.le_of_ble_eq_true rfl) k_b0 (mSV_mono K0 (fun y_8 K0 => ?_))
        refine r_aload_n (pc := 35) dX8_retime_35 rfl ?_
        refine r_iload_n (pc := 36) dX8_retime_36 rfl ?_
        refine r_iconst (pc := 37) (v := 2) dX8_retime_37 (by decide) ?_
        obtain ⟨c_9, g_10, K0⟩ := K0
        obtain ⟨n_12, e_11, K0⟩ := K0
        obtain ⟨p_13, K0⟩ := K0
        refine s_VI (pc := 38) mX8_one (ci := 8) (a := b0) (As := [.int l1, .int 2]) dX8_retime_38 lk_X8_67 in_X8_one mo_X8_one ⟨by decide, rfl⟩ ⟨by decide, by decide⟩ (Nat.le_of_ble_eq_true rfl) k_b0 (sr_X8_one k_b0 g_10 e_11 p_13 ⟨by decide, by decide⟩ ?_)
        refine r_istore_n (pc := 41) dX8_retime_41 (by decide) ?_
        refine r_aload_n (pc := 42) (L := [some (.ref b0), some (.int l1), some (.int l2), some (.int (so (gi y_8 c_9) (l1 : Int32).toNatClampNeg 2))]) dX8_retime_42 rfl ?_
        refine r_iload_n (pc := 43) dX8_retime_43 rfl ?_
        refine r_iconst (pc := 44) (v := 2) dX8_retime_44 (by decide) ?_
        refine r_iload_n (pc := 45) dX8_retime_45 rfl ?_
        refine s_VV (pc := 46) mX8_lays (ci := 8) (a := b0) (As := [.int l1, .int 2, .int l2]) dX8_retime_46 lk_X8_230 in_X8_lays mo_X8_lays ⟨by decide, rfl⟩ ⟨by decide, by decide⟩ (Nat.le_of_ble_eq_true rfl) k_b0 (mSV_mono K0 (fun y_14 K0 => ?_))
        refine r_iload_n (pc := 49) dX8_retime_49 rfl ?_
        exact s_iret rfl dX8_retime_50 K0
      · have K0 := K0.2 q
        refine r_bipush (pc := 28) (v := (-6)) dX8_retime_28 (by decide) ?_
        exact s_iret rfl dX8_retime_30 K0
    · have q := (b2i_z _).mp q
      have K0 := K0.2 q
      refine r_bipush (pc := 16) (v := (-2)) dX8_retime_16 (by decide) ?_
      exact s_iret rfl dX8_retime_18 K0
section
variable {y : Cn} {Q : Int32 → Cn → Prop} {T : TT} {W C S A N n : Nat} {H : Nat → TT}
theorem sq_X8_retime {a b : Int32} (r : RS y T n H) (F : WF T W C S A N) (k1 : ¬ ((0 ≤ a ∧ a < nI S) ∧ (0 < nI W ∧ 0 ≤ b ∧ b < 24)) → Q (-2) y) (k2 : (0 ≤ a ∧ a < nI S) → (0 < nI W ∧ 0 ≤ b ∧ b < 24) → bP (crt T S W N a.toNatClampNeg b.toNatClampNeg) = 0 → Q (-6) y) (k3 : (0 ≤ a ∧ a < nI S) → (0 < nI W ∧ 0 ≤ b ∧ b < 24) → ¬ bP (crt T S W N a.toNatClampNeg b.toNatClampNeg) = 0 → ∀ z, RFr y z → RS z (uT T (62 + 12 * a.toNatClampNeg + 2) b) (pn n) (push H n T) → Q (so T a.toNatClampNeg 2) z) : mSI mX8_retime [.ref 717, .int a, .int b] KW y Q := by
  have hS : S ≤ 24 := F.2.2.2.2.2.2.1
  have hW : W ≤ 30 := F.2.2.1
  have M := r.1
  refine v_X8_retime_0 km M.1 km1 ⟨v0 (k := 2) (by decide) rfl rfl, ?_⟩
  rw [r.2.1, F.2.2.2.2.2.1, F.1, inN' (by omega), d24]
  refine ⟨fun z => k1 (fun u => z u.1), fun z1 => ⟨v0 (k := 0) (by decide) rfl rfl, fun z2 => ?_, fun z => k1 (fun u => z u.2)⟩⟩
  have k2 := k2 z1 z2
  have k3 := k3 z1 z2
  obtain ⟨s, hs, rfl⟩ := inN (by omega) z1
  obtain ⟨h, hh, rfl⟩ := inN (n := 24) (by decide) z2.2
  rw [nI_clamp (by omega), nI_clamp (by omega)] at k2
  rw [nI_clamp (by omega), nI_clamp (by omega)] at k3
  refine sp_X8_canRetime M (by rw [r.2.1]; exact F) hs hh ?_
  rw [r.2.1]
  refine ⟨fun u => ?_, fun u => k2 u⟩
  refine r.keeps (fun z f1 r1 => ⟨718, r1.1.2.2.1, 518, km1, l24_nI (by omega) rfl, ?_⟩)
  rw [r1.2.1, nI_clamp (by omega)]
  exact sp_X8_lays (k := 2) r1.1 km1 (by omega) (by decide) (k3 u _ f1.u8 r1.u8)
end
set_option maxHeartbeats 2000000 in
theorem v_X7_hand_0 {K : Sh} {x : Cn} {Q : Int32 → Cn → Prop} {b0 : Nat} {l1 : Int32} {l2 : Int32} {b0_2 : Nat} {b0_3 : Nat} {b0_2_7 : Nat} {n_b0_2_7 : Nat} (k_b0 : kk K b0 = some (7, 0)) (g_b0_2 : gr x b0 2 = some b0_2) (k_b0_2 : kk K b0_2 = some (4, 0)) (g_b0_3 : gr x b0 3 = some b0_3) (k_b0_3 : kk K b0_3 = some (1, 0)) (g_b0_2_7 : gr x b0_2 7 = some b0_2_7) (k_b0_2_7 : kk K b0_2_7 = some (23, n_b0_2_7)) (K0 : (¬ (0 ≤ l1 ∧ l1 < gi x b0_2 3) → (Q (-2) x)) ∧ ((0 ≤ l1 ∧ l1 < gi x b0_2 3) → (((0 ≤ l2 ∧ l2 < gi x b0_3 0) → (vp_in l1 n_b0_2_7 ∧ (∃ c_4 : Nat, gr x b0_2_7 ((l1 : Int32).toNatClampNeg) = some c_4 ∧ (kk K c_4 = some (5, 0) ∧ (((gi x c_4 4) = 0 → ((¬ (gi x c_4 0) = l2 → (mSV mX7_remember [.ref b0] K x (fun y_9 => Q (gi y_9 c_4 0) (ui y_9 c_4 0 l2)))) ∧ ((gi x c_4 0) = l2 → (Q (-6) x)))) ∧ (¬ (gi x c_4 4) = 0 → (Q (-5) x))))))) ∧ (¬ (0 ≤ l2 ∧ l2 < gi x b0_3 0) → (Q (-2) x))))) : mSI mX7_hand [.ref b0, .int l1, .int l2] K x Q := by
  refine s_I (by decide) (by simp [Value.category]) (Nat.le_of_ble_eq_true rfl) ?_
  show mGM mX7_hand 0 [some (.ref b0), some (.int l1), some (.int l2), none, none] [] (hp K x) (PI K Q)
  refine r_aload_n (pc := 0) dX7_hand_0 rfl ?_
  refine r_iload_n (pc := 1) dX7_hand_1 rfl ?_
  refine s_VI (pc := 2) mX7_isSeries (ci := 7) (a := b0) (As := [.int l1]) dX7_hand_2 lk_X7_132 in_X7_isSeries mo_X7_isSeries ⟨by decide, rfl⟩ ⟨by decide, by decide⟩ (Nat.le_of_ble_eq_true rfl) k_b0 (sp_X7_isSeries k_b0 g_b0_2 k_b0_2 ?_)
  refine r_if_eq (pc := 5) (tgt := 16) dX7_hand_5 (by decide) (fun q => ?_) (fun q => ?_)
  · have q := (b2i_z _).mp q
    have K0 := K0.1 q
    refine r_bipush (pc := 16) (v := (-2)) dX7_hand_16 (by decide) ?_
    exact s_iret rfl dX7_hand_18 K0
  · have q := b2i_nz q
    have K0 := K0.2 q
    refine r_aload_n (pc := 8) dX7_hand_8 rfl ?_
    refine r_iload_n (pc := 9) dX7_hand_9 rfl ?_
    refine s_VI (pc := 10) mX7_isCarrier (ci := 7) (a := b0) (As := [.int l2]) dX7_hand_10 lk_X7_109 in_X7_isCarrier mo_X7_isCarrier ⟨by decide, rfl⟩ ⟨by decide, by decide⟩ (Nat.le_of_ble_eq_true rfl) k_b0 (sp_X7_isCarrier k_b0 g_b0_3 k_b0_3 ?_)
    refine r_if_ne (pc := 13) (tgt := 19) dX7_hand_13 (by decide) (fun q => ?_) (fun q => ?_)
    · have q := b2i_nz q
      have K0 := K0.1 q
      refine r_aload_n (pc := 19) dX7_hand_19 rfl ?_
      refine s_getR (pc := 20) dX7_hand_20 fl_X7_20 rfl k_b0 g_b0_2 ?_
      refine s_getR (pc := 23) dX7_hand_23 fl_X7_135 rfl k_b0_2 g_b0_2_7 ?_
      refine r_iload_n (pc := 26) dX7_hand_26 rfl ?_
      obtain ⟨i_3, K0⟩ := K0
      obtain ⟨c_4, g_5, K0⟩ := K0
      refine s_aald (pc := 27) dX7_hand_27 (by decide) rfl k_b0_2_7 i_3 g_5 ?_
      refine r_astore_n (pc := 28) dX7_hand_28 (by decide) ?_
      refine r_aload_n (pc := 29) (L := [some (.ref b0), some (.int l1), some (.int l2), some (.ref c_4), none]) dX7_hand_29 rfl ?_
      obtain ⟨e_6, K0⟩ := K0
      refine s_getI (pc := 30) dX7_hand_30 fl_X7_153 rfl e_6 ?_
      refine r_if_eq (pc := 33) (tgt := 39) dX7_hand_33 (by decide) (fun q => ?_) (fun q => ?_)
      · have K0 := K0.1 q
        refine r_aload_n (pc := 39) dX7_hand_39 rfl ?_
        refine s_getI (pc := 40) dX7_hand_40 fl_X7_139 rfl e_6 ?_
        refine r_iload_n (pc := 43) dX7_hand_43 rfl ?_
        refine r_icmp_ne (pc := 44) (tgt := 50) dX7_hand_44 (by decide) (fun q => ?_) (fun q => ?_)
        · have K0 := K0.1 q
          refine r_aload_n (pc := 50) dX7_hand_50 rfl ?_
          refine s_VV (pc := 51) mX7_remember (ci := 7) (a := b0) (As := []) dX7_hand_51 lk_X7_333 in_X7_remember mo_X7_remember ⟨by decide, rfl⟩ ⟨by decide, by decide⟩ (Nat.le_of_ble_eq_true rfl) k_b0 (mSV_mono K0 (fun y_9 K0 => ?_))
          refine r_aload_n (pc := 54) dX7_hand_54 rfl ?_
          refine s_getI (pc := 55) dX7_hand_55 fl_X7_139 rfl e_6 ?_
          refine r_istore (pc := 58) dX7_hand_58 (by decide) ?_
          refine r_aload_n (pc := 60) (L := [some (.ref b0), some (.int l1), some (.int l2), some (.ref c_4), some (.int (gi y_9 c_4 0))]) dX7_hand_60 rfl ?_
          refine r_iload_n (pc := 61) dX7_hand_61 rfl ?_
          refine s_putI (pc := 62) dX7_hand_62 fl_X7_139 rfl rfl e_6 ?_
          refine r_iload (pc := 65) dX7_hand_65 rfl ?_
          exact s_iret rfl dX7_hand_67 K0
        · have K0 := K0.2 q
          refine r_bipush (pc := 47) (v := (-6)) dX7_hand_47 (by decide) ?_
          exact s_iret rfl dX7_hand_49 K0
      · have K0 := K0.2 q
        refine r_bipush (pc := 36) (v := (-5)) dX7_hand_36 (by decide) ?_
        exact s_iret rfl dX7_hand_38 K0
    · have q := (b2i_z _).mp q
      have K0 := K0.2 q
      refine r_bipush (pc := 16) (v := (-2)) dX7_hand_16 (by decide) ?_
      exact s_iret rfl dX7_hand_18 K0
set_option maxHeartbeats 2000000 in
theorem v_X8_hand_0 {K : Sh} {x : Cn} {Q : Int32 → Cn → Prop} {b0 : Nat} {l1 : Int32} {l2 : Int32} {b0_1 : Nat} {n_b0_1 : Nat} {b0_3 : Nat} {n_b0_3 : Nat} (k_b0 : kk K b0 = some (8, 0)) (g_b0_1 : gr x b0 1 = some b0_1) (k_b0_1 : kk K b0_1 = some (20, n_b0_1)) (g_b0_3 : gr x b0 3 = some b0_3) (k_b0_3 : kk K b0_3 = some (20, n_b0_3)) (K0 : vp_in 2 n_b0_1 ∧ ((¬ (0 ≤ l1 ∧ l1 ≤ gi x b0_1 2 - 1) → (Q (-2) x)) ∧ ((0 ≤ l1 ∧ l1 ≤ gi x b0_1 2 - 1) → (vp_in 1 n_b0_1 ∧ (((0 ≤ l2 ∧ l2 ≤ gi x b0_1 1 - 1) → ((l24 l1 n_b0_3) ∧ ((¬ (so (gi x b0_3) (l1 : Int32).toNatClampNeg 4 = 1) → ((¬ (so (gi x b0_3) (l1 : Int32).toNatClampNeg 0) = l2 → (mSV mX8_keeps [.ref b0] K x (fun y_8 => mSV mX8_lays [.ref b0, .int l1, .int 0, .int l2] K y_8 (fun y_9 => Q (so (gi x b0_3) (l1 : Int32).toNatClampNeg 0) y_9)))) ∧ ((so (gi x b0_3) (l1 : Int32).toNatClampNeg 0) = l2 → (Q (-6) x)))) ∧ ((so (gi x b0_3) (l1 : Int32).toNatClampNeg 4 = 1) → (Q (-5) x))))) ∧ (¬ (0 ≤ l2 ∧ l2 ≤ gi x b0_1 1 - 1) → (Q (-2) x))))))) : mSI mX8_hand [.ref b0, .int l1, .int l2] K x Q := by
  refine s_I (by decide) (by simp [Value.category]) (Nat.le_of_ble_eq_true rfl) ?_
  show mGM mX8_hand 0 [some (.ref b0), some (.int l1), some (.int l2), none] [] (hp K x) (PI K Q)
  refine r_aload_n (pc := 0) dX8_hand_0 rfl ?_
  refine r_iload_n (pc := 1) dX8_hand_1 rfl ?_
  obtain ⟨i_1, K0⟩ := K0
  refine s_VI (pc := 2) mX8_isSeries (ci := 8) (a := b0) (As := [.int l1]) dX8_hand_2 lk_X8_273 in_X8_isSeries mo_X8_isSeries ⟨by decide, rfl⟩ ⟨by decide, by decide⟩ (Nat.le_of_ble_eq_true rfl) k_b0 (sp_X8_isSeries k_b0 g_b0_1 k_b0_1 i_1 ?_)
  refine r_if_eq (pc := 5) (tgt := 16) dX8_hand_5 (by decide) (fun q => ?_) (fun q => ?_)
  · have q := (b2i_z _).mp q
    have K0 := K0.1 q
    refine r_bipush (pc := 16) (v := (-2)) dX8_hand_16 (by decide) ?_
    exact s_iret rfl dX8_hand_18 K0
  · have q := b2i_nz q
    have K0 := K0.2 q
    refine r_aload_n (pc := 8) dX8_hand_8 rfl ?_
    refine r_iload_n (pc := 9) dX8_hand_9 rfl ?_
    obtain ⟨i_3, K0⟩ := K0
    refine s_VI (pc := 10) mX8_isCarrier (ci := 8) (a := b0) (As := [.int l2]) dX8_hand_10 lk_X8_265 in_X8_isCarrier mo_X8_isCarrier ⟨by decide, rfl⟩ ⟨by decide, by decide⟩ (Nat.le_of_ble_eq_true rfl) k_b0 (sp_X8_isCarrier k_b0 g_b0_1 k_b0_1 i_3 ?_)
    refine r_if_ne (pc := 13) (tgt := 19) dX8_hand_13 (by decide) (fun q => ?_) (fun q => ?_)
    · have q := b2i_nz q
      have K0 := K0.1 q
      refine r_aload_n (pc := 19) dX8_hand_19 rfl ?_
      refine r_iload_n (pc := 20) dX8_hand_20 rfl ?_
      obtain ⟨p_5, K0⟩ := K0
      refine s_VI (pc := 21) mX8_isNew (ci := 8) (a := b0) (As := [.int l1]) dX8_hand_21 lk_X8_382 in_X8_isNew mo_X8_isNew ⟨by decide, rfl⟩ ⟨by decide, by decide⟩ (Nat.le_of_ble_eq_true rfl) k_b0 (sr_X8_isNew k_b0 g_b0_3 k_b0_3 p_5 ?_)
      refine r_if_eq (pc := 24) (tgt := 30) dX8_hand_24 (by decide) (fun q => ?_) (fun q => ?_)
      · have q := (b2i_z _).mp q
        have K0 := K0.1 q
        refine r_aload_n (pc := 30) dX8_hand_30 rfl ?_
        refine r_iload_n (pc := 31) dX8_hand_31 rfl ?_
        refine r_iconst (pc := 32) (v := 0) dX8_hand_32 (by decide) ?_
        refine s_VI (pc := 33) mX8_one (ci := 8) (a := b0) (As := [.int l1, .int 0]) dX8_hand_33 lk_X8_67 in_X8_one mo_X8_one ⟨by decide, rfl⟩ ⟨by decide, by decide⟩ (Nat.le_of_ble_eq_true rfl) k_b0 (sr_X8_one k_b0 g_b0_3 k_b0_3 p_5 ⟨by decide, by decide⟩ ?_)
        refine r_istore_n (pc := 36) dX8_hand_36 (by decide) ?_
        refine r_iload_n (pc := 37) (L := [some (.ref b0), some (.int l1), some (.int l2), some (.int (so (gi x b0_3) (l1 : Int32).toNatClampNeg 0))]) dX8_hand_37 rfl ?_
        refine r_iload_n (pc := 38) dX8_hand_38 rfl ?_
        refine r_icmp_ne (pc := 39) (tgt := 45) dX8_hand_39 (by decide) (fun q => ?_) (fun q => ?_)
        · have K0 := K0.1 q
          refine r_aload_n (pc := 45) dX8_hand_45 rfl ?_
          refine s_VV (pc := 46) mX8_keeps (ci := 8) (a := b0) (As := []) dX8_hand_46 lk_X8_366 in_X8_keeps mo_X8_keeps ⟨by decide, rfl⟩ ⟨by decide, by decide⟩ (Nat.le_of_ble_eq_true rfl) k_b0 (mSV_mono K0 (fun y_8 K0 => ?_))
          refine r_aload_n (pc := 49) dX8_hand_49 rfl ?_
          refine r_iload_n (pc := 50) dX8_hand_50 rfl ?_
          refine r_iconst (pc := 51) (v := 0) dX8_hand_51 (by decide) ?_
          refine r_iload_n (pc := 52) dX8_hand_52 rfl ?_
          refine s_VV (pc := 53) mX8_lays (ci := 8) (a := b0) (As := [.int l1, .int 0, .int l2]) dX8_hand_53 lk_X8_230 in_X8_lays mo_X8_lays ⟨by decide, rfl⟩ ⟨by decide, by decide⟩ (Nat.le_of_ble_eq_true rfl) k_b0 (mSV_mono K0 (fun y_9 K0 => ?_))
          refine r_iload_n (pc := 56) dX8_hand_56 rfl ?_
          exact s_iret rfl dX8_hand_57 K0
        · have K0 := K0.2 q
          refine r_bipush (pc := 42) (v := (-6)) dX8_hand_42 (by decide) ?_
          exact s_iret rfl dX8_hand_44 K0
      · have q := b2i_nz q
        have K0 := K0.2 q
        refine r_bipush (pc := 27) (v := (-5)) dX8_hand_27 (by decide) ?_
        exact s_iret rfl dX8_hand_29 K0
    · have q := (b2i_z _).mp q
      have K0 := K0.2 q
      refine r_bipush (pc := 16) (v := (-2)) dX8_hand_16 (by decide) ?_
      exact s_iret rfl dX8_hand_18 K0
section
variable {y : Cn} {Q : Int32 → Cn → Prop} {T : TT} {W C S A N n : Nat} {H : Nat → TT}
theorem sq_X8_hand {a b : Int32} (r : RS y T n H) (F : WF T W C S A N) (k1 : ¬ ((0 ≤ a ∧ a < nI S) ∧ (0 ≤ b ∧ b < nI C)) → Q (-2) y) (k2 : (0 ≤ a ∧ a < nI S) → (0 ≤ b ∧ b < nI C) → so T a.toNatClampNeg 4 = 1 → Q (-5) y) (k3 : (0 ≤ a ∧ a < nI S) → (0 ≤ b ∧ b < nI C) → ¬ so T a.toNatClampNeg 4 = 1 → so T a.toNatClampNeg 0 = b → Q (-6) y) (k4 : (0 ≤ a ∧ a < nI S) → (0 ≤ b ∧ b < nI C) → ¬ so T a.toNatClampNeg 4 = 1 → ¬ so T a.toNatClampNeg 0 = b → ∀ z, RFr y z → RS z (uT T (62 + 12 * a.toNatClampNeg + 0) b) (pn n) (push H n T) → Q (so T a.toNatClampNeg 0) z) : mSI mX8_hand [.ref 717, .int a, .int b] KW y Q := by
  have hS : S ≤ 24 := F.2.2.2.2.2.2.1
  have hC : C ≤ 8 := F.2.2.2.2.1
  have M := r.1
  refine v_X8_hand_0 km M.1 km1 M.2.2.1 km1 ⟨v0 (k := 2) (by decide) rfl rfl, ?_⟩
  rw [r.2.1, F.2.2.2.2.2.1, F.2.2.2.1, inN' (by omega), inN' (by omega)]
  refine ⟨fun z => k1 (fun u => z u.1), fun z1 => ⟨v0 (k := 1) (by decide) rfl rfl, fun z2 => ?_, fun z => k1 (fun u => z u.2)⟩⟩
  have k2 := k2 z1 z2
  have k3 := k3 z1 z2
  have k4 := k4 z1 z2
  obtain ⟨s, hs, rfl⟩ := inN (by omega) z1
  rw [nI_clamp (by omega)] at k2 k3 k4 ⊢
  refine ⟨l24_nI (by omega) rfl, fun u => ⟨fun u2 => ?_, fun u2 => k3 u u2⟩, fun u => k2 u⟩
  exact r.keeps (fun z f1 r1 => sp_X8_lays (k := 0) r1.1 km1 (by omega) (by decide) (k4 u u2 _ f1.u8 r1.u8))
theorem opf_in {T : TT} {C W s w : Nat} (g : Wse T C W s) (hW : W ≤ 30) (hw : w < 100) : ∀ i, i < 32 → tb (opf T W s w) i = true → tb (so T s (7 + 0)) i = true := fun i _ e => by
  rw [opf_eq g hW hw, tb_and, Bool.and_eq_true] at e
  exact e.1
theorem AC.giv {x z : Cn} {W C S A N n s p w : Nat} {T : TT} {H : Nat → TT} (az : AC x z W C S A N n T H) (hs : s < S) (hw : w < 100) (hp : gr z 5 s = some p) : AC x (ui z p 11 (gi z p 11 ||| opf T W s w)) W C S A N n (goT T s (opf T W s w) 0 4) H := by
  have E := az.2.2.2.2
  have hW : W ≤ 30 := E.nums.2.2.2.2.1
  have w0 := E.2.2.2.2.2.2.2.2.2.2.2.2.2.2.2.1 s hs
  have es := az.2.2.2.2.2.2.1.2.2.2.2.2.2.1 s p hs hp
  refine az.go hs hp ((EQx.rf z p).ui) (by decide) (by decide) (by decide) (opf_in w0 hW hw) (by rw [gi_ui, if_neg (by omega)]) (fun j h1 h2 => ?_)
  rw [gi_ui, so_goT _ _ _ (by decide) (by decide) h1]
  by_cases c : j = 11
  · rw [if_pos ⟨rfl, c⟩, if_pos c, es.1 11 (by decide) (by decide)]
  · rw [if_neg (fun v => c v.2), if_neg c, if_neg h2]
    exact es.1 j h1 h2
/-- one number of a series changes, none of its weeks -/
theorem AC.one {x z : Cn} {W C S A N n s p k : Nat} {T : TT} {H : Nat → TT} {v : Int32} (az : AC x z W C S A N n T H) (hs : s < S) (hp : gr z 5 s = some p) (hk : k < 7) (hw : Wse (uT T (62 + 12 * s + k) v) C W s) : AC x (ui z p k v) W C S A N n (uT T (62 + 12 * s + k) v) H := by
  have es := az.2.2.2.2.2.2.1.2.2.2.2.2.2.1 s p hs hp
  refine az.ser hs hp ((EQx.rf z p).ui) (fun i _ h => uT_ne _ _ (by omega)) ⟨fun j h1 h2 => ?_, ?_⟩ hw
  · rw [gi_ui, so_uT _ _ _ _ _ _ (by omega) h1]
    by_cases c : j = k
    · rw [if_pos ⟨rfl, c⟩, if_pos ⟨rfl, c⟩]
    · rw [if_neg (fun v => c v.2), if_neg (fun v => c v.2)]
      exact es.1 j h1 h2
  · unfold bas
    rw [gi_ui, if_neg (by omega), so_uT _ _ _ _ _ _ (by omega) (by decide), if_neg (by omega), so_uT _ _ _ _ _ _ (by omega) (by decide), if_neg (by omega), so_uT _ _ _ _ _ _ (by omega) (by decide), if_neg (by omega), so_uT _ _ _ _ _ _ (by omega) (by decide), if_neg (by omega), so_uT _ _ _ _ _ _ (by omega) (by decide), if_neg (by omega)]
    exact es.2
theorem Wse.u2 {T : TT} {C W s h : Nat} (g : Wse T C W s) (hh : h < 24) : Wse (uT T (62 + 12 * s + 2) (nI h)) C W s := by
  have e : ∀ j, j < 12 → j ≠ 2 → so (uT T (62 + 12 * s + 2) (nI h)) s j = so T s j := fun j h1 h2 => by rw [so_uT _ _ _ _ _ _ (by decide) h1, if_neg (fun v => h2 v.2)]
  obtain ⟨g1, g2, g3, g4, g5, g6, g7, g8⟩ := g
  exact ⟨by rw [e 0 (by decide) (by decide)]; exact g1, by rw [e 1 (by decide) (by decide)]; exact g2, ⟨h, hh, by rw [so_uT _ _ _ _ _ _ (by decide) (by decide), if_pos ⟨rfl, rfl⟩]⟩, by rw [e 3 (by decide) (by decide)]; exact g4, by rw [e 4 (by decide) (by decide)]; exact g5, by rw [e 5 (by decide) (by decide), e 6 (by decide) (by decide)]; exact g6, fun i hi k j hk hj a b => g7 i hi k j hk hj (by rw [← e (7 + k) (by omega) (by omega)]; exact a) (by rw [← e (7 + j) (by omega) (by omega)]; exact b), fun i k hk a => g8 i k hk (by rw [← e (7 + k) (by omega) (by omega)]; exact a)⟩
theorem Wse.u0 {T : TT} {C W s c : Nat} (g : Wse T C W s) (hc : c < C) : Wse (uT T (62 + 12 * s + 0) (nI c)) C W s := by
  have e : ∀ j, j < 12 → j ≠ 0 → so (uT T (62 + 12 * s + 0) (nI c)) s j = so T s j := fun j h1 h2 => by rw [so_uT _ _ _ _ _ _ (by decide) h1, if_neg (fun v => h2 v.2)]
  obtain ⟨g1, g2, g3, g4, g5, g6, g7, g8⟩ := g
  exact ⟨⟨c, hc, by rw [so_uT _ _ _ _ _ _ (by decide) (by decide), if_pos ⟨rfl, rfl⟩]⟩, by rw [e 1 (by decide) (by decide)]; exact g2, by rw [e 2 (by decide) (by decide)]; exact g3, by rw [e 3 (by decide) (by decide)]; exact g4, by rw [e 4 (by decide) (by decide)]; exact g5, by rw [e 5 (by decide) (by decide), e 6 (by decide) (by decide)]; exact g6, fun i hi k j hk hj a b => g7 i hi k j hk hj (by rw [← e (7 + k) (by omega) (by omega)]; exact a) (by rw [← e (7 + j) (by omega) (by omega)]; exact b), fun i k hk a => g8 i k hk (by rw [← e (7 + k) (by omega) (by omega)]; exact a)⟩
end
theorem eq_miss (a b : Int32) : Both mX7_miss mX8_miss [.int a, .int b] := by
  intro x R
  obtain ⟨W, C, S, A, N, n, H, ac, rs, nm⟩ := R.ac
  have E := ac.2.2.2.2
  have hn := E.nums
  have hS : S ≤ 24 := hn.2.2.2.2.2.2.1
  have hW : W ≤ 30 := hn.2.2.2.2.1
  have hC : C ≤ 8 := hn.2.2.2.2.2.1
  refine v_X7_miss_0 k0 R.1.2.1 (ks0 E.1) E.2.1.2.2.1 (ks3 E.1) ?_
  rw [hn.2.2.1, hn.1]
  refine ⟨fun z => sq_X8_miss rs E.2.2.2 (fun _ => ⟨rfl, R⟩) (fun u => absurd u z) (fun u => absurd u z), fun z1 => ⟨fun z2 => ?_, fun z => sq_X8_miss rs E.2.2.2 (fun _ => ⟨rfl, R⟩) (fun _ u => absurd u z) (fun _ u => absurd u z)⟩⟩
  have no := fun k2 => sq_X8_miss (Q := fun r' z => (-6 : Int32) = r' ∧ Rel z) rs E.2.2.2 (fun u => absurd ⟨z1, z2⟩ u) (fun _ _ _ => ⟨rfl, R⟩) k2
  obtain ⟨s, hs, rfl⟩ := inN (by omega) z1
  obtain ⟨w, hw, rfl⟩ := inN (by omega) z2
  obtain ⟨p, e1, e2, e3, e4, -, e6⟩ := E.ser hs
  rw [nI_clamp (show s < 2 ^ 31 by omega)] at no ⊢
  rw [nI_clamp (show w < 2 ^ 31 by omega)] at no
  refine ⟨vp_in_nI (by omega) (by decide), p, e1, e2, sp_X5_stateOf (by omega) e2 e3 e6 ⟨fun u => no (fun _ _ v => absurd v u), fun u => ⟨R.1.2.1, ?_⟩⟩⟩
  rw [hn.2.1]
  refine ⟨fun u2 => ac.rem (fun _ _ => rfl) (fun z az z1' z2' => ?_), fun u2 => no (fun _ _ _ v => absurd v u2)⟩
  have hp : gr z 5 s = some p := (z2' 5 s (by decide)).trans e1
  have hin := wb_in (show w < 32 by omega) (stt_tb (k := 0) (by decide) u)
  have es := az.2.2.2.2.2.2.1.2.2.2.2.2.2.1 s p hs hp
  have a2 : AC x (ui z p 9 (gi z p 9 ||| (1 <<< (nI w &&& 31)))) W C S A N (pn n) (goT (gi x 718) s (wb (nI w)) 0 2) (push H n (gi x 718)) := by
    refine az.go hs hp ((EQx.rf z p).ui) (by decide) (by decide) (by decide) hin (by rw [gi_ui, if_neg (by omega)]) (fun j h1 h2 => ?_)
    rw [gi_ui, so_goT _ _ _ (by decide) (by decide) h1]
    by_cases c : j = 9
    · rw [if_pos ⟨rfl, c⟩, if_pos c, es.1 9 (by decide) (by decide)]
    · rw [if_neg (fun v => c v.2), if_neg c, if_neg h2]
      exact es.1 j h1 h2
  have E2 := a2.2.2.2.2
  obtain ⟨p', g1, g2, g3, -, -, g6⟩ := E2.ser hs
  have epp : p' = p := Option.some.inj (g1.symm.trans hp)
  subst epp
  refine sp_X5_missesLeft g2 g3 g6 ?_
  have u9 : stt (gi x 718) (nI s).toNatClampNeg (nI w).toNatClampNeg = 0 := by rw [nI_clamp (by omega), nI_clamp (by omega)]; exact u
  refine sq_X8_miss (a2.rs rs) E.2.2.2 (fun v => absurd ⟨z1, z2⟩ v) (fun _ _ v => absurd ⟨u9, u2⟩ v) (fun _ _ _ _ v f r2 => ?_)
  · rw [nI_clamp (show s < 2 ^ 31 by omega)] at r2 ⊢
    exact ⟨rfl, a2.fin R nm (fun c hc => goT_nm _ _ _ _ _ _ (by omega)) f r2⟩
theorem eq_excuse (a b : Int32) : Both mX7_excuse mX8_excuse [.int a, .int b] := by
  intro x R
  obtain ⟨W, C, S, A, N, n, H, ac, rs, nm⟩ := R.ac
  have E := ac.2.2.2.2
  have hn := E.nums
  have hS : S ≤ 24 := hn.2.2.2.2.2.2.1
  have hW : W ≤ 30 := hn.2.2.2.2.1
  have hC : C ≤ 8 := hn.2.2.2.2.2.1
  refine v_X7_excuse_0 k0 R.1.2.1 (ks0 E.1) E.2.1.2.2.1 (ks3 E.1) ?_
  rw [hn.2.2.1, hn.1]
  refine ⟨fun z => sq_X8_excuse rs E.2.2.2 (fun _ => ⟨rfl, R⟩) (fun u => absurd u z) (fun u => absurd u z), fun z1 => ⟨fun z2 => ?_, fun z => sq_X8_excuse rs E.2.2.2 (fun _ => ⟨rfl, R⟩) (fun _ u => absurd u z) (fun _ u => absurd u z)⟩⟩
  obtain ⟨s, hs, rfl⟩ := inN (by omega) z1
  obtain ⟨w, hw, rfl⟩ := inN (by omega) z2
  obtain ⟨p, e1, e2, e3, e4, -, e6⟩ := E.ser hs
  rw [nI_clamp (show s < 2 ^ 31 by omega)]
  have go : ∀ k, k = 0 ∨ k = 2 → stt (gi x 718) s w = nI k → mSV mX7_remember [.ref 0] KW x (fun y_10 => ∀ r_11 : Int32, r_11 = gi (ui y_10 p 9 ((gi y_10 p 9) &&& ((1 <<< (nI w &&& 31)) ^^^ (-1)))) p 10 → mSI mX8_excuse [.ref 717, .int (nI s), .int (nI w)] KW (ui (ui y_10 p 9 ((gi y_10 p 9) &&& ((1 <<< (nI w &&& 31)) ^^^ (-1)))) p 10 (r_11 ||| (1 <<< (nI w &&& 31)))) (fun r' z => nI (cpt (gi (ui (ui y_10 p 9 ((gi y_10 p 9) &&& ((1 <<< (nI w &&& 31)) ^^^ (-1)))) p 10 (r_11 ||| (1 <<< (nI w &&& 31)))) p 8 ||| gi (ui (ui y_10 p 9 ((gi y_10 p 9) &&& ((1 <<< (nI w &&& 31)) ^^^ (-1)))) p 10 (r_11 ||| (1 <<< (nI w &&& 31)))) p 10)) = r' ∧ Rel z)) := by
    intro k hk u
    refine ac.rem (fun _ _ => rfl) (fun z az z1' z2' => ?_)
    intro r er
    have hp : gr z 5 s = some p := (z2' 5 s (by decide)).trans e1
    have hb := stt_tb (k := k) (by omega) u
    have hin := wb_in (show w < 32 by omega) hb
    have es := az.2.2.2.2.2.2.1.2.2.2.2.2.2.1 s p hs hp
    have er2 : r = so (gi x 718) s 10 := by rw [er, gi_ui, if_neg (by omega)]; exact es.1 10 (by decide) (by decide)
    have a2 : AC x (ui (ui z p 9 (gi z p 9 &&& ((1 <<< (nI w &&& 31)) ^^^ (-1)))) p 10 (r ||| (1 <<< (nI w &&& 31)))) W C S A N (pn n) (goT (gi x 718) s (wb (nI w)) k 3) (push H n (gi x 718)) := by
      refine az.go hs hp ((EQx.rf z p).ui.ui) (by omega) (by decide) (by omega) hin (by rw [gi_ui, if_neg (by omega), gi_ui, if_neg (by omega)]) (fun j h1 h2 => ?_)
      rw [gi_ui, so_goT _ _ _ (by omega) (by decide) h1]
      by_cases c : j = 10
      · rw [if_pos ⟨rfl, c⟩, if_pos c, er2]
      · rw [if_neg (fun v => c v.2), if_neg c, gi_ui]
        by_cases d : j = 9
        · rw [if_pos ⟨rfl, d⟩, es.1 9 (by decide) (by decide)]
          rcases hk with rfl | rfl
          · rw [if_neg (by omega), d]
            exact an_dis (fun i hi g1 g2 => absurd (e6.2.2.2.2.2.2.1 i hi 0 2 (by decide) (by decide) (hin i hi g1) g2) (by decide))
          · rw [if_pos d]
        · rw [if_neg (fun v => d v.2), if_neg (by omega)]
          exact es.1 j h1 h2
    have E2 := a2.2.2.2.2
    have s2 := E2.2.2.1.2.2.2.2.2.2.1 s p hs hp
    rw [s2.1 8 (by decide) (by decide), s2.1 10 (by decide) (by decide)]
    refine sq_X8_excuse (a2.rs rs) E.2.2.2 (fun v => absurd ⟨z1, z2⟩ v) (fun _ _ v1 v2 => absurd u ?_) (fun _ _ k' hk' u' v f r2 => ?_)
    · rw [nI_clamp (by omega), nI_clamp (by omega)] at v1 v2
      rcases hk with rfl | rfl
      · exact v1
      · exact v2
    · rw [nI_clamp (show s < 2 ^ 31 by omega), nI_clamp (show w < 2 ^ 31 by omega)] at u'
      have : k' = k := (nI_eq (by omega) (by omega)).mp (u'.symm.trans u)
      subst this
      rw [nI_clamp (by omega)] at r2 ⊢
      exact ⟨rfl, a2.fin R nm (fun c hc => goT_nm _ _ _ _ _ _ (by omega)) f r2⟩
  refine ⟨vp_in_nI (by omega) (by decide), p, e1, e2, sp_X5_stateOf (by omega) e2 e3 e6 ⟨fun u => go 2 (Or.inr rfl) u, fun u => ⟨fun u2 => go 0 (Or.inl rfl) u2, fun u2 => ?_⟩⟩⟩
  refine sq_X8_excuse rs E.2.2.2 (fun v => absurd ⟨z1, z2⟩ v) (fun _ _ _ _ => ⟨rfl, R⟩) (fun _ _ k' hk' u' => ?_)
  rw [nI_clamp (show s < 2 ^ 31 by omega), nI_clamp (show w < 2 ^ 31 by omega)] at u'
  rcases hk' with rfl | rfl
  · exact absurd u' u2
  · exact absurd u' u
theorem eq_fly (a b : Int32) : Both mX7_fly mX8_fly [.int a, .int b] := by
  intro x R
  obtain ⟨W, C, S, A, N, n, H, ac, rs, nm⟩ := R.ac
  have E := ac.2.2.2.2
  have hn := E.nums
  have hS : S ≤ 24 := hn.2.2.2.2.2.2.1
  have hW : W ≤ 30 := hn.2.2.2.2.1
  have hC : C ≤ 8 := hn.2.2.2.2.2.1
  refine v_X7_fly_0 k0 R.1.2.1 (ks0 E.1) E.2.1.2.2.1 (ks3 E.1) ?_
  rw [hn.2.2.1, hn.1]
  refine ⟨fun z => sq_X8_fly rs E.2.2.2 (fun _ => ⟨rfl, R⟩) (fun u => absurd u z) (fun u => absurd u z), fun z1 => ⟨fun z2 => ?_, fun z => sq_X8_fly rs E.2.2.2 (fun _ => ⟨rfl, R⟩) (fun _ u => absurd u z) (fun _ u => absurd u z)⟩⟩
  obtain ⟨s, hs, rfl⟩ := inN (by omega) z1
  obtain ⟨w, hw, rfl⟩ := inN (by omega) z2
  obtain ⟨p, e1, e2, e3, e4, -, e6⟩ := E.ser hs
  have no : ¬ ((stt (gi x 718) s w = 2 ∨ stt (gi x 718) s w = 3) ∧ nI N ≤ nI w) → mSI mX8_fly [.ref 717, .int (nI s), .int (nI w)] KW x (fun r' z => -6 = r' ∧ Rel z) := by
    intro v
    refine sq_X8_fly rs E.2.2.2 (fun v => absurd ⟨z1, z2⟩ v) (fun _ _ _ => ⟨rfl, R⟩) (fun _ _ k' hk' u' u2 => absurd ⟨?_, u2⟩ v)
    rw [nI_clamp (show s < 2 ^ 31 by omega), nI_clamp (show w < 2 ^ 31 by omega)] at u'
    rcases hk' with rfl | rfl
    · exact Or.inl u'
    · exact Or.inr u'
  rw [nI_clamp (show s < 2 ^ 31 by omega)]
  have go : ∀ k, k = 2 ∨ k = 3 → stt (gi x 718) s w = nI k → nI N ≤ nI w → mSV mX7_remember [.ref 0] KW x (fun y_12 => ∀ r_13 : Int32, r_13 = gi (ui y_12 p 9 ((gi y_12 p 9) &&& ((1 <<< (nI w &&& 31)) ^^^ (-1)))) p 10 → mSI mX8_fly [.ref 717, .int (nI s), .int (nI w)] KW (ui (ui y_12 p 9 ((gi y_12 p 9) &&& ((1 <<< (nI w &&& 31)) ^^^ (-1)))) p 10 (r_13 &&& ((1 <<< (nI w &&& 31)) ^^^ (-1)))) (fun r' z => stt (gi x 718) s w = r' ∧ Rel z)) := by
    intro k hk u u3
    refine ac.rem (fun _ _ => rfl) (fun z az z1' z2' => ?_)
    intro r er
    have hp : gr z 5 s = some p := (z2' 5 s (by decide)).trans e1
    have hb := stt_tb (k := k) (by omega) u
    have hin := wb_in (show w < 32 by omega) hb
    have es := az.2.2.2.2.2.2.1.2.2.2.2.2.2.1 s p hs hp
    have er2 : r = so (gi x 718) s 10 := by rw [er, gi_ui, if_neg (by omega)]; exact es.1 10 (by decide) (by decide)
    have a2 : AC x (ui (ui z p 9 (gi z p 9 &&& ((1 <<< (nI w &&& 31)) ^^^ (-1)))) p 10 (r &&& ((1 <<< (nI w &&& 31)) ^^^ (-1)))) W C S A N (pn n) (goT (gi x 718) s (wb (nI w)) k 0) (push H n (gi x 718)) := by
      refine az.go hs hp ((EQx.rf z p).ui.ui) (by omega) (by decide) (by omega) hin (by rw [gi_ui, if_neg (by omega), gi_ui, if_neg (by omega)]) (fun j h1 h2 => ?_)
      rw [gi_ui, so_goT _ _ _ (by omega) (by decide) h1, if_neg (show ¬ j = 7 + 0 from h2)]
      by_cases c : j = 10
      · rw [if_pos ⟨rfl, c⟩, er2]
        rcases hk with rfl | rfl
        · rw [if_neg (by omega), c]
          exact an_dis (fun i hi g1 g2 => absurd (e6.2.2.2.2.2.2.1 i hi 2 3 (by decide) (by decide) (hin i hi g1) g2) (by decide))
        · rw [if_pos c]
      · rw [if_neg (fun v => c v.2), gi_ui]
        by_cases d : j = 9
        · rw [if_pos ⟨rfl, d⟩, es.1 9 (by decide) (by decide)]
          rcases hk with rfl | rfl
          · rw [if_pos d]
          · rw [if_neg (by omega), d]
            exact an_dis (fun i hi g1 g2 => absurd (e6.2.2.2.2.2.2.1 i hi 3 2 (by decide) (by decide) (hin i hi g1) g2) (by decide))
        · rw [if_neg (fun v => d v.2), if_neg (by omega)]
          exact es.1 j h1 h2
    have u9 : stt (gi x 718) (nI s).toNatClampNeg (nI w).toNatClampNeg = 2 ∨ stt (gi x 718) (nI s).toNatClampNeg (nI w).toNatClampNeg = 3 := by
      rw [nI_clamp (show s < 2 ^ 31 by omega), nI_clamp (show w < 2 ^ 31 by omega)]
      rcases hk with rfl | rfl
      · exact Or.inl u
      · exact Or.inr u
    refine sq_X8_fly (a2.rs rs) E.2.2.2 (fun v => absurd ⟨z1, z2⟩ v) (fun _ _ v1 => absurd ⟨u9, u3⟩ v1) (fun _ _ k' hk' u' _ v f r2 => ?_)
    · rw [nI_clamp (show s < 2 ^ 31 by omega), nI_clamp (show w < 2 ^ 31 by omega)] at u'
      have : k' = k := (nI_eq (by omega) (by omega)).mp (u'.symm.trans u)
      subst this
      rw [nI_clamp (by omega)] at r2
      exact ⟨u, a2.fin R nm (fun c hc => goT_nm _ _ _ _ _ _ (by omega)) f r2⟩
  refine ⟨vp_in_nI (by omega) (by decide), p, e1, e2, sp_X5_stateOf (by omega) e2 e3 e6 ?_⟩
  rw [hn.2.1]
  exact ⟨fun u => ⟨R.1.2.1, fun u2 => go 2 (Or.inl rfl) u u2, fun u2 => no (fun v => u2 v.2)⟩, fun u => ⟨fun u2 => no (fun v => v.1.elim u u2), fun u2 => ⟨R.1.2.1, fun u3 => go 3 (Or.inr rfl) u2 u3, fun u3 => no (fun v => u3 v.2)⟩⟩⟩
theorem eq_back (a b : Int32) : Both mX7_back mX8_back [.int a, .int b] := by
  intro x R
  obtain ⟨W, C, S, A, N, n, H, ac, rs, nm⟩ := R.ac
  have E := ac.2.2.2.2
  have hn := E.nums
  have hS : S ≤ 24 := hn.2.2.2.2.2.2.1
  have hW : W ≤ 30 := hn.2.2.2.2.1
  have hC : C ≤ 8 := hn.2.2.2.2.2.1
  refine v_X7_back_0 k0 R.1.2.1 (ks0 E.1) E.2.1.2.2.1 (ks3 E.1) ?_
  rw [hn.2.2.1, hn.1, hn.2.1]
  refine ⟨fun z => sq_X8_back rs E.2.2.2 (fun _ => ⟨rfl, R⟩) (fun u => absurd u z) (fun u => absurd u z) (fun u => absurd u z), fun z1 => ⟨fun z2 => ⟨fun u => ?_, fun u => sq_X8_back rs E.2.2.2 (fun v => absurd ⟨z1, z2⟩ v) (fun _ _ _ => ⟨rfl, R⟩) (fun _ _ v => absurd v u) (fun _ _ v => absurd v u)⟩, fun z => sq_X8_back rs E.2.2.2 (fun _ => ⟨rfl, R⟩) (fun _ u => absurd u z) (fun _ u => absurd u z) (fun _ u => absurd u z)⟩⟩
  obtain ⟨s, hs, rfl⟩ := inN (by omega) z1
  obtain ⟨w, hw, rfl⟩ := inN (by omega) z2
  obtain ⟨p, e1, e2, e3, e4, e5, e6⟩ := E.ser hs
  rw [nI_clamp (show s < 2 ^ 31 by omega)]
  refine ⟨vp_in_nI (by omega) (by decide), p, e1, e2, ?_⟩
  rw [e5, ← opf_eq e6 hW (by omega)]
  refine ⟨fun v => ?_, fun v => ac.rem (fun _ _ => rfl) (fun z az z1' z2' => ?_)⟩
  · refine sq_X8_back rs E.2.2.2 (fun v => absurd ⟨z1, z2⟩ v) (fun _ _ v => absurd u v) (fun _ _ _ _ => ⟨?_, R⟩) (fun _ _ _ v' => absurd ?_ v')
    · rw [v, cpt_0]; rfl
    · rw [nI_clamp (by omega), nI_clamp (by omega)]; exact v
  · have a2 := az.giv hs (show w < 100 by omega) ((z2' 5 s (by decide)).trans e1)
    refine sq_X8_back (a2.rs rs) E.2.2.2 (fun v => absurd ⟨z1, z2⟩ v) (fun _ _ v => absurd u v) (fun _ _ _ v' => absurd v' ?_) (fun _ _ _ _ v f r2 => ?_)
    · rw [nI_clamp (by omega), nI_clamp (by omega)]; exact v
    · rw [nI_clamp (show s < 2 ^ 31 by omega), nI_clamp (show w < 2 ^ 31 by omega)] at r2 ⊢
      exact ⟨rfl, a2.fin R nm (fun c hc => goT_nm _ _ _ _ _ _ (by omega)) f r2⟩
theorem eq_retime (a b : Int32) : Both mX7_retime mX8_retime [.int a, .int b] := by
  intro x R
  obtain ⟨W, C, S, A, N, n, H, ac, rs, nm⟩ := R.ac
  have E := ac.2.2.2.2
  have hn := E.nums
  have hS : S ≤ 24 := hn.2.2.2.2.2.2.1
  have hW : W ≤ 30 := hn.2.2.2.2.1
  have hC : C ≤ 8 := hn.2.2.2.2.2.1
  refine v_X7_retime_0 k0 R.1.2.1 (ks0 E.1) ?_
  rw [hn.2.2.1, hn.1]
  refine ⟨fun z => sq_X8_retime rs E.2.2.2 (fun _ => ⟨rfl, R⟩) (fun u => absurd u z) (fun u => absurd u z), fun z1 => ⟨fun z2 => ?_, fun z => sq_X8_retime rs E.2.2.2 (fun _ => ⟨rfl, R⟩) (fun _ u => absurd u z) (fun _ u => absurd u z)⟩⟩
  obtain ⟨s, hs, rfl⟩ := inN (by omega) z1
  obtain ⟨h, hh, rfl⟩ := inN (n := 24) (by decide) z2.2
  obtain ⟨p, e1, e2, e3, e4, e5, e6⟩ := E.ser hs
  refine sp_X7_canRetime R.1 E hs hh (fun y hy => ⟨fun u => ?_, fun u => ?_⟩)
  · have ay := ac.e7 hy
    refine ay.rem (fun _ _ => rfl) (fun z az z1' z2' => ⟨az.2.1.2.1, 5, az.2.2.2.2.2.1.2.2.1, 24, ks3 E.1, vp_in_nI (by omega) (by decide), p, ?_, e2, ?_⟩)
    · have : gr y 5 s = some p := by unfold gr; rw [hy.1]; exact e1
      rw [nI_clamp (by omega), z2' 5 s (by decide)]; exact this
    · have hp : gr z 5 s = some p := by
        have : gr y 5 s = some p := by unfold gr; rw [hy.1]; exact e1
        rw [z2' 5 s (by decide)]; exact this
      have es := az.2.2.2.2.2.2.1.2.2.2.2.2.2.1 s p hs hp
      have a2 := az.one (v := nI h) hs hp (show 2 < 7 by decide) (e6.u2 hh)
      rw [es.1 2 (by decide) (by decide)]
      refine sq_X8_retime (a2.rs rs) E.2.2.2 (fun v => absurd ⟨z1, z2⟩ v) (fun _ _ v => absurd v ?_) (fun _ _ _ v f r2 => ?_)
      · rw [nI_clamp (by omega), nI_clamp (by omega)]; exact u
      · rw [nI_clamp (show s < 2 ^ 31 by omega)] at r2 ⊢
        exact ⟨rfl, a2.fin R nm (fun c hc => uT_ne _ _ (by omega)) f r2⟩
  · have ay := ac.e7 hy
    refine sq_X8_retime (ay.rs rs) E.2.2.2 (fun v => absurd ⟨z1, z2⟩ v) (fun _ _ _ => ⟨rfl, (R.e7 hy).1⟩) (fun _ _ v => absurd ?_ v)
    rw [nI_clamp (by omega), nI_clamp (by omega)]; exact u
theorem eq_hand (a b : Int32) : Both mX7_hand mX8_hand [.int a, .int b] := by
  intro x R
  obtain ⟨W, C, S, A, N, n, H, ac, rs, nm⟩ := R.ac
  have E := ac.2.2.2.2
  have hn := E.nums
  have hS : S ≤ 24 := hn.2.2.2.2.2.2.1
  have hC : C ≤ 8 := hn.2.2.2.2.2.1
  refine v_X7_hand_0 k0 R.1.2.1 (ks0 E.1) R.1.2.2.1 (by decide) E.2.1.2.2.1 (ks3 E.1) ?_
  rw [hn.2.2.1, nm.1]
  refine ⟨fun z => sq_X8_hand rs E.2.2.2 (fun _ => ⟨rfl, R⟩) (fun u => absurd u z) (fun u => absurd u z) (fun u => absurd u z), fun z1 => ⟨fun z2 => ?_, fun z => sq_X8_hand rs E.2.2.2 (fun _ => ⟨rfl, R⟩) (fun _ u => absurd u z) (fun _ u => absurd u z) (fun _ u => absurd u z)⟩⟩
  obtain ⟨s, hs, rfl⟩ := inN (by omega) z1
  obtain ⟨c, hc, rfl⟩ := inN (by omega) z2
  obtain ⟨p, e1, e2, e3, e4, e5, e6⟩ := E.ser hs
  have h01 := e6.2.2.2.2.1
  rw [nI_clamp (show s < 2 ^ 31 by omega)]
  refine ⟨vp_in_nI (by omega) (by decide), p, e1, e2, ?_⟩
  rw [e3.1 4 (by decide) (by decide), e3.1 0 (by decide) (by decide)]
  refine ⟨fun u => ⟨fun u2 => ac.rem (fun _ _ => rfl) (fun z az z1' z2' => ?_), fun u2 => ?_⟩, fun u => ?_⟩
  · have hp : gr z 5 s = some p := (z2' 5 s (by decide)).trans e1
    have es := az.2.2.2.2.2.2.1.2.2.2.2.2.2.1 s p hs hp
    have a2 := az.one (v := nI c) hs hp (show 0 < 7 by decide) (e6.u0 hc)
    rw [es.1 0 (by decide) (by decide)]
    refine sq_X8_hand (a2.rs rs) E.2.2.2 (fun v => absurd ⟨z1, z2⟩ v) (fun _ _ v => absurd v ?_) (fun _ _ _ v => absurd v ?_) (fun _ _ _ _ v f r2 => ?_)
    · rw [nI_clamp (by omega), u]; decide
    · rw [nI_clamp (by omega)]; exact u2
    · rw [nI_clamp (show s < 2 ^ 31 by omega)] at r2 ⊢
      exact ⟨rfl, a2.fin R nm (fun c hc => uT_ne _ _ (by omega)) f r2⟩
  · refine sq_X8_hand rs E.2.2.2 (fun v => absurd ⟨z1, z2⟩ v) (fun _ _ v => absurd v ?_) (fun _ _ _ _ => ⟨rfl, R⟩) (fun _ _ _ v => absurd ?_ v)
    · rw [nI_clamp (by omega), u]; decide
    · rw [nI_clamp (by omega)]; exact u2
  · refine sq_X8_hand rs E.2.2.2 (fun v => absurd ⟨z1, z2⟩ v) (fun _ _ _ => ⟨rfl, R⟩) (fun _ _ v => absurd ?_ v) (fun _ _ v => absurd ?_ v)
    · rw [nI_clamp (by omega)]; exact h01.resolve_left u
    · rw [nI_clamp (by omega)]; exact h01.resolve_left u
end
/-! 48.acts2.lean.txt -/
section
/-- a week goes by, for the first series -/
def tkS (N : Nat) : Nat → TT → TT := fun s T => goT T s (so T s 7 &&& wb (nI N)) 0 1
theorem tk_off {N : Nat} {T : TT} : ∀ s, s ≤ 24 → ∀ i, i < 62 → accT (tkS N) s T i = T i := by
  intro s
  induction s with
  | zero => intro _ i _; rfl
  | succ s ih =>
    intro hs i hi
    simp only [accT]
    unfold tkS
    rw [goT_off _ _ _ (by decide) (by decide) i (by omega)]
    exact ih (by omega) i hi
theorem AC.now {x y : Cn} {W C S A N N' n : Nat} {T : TT} {H : Nat → TT} (a : AC x y W C S A N n T H) (h : N' ≤ W) : AC x (ui y 2 1 (nI N')) W C S A N' n (uT T 4 (nI N')) H := by
  have E := a.2.2.2.2
  obtain ⟨e1, e2, ⟨v0, v1, v2, v3, v4, v5, v6, v7⟩, w1, w2, w3, w4, w5, w6, w7, w8, w9, w10, w11, w12, w13, w14⟩ := E
  obtain ⟨r1, r2, r3, r4, r5, r6, r7, r8, r9⟩ := id e2
  have eo : ∀ b k, ¬ (b = 2 ∧ k = 1) → gi (ui y 2 1 (nI N')) b k = gi y b k := fun b k c => by rw [gi_ui, if_neg c]
  have eT : ∀ i, i ≠ 4 → uT T 4 (nI N') i = T i := fun i hi => uT_ne _ _ hi
  refine a.up (fun b k c => eo b k (by omega)) rfl ⟨e1, e2.keep rfl, ⟨?_, ?_, ?_, ?_, ?_, ?_, ?_, ?_⟩, ?_⟩
  · rw [eo 2 0 (by omega), eT 0 (by decide)]; exact v0
  · rw [gi_ui, if_pos ⟨rfl, rfl⟩, uT_at]
  · rw [eo 2 2 (by omega), eT 5 (by decide)]; exact v2
  · rw [eo 2 3 (by omega), eT 2 (by decide)]; exact v3
  · rw [eo 2 4 (by omega), eT 3 (by decide)]; exact v4
  · intro h hh
    rw [eo _ h (by omega), eo _ h (by omega), eT _ (by omega), eT _ (by omega)]
    exact v5 h hh
  · intro s p hs hp
    obtain ⟨j, hj, ej⟩ := r6 s (by omega)
    have ep : p = 2 + 6 + j := Option.some.inj (hp.symm.trans ej)
    exact (v6 s p hs hp).cg (fun k _ => eo p k (by omega)) (fun k hk => eT _ (by omega))
  · intro s p hs hp
    obtain ⟨j, hj, ej⟩ := r8 s (by omega)
    have ep : p = 2 + 30 + j := Option.some.inj (hp.symm.trans ej)
    exact (v7 s p hs hp).cg (fun k _ => eo p k (by omega)) (fun k hk => eT _ (by omega))
  · exact ⟨by rw [eT 0 (by decide)]; exact w1, w2, w3, by rw [eT 1 (by decide)]; exact w4, w5, by rw [eT 2 (by decide)]; exact w6, w7, by rw [eT 3 (by decide)]; exact w8, w9, uT_at _ _ _, h, fun i hi => by rw [eT _ (by omega), eT _ (by omega)]; exact w12 i hi, fun s hs => (w13 s hs).cg (fun k hk => eT _ (by omega)), fun a ha => (w14 a ha).cg (fun k hk => eT _ (by omega))⟩
theorem and_in {T : TT} {s : Nat} {v : Int32} : ∀ i, i < 32 → tb (so T s 7 &&& v) i = true → tb (so T s (7 + 0)) i = true := fun i _ e => by
  rw [tb_and, Bool.and_eq_true] at e
  exact e.1
set_option maxHeartbeats 2000000 in
theorem v_X7_tick_0 {K : Sh} {x : Cn} {Q : Int32 → Cn → Prop} {b0 : Nat} {b0_2 : Nat} (k_b0 : kk K b0 = some (7, 0)) (g_b0_2 : gr x b0 2 = some b0_2) (k_b0_2 : kk K b0_2 = some (4, 0)) (K0 : ((0 < gi x b0_2 0) → ((¬ (gi x b0_2 0 ≤ gi x b0_2 1) → (mSV mX7_remember [.ref b0] K x (fun y_3 => gr y_3 b0 2 = some b0_2 ∧ (GI mX7_tick 38 [some (.ref b0), some (.int (1 <<< ((gi y_3 b0_2 1) &&& 31))), some (.int 0)] [] K y_3 Q)))) ∧ ((gi x b0_2 0 ≤ gi x b0_2 1) → (Q (-1) x)))) ∧ (¬ (0 < gi x b0_2 0) → (Q (-2) x))) : mSI mX7_tick [.ref b0] K x Q := by
  refine s_I (by decide) (by simp [Value.category]) (Nat.le_of_ble_eq_true rfl) ?_
  show mGM mX7_tick 0 [some (.ref b0), none, none] [] (hp K x) (PI K Q)
  refine r_aload_n (pc := 0) dX7_tick_0 rfl ?_
  refine s_VI (pc := 1) mX7_hasText (ci := 7) (a := b0) (As := []) dX7_tick_1 lk_X7_121 in_X7_hasText mo_X7_hasText ⟨by decide, rfl⟩ ⟨by decide, by decide⟩ (Nat.le_of_ble_eq_true rfl) k_b0 (sp_X7_hasText k_b0 g_b0_2 k_b0_2 ?_)
  refine r_if_ne (pc := 4) (tgt := 10) dX7_tick_4 (by decide) (fun q => ?_) (fun q => ?_)
  · have q := b2i_nz q
    have K0 := K0.1 q
    refine r_aload_n (pc := 10) dX7_tick_10 rfl ?_
    refine s_getR (pc := 11) dX7_tick_11 fl_X7_20 rfl k_b0 g_b0_2 ?_
    refine s_VI (pc := 14) mX4_isOver (ci := 4) (a := b0_2) (As := []) dX7_tick_14 lk_X7_279 in_X4_isOver mo_X4_isOver ⟨by decide, rfl⟩ ⟨by decide, by decide⟩ (Nat.le_of_ble_eq_true rfl) k_b0_2 (sp_X4_isOver k_b0_2 ?_)
    refine r_if_eq (pc := 17) (tgt := 22) dX7_tick_17 (by decide) (fun q => ?_) (fun q => ?_)
    · have q := (b2i_z _).mp q
      have K0 := K0.1 q
      refine r_aload_n (pc := 22) dX7_tick_22 rfl ?_
      refine s_VV (pc := 23) mX7_remember (ci := 7) (a := b0) (As := []) dX7_tick_23 lk_X7_333 in_X7_remember mo_X7_remember ⟨by decide, rfl⟩ ⟨by decide, by decide⟩ (Nat.le_of_ble_eq_true rfl) k_b0 (mSV_mono K0 (fun y_3 K0 => ?_))
      refine r_iconst (pc := 26) (v := 1) dX7_tick_26 (by decide) ?_
      refine r_aload_n (pc := 27) dX7_tick_27 rfl ?_
      obtain ⟨g_4, K0⟩ := K0
      refine s_getR (pc := 28) dX7_tick_28 fl_X7_20 rfl k_b0 g_4 ?_
      refine s_getI (pc := 31) dX7_tick_31 fl_X7_103 rfl k_b0_2 ?_
      refine r_ishl (pc := 34) dX7_tick_34 ?_
      refine r_istore_n (pc := 35) dX7_tick_35 (by decide) ?_
      refine r_iconst (pc := 36) (L := [some (.ref b0), some (.int (1 <<< ((gi y_3 b0_2 1) &&& 31))), none]) (v := 0) dX7_tick_36 (by decide) ?_
      refine r_istore_n (pc := 37) dX7_tick_37 (by decide) ?_
      exact r_le (L' := [some (.ref b0), some (.int (1 <<< ((gi y_3 b0_2 1) &&& 31))), some (.int 0)]) ⟨rfl, ⟨rfl, ⟨rfl, trivial⟩⟩⟩ K0
    · have q := b2i_nz q
      have K0 := K0.2 q
      refine r_iconst (pc := 20) (v := (-1)) dX7_tick_20 (by decide) ?_
      exact s_iret rfl dX7_tick_21 K0
  · have q := (b2i_z _).mp q
    have K0 := K0.2 q
    refine r_bipush (pc := 7) (v := (-2)) dX7_tick_7 (by decide) ?_
    exact s_iret rfl dX7_tick_9 K0
set_option maxHeartbeats 2000000 in
theorem v_X7_tick_38 {K : Sh} {x : Cn} {Q : Int32 → Cn → Prop} {b0 : Nat} {l1 : Int32} {l2 : Int32} {b0_2 : Nat} {b0_2_7 : Nat} {n_b0_2_7 : Nat} (k_b0 : kk K b0 = some (7, 0)) (g_b0_2 : gr x b0 2 = some b0_2) (k_b0_2 : kk K b0_2 = some (4, 0)) (g_b0_2_7 : gr x b0_2 7 = some b0_2_7) (k_b0_2_7 : kk K b0_2_7 = some (23, n_b0_2_7)) (K0 : ((gi x b0_2 3) ≤ l2 → (Q (gi (ui x b0_2 1 ((gi x b0_2 1) + 1)) b0_2 1) (ui x b0_2 1 ((gi x b0_2 1) + 1)))) ∧ (¬ (gi x b0_2 3) ≤ l2 → (vp_in l2 n_b0_2_7 ∧ (∃ c_3 : Nat, gr x b0_2_7 ((l2 : Int32).toNatClampNeg) = some c_3 ∧ (kk K c_3 = some (5, 0) ∧ (GI mX7_tick 38 [some (.ref b0), some (.int l1), some (.int (l2 + 1))] [] K (ui x c_3 8 ((gi x c_3 8) ||| ((f_open x c_3) &&& l1))) Q)))))) : GI mX7_tick 38 [some (.ref b0), some (.int l1), some (.int l2)] [] K x Q := by
  show mGM mX7_tick 38 [some (.ref b0), some (.int l1), some (.int l2)] [] (hp K x) (PI K Q)
  refine r_iload_n (pc := 38) dX7_tick_38 rfl ?_
  refine r_aload_n (pc := 39) dX7_tick_39 rfl ?_
  refine s_getR (pc := 40) dX7_tick_40 fl_X7_20 rfl k_b0 g_b0_2 ?_
  refine s_getI (pc := 43) dX7_tick_43 fl_X7_97 rfl k_b0_2 ?_
  refine r_icmp_ge (pc := 46) (tgt := 86) dX7_tick_46 (by decide) (fun q => ?_) (fun q => ?_)
  · have K0 := K0.1 q
    refine r_aload_n (pc := 86) dX7_tick_86 rfl ?_
    refine s_getR (pc := 87) dX7_tick_87 fl_X7_20 rfl k_b0 g_b0_2 ?_
    refine r_dup (pc := 90) dX7_tick_90 rfl ?_
    refine s_getI (pc := 91) dX7_tick_91 fl_X7_103 rfl k_b0_2 ?_
    refine r_iconst (pc := 94) (v := 1) dX7_tick_94 (by decide) ?_
    refine r_iadd (pc := 95) dX7_tick_95 ?_
    refine s_putI (pc := 96) dX7_tick_96 fl_X7_103 rfl rfl k_b0_2 ?_
    refine r_aload_n (pc := 99) dX7_tick_99 rfl ?_
    refine s_getR (pc := 100) dX7_tick_100 fl_X7_20 rfl k_b0 g_b0_2 ?_
    refine s_getI (pc := 103) dX7_tick_103 fl_X7_103 rfl k_b0_2 ?_
    exact s_iret rfl dX7_tick_106 K0
  · have K0 := K0.2 q
    refine r_aload_n (pc := 49) dX7_tick_49 rfl ?_
    refine s_getR (pc := 50) dX7_tick_50 fl_X7_20 rfl k_b0 g_b0_2 ?_
    refine s_getR (pc := 53) dX7_tick_53 fl_X7_135 rfl k_b0_2 g_b0_2_7 ?_
    refine r_iload_n (pc := 56) dX7_tick_56 rfl ?_
    obtain ⟨i_2, K0⟩ := K0
    obtain ⟨c_3, g_4, K0⟩ := K0
    refine s_aald (pc := 57) dX7_tick_57 (by decide) rfl k_b0_2_7 i_2 g_4 ?_
    refine r_dup (pc := 58) dX7_tick_58 rfl ?_
    obtain ⟨e_5, K0⟩ := K0
    refine s_getI (pc := 59) dX7_tick_59 fl_X7_348 rfl e_5 ?_
    refine r_aload_n (pc := 62) dX7_tick_62 rfl ?_
    refine s_getR (pc := 63) dX7_tick_63 fl_X7_20 rfl k_b0 g_b0_2 ?_
    refine s_getR (pc := 66) dX7_tick_66 fl_X7_135 rfl k_b0_2 g_b0_2_7 ?_
    refine r_iload_n (pc := 69) dX7_tick_69 rfl ?_
    refine s_aald (pc := 70) dX7_tick_70 (by decide) rfl k_b0_2_7 i_2 g_4 ?_
    refine s_VI (pc := 71) mX5_openBits (ci := 5) (a := c_3) (As := []) dX7_tick_71 lk_X7_339 in_X5_openBits mo_X5_openBits ⟨by decide, rfl⟩ ⟨by decide, by decide⟩ (Nat.le_of_ble_eq_true rfl) e_5 (sp_X5_openBits e_5 ?_)
    refine r_iload_n (pc := 74) dX7_tick_74 rfl ?_
    refine r_iand (pc := 75) dX7_tick_75 ?_
    refine r_ior (pc := 76) dX7_tick_76 ?_
    refine s_putI (pc := 77) dX7_tick_77 fl_X7_348 rfl rfl e_5 ?_
    refine r_iinc (pc := 80) (v := l2 + 1) dX7_tick_80 rfl rfl (by decide) ?_
    refine r_goto (pc := 83) (L := [some (.ref b0), some (.int l1), some (.int (l2 + 1))]) (tgt := 38) dX7_tick_83 (by decide) ?_
    exact r_le (L' := [some (.ref b0), some (.int l1), some (.int (l2 + 1))]) ⟨rfl, ⟨rfl, ⟨rfl, trivial⟩⟩⟩ K0
set_option maxHeartbeats 2000000 in
theorem v_X8_tick_0 {K : Sh} {x : Cn} {Q : Int32 → Cn → Prop} {b0 : Nat} {b0_1 : Nat} {n_b0_1 : Nat} (k_b0 : kk K b0 = some (8, 0)) (g_b0_1 : gr x b0 1 = some b0_1) (k_b0_1 : kk K b0_1 = some (20, n_b0_1)) (K0 : vp_in 0 n_b0_1 ∧ (((0 < gi x b0_1 0) → (vp_in 4 n_b0_1 ∧ ((¬ (gi x b0_1 4) = (gi x b0_1 0) → (mSV mX8_keeps [.ref b0] K x (fun y_5 => GI mX8_tick 33 [some (.ref b0), some (.int 0)] [] K y_5 Q))) ∧ ((gi x b0_1 4) = (gi x b0_1 0) → (Q (-1) x))))) ∧ (¬ (0 < gi x b0_1 0) → (Q (-2) x)))) : mSI mX8_tick [.ref b0] K x Q := by
  refine s_I (by decide) (by simp [Value.category]) (Nat.le_of_ble_eq_true rfl) ?_
  show mGM mX8_tick 0 [some (.ref b0), none] [] (hp K x) (PI K Q)
  refine r_aload_n (pc := 0) dX8_tick_0 rfl ?_
  obtain ⟨i_1, K0⟩ := K0
  refine s_VI (pc := 1) mX8_isThere (ci := 8) (a := b0) (As := []) dX8_tick_1 lk_X8_49 in_X8_isThere mo_X8_isThere ⟨by decide, rfl⟩ ⟨by decide, by decide⟩ (Nat.le_of_ble_eq_true rfl) k_b0 (sp_X8_isThere k_b0 g_b0_1 k_b0_1 i_1 ?_)
  refine r_if_ne (pc := 4) (tgt := 10) dX8_tick_4 (by decide) (fun q => ?_) (fun q => ?_)
  · have q := b2i_nz q
    have K0 := K0.1 q
    refine r_aload_n (pc := 10) dX8_tick_10 rfl ?_
    refine s_getR (pc := 11) dX8_tick_11 fl_X8_9 rfl k_b0 g_b0_1 ?_
    refine r_iconst (pc := 14) (v := 4) dX8_tick_14 (by decide) ?_
    obtain ⟨i_3, K0⟩ := K0
    refine s_iald (pc := 15) dX8_tick_15 k_b0_1 i_3 ?_
    refine r_aload_n (pc := 16) dX8_tick_16 rfl ?_
    refine s_getR (pc := 17) dX8_tick_17 fl_X8_9 rfl k_b0 g_b0_1 ?_
    refine r_iconst (pc := 20) (v := 0) dX8_tick_20 (by decide) ?_
    refine s_iald (pc := 21) dX8_tick_21 k_b0_1 i_1 ?_
    refine r_icmp_ne (pc := 22) (tgt := 27) dX8_tick_22 (by decide) (fun q => ?_) (fun q => ?_)
    · have K0 := K0.1 q
      refine r_aload_n (pc := 27) dX8_tick_27 rfl ?_
      refine s_VV (pc := 28) mX8_keeps (ci := 8) (a := b0) (As := []) dX8_tick_28 lk_X8_366 in_X8_keeps mo_X8_keeps ⟨by decide, rfl⟩ ⟨by decide, by decide⟩ (Nat.le_of_ble_eq_true rfl) k_b0 (mSV_mono K0 (fun y_5 K0 => ?_))
      refine r_iconst (pc := 31) (v := 0) dX8_tick_31 (by decide) ?_
      refine r_istore_n (pc := 32) dX8_tick_32 (by decide) ?_
      exact r_le (L' := [some (.ref b0), some (.int 0)]) ⟨rfl, ⟨rfl, trivial⟩⟩ K0
    · have K0 := K0.2 q
      refine r_iconst (pc := 25) (v := (-1)) dX8_tick_25 (by decide) ?_
      exact s_iret rfl dX8_tick_26 K0
  · have q := (b2i_z _).mp q
    have K0 := K0.2 q
    refine r_bipush (pc := 7) (v := (-2)) dX8_tick_7 (by decide) ?_
    exact s_iret rfl dX8_tick_9 K0
set_option maxHeartbeats 2000000 in
theorem v_X8_tick_33 {K : Sh} {x : Cn} {Q : Int32 → Cn → Prop} {b0 : Nat} {l1 : Int32} {b0_1 : Nat} {n_b0_1 : Nat} {b0_3 : Nat} {n_b0_3 : Nat} (k_b0 : kk K b0 = some (8, 0)) (g_b0_1 : gr x b0 1 = some b0_1) (k_b0_1 : kk K b0_1 = some (20, n_b0_1)) (g_b0_3 : gr x b0 3 = some b0_3) (k_b0_3 : kk K b0_3 = some (20, n_b0_3)) (K0 : vp_in 2 n_b0_1 ∧ (((gi x b0_1 2) ≤ l1 → (vp_in 4 n_b0_1 ∧ (Q (gi (ui x b0_1 4 ((gi x b0_1 4) + 1)) b0_1 4) (ui x b0_1 4 ((gi x b0_1 4) + 1))))) ∧ (¬ (gi x b0_1 2) ≤ l1 → ((l24 l1 n_b0_3) ∧ (vp_in 4 n_b0_1 ∧ (mSV mX8_goes [.ref b0, .int l1, .int ((so (gi x b0_3) (l1 : Int32).toNatClampNeg 7) &&& (1 <<< ((gi x b0_1 4) &&& 31))), .int 0, .int 1] K x (fun y_6 => GI mX8_tick 33 [some (.ref b0), some (.int (l1 + 1))] [] K y_6 Q))))))) : GI mX8_tick 33 [some (.ref b0), some (.int l1)] [] K x Q := by
  show mGM mX8_tick 33 [some (.ref b0), some (.int l1)] [] (hp K x) (PI K Q)
  refine r_iload_n (pc := 33) dX8_tick_33 rfl ?_
  refine r_aload_n (pc := 34) dX8_tick_34 rfl ?_
  refine s_getR (pc := 35) dX8_tick_35 fl_X8_9 rfl k_b0 g_b0_1 ?_
  refine r_iconst (pc := 38) (v := 2) dX8_tick_38 (by decide) ?_
  obtain ⟨i_1, K0⟩ := K0
  refine s_iald (pc := 39) dX8_tick_39 k_b0_1 i_1 ?_
  refine r_icmp_ge (pc := 40) (tgt := 72) dX8_tick_40 (by decide) (fun q => ?_) (fun q => ?_)
  · have K0 := K0.1 q
    refine r_aload_n (pc := 72) dX8_tick_72 rfl ?_
    refine s_getR (pc := 73) dX8_tick_73 fl_X8_9 rfl k_b0 g_b0_1 ?_
    refine r_iconst (pc := 76) (v := 4) dX8_tick_76 (by decide) ?_
    refine r_dup2 (pc := 77) dX8_tick_77 rfl rfl ?_
    obtain ⟨i_3, K0⟩ := K0
    refine s_iald (pc := 78) dX8_tick_78 k_b0_1 i_3 ?_
    refine r_iconst (pc := 79) (v := 1) dX8_tick_79 (by decide) ?_
    refine r_iadd (pc := 80) dX8_tick_80 ?_
    refine s_iast (pc := 81) dX8_tick_81 k_b0_1 i_3 ?_
    refine r_aload_n (pc := 82) dX8_tick_82 rfl ?_
    refine s_getR (pc := 83) dX8_tick_83 fl_X8_9 rfl k_b0 g_b0_1 ?_
    refine r_iconst (pc := 86) (v := 4) dX8_tick_86 (by decide) ?_
    refine s_iald (pc := 87) dX8_tick_87 k_b0_1 i_3 ?_
    exact s_iret rfl dX8_tick_88 K0
  · have K0 := K0.2 q
    refine r_aload_n (pc := 43) dX8_tick_43 rfl ?_
    refine r_iload_n (pc := 44) dX8_tick_44 rfl ?_
    refine r_aload_n (pc := 45) dX8_tick_45 rfl ?_
    refine r_iload_n (pc := 46) dX8_tick_46 rfl ?_
    refine r_bipush (pc := 47) (v := 7) dX8_tick_47 (by decide) ?_
    obtain ⟨p_4, K0⟩ := K0
    refine s_VI (pc := 49) mX8_one (ci := 8) (a := b0) (As := [.int l1, .int 7]) dX8_tick_49 lk_X8_67 in_X8_one mo_X8_one ⟨by decide, rfl⟩ ⟨by decide, by decide⟩ (Nat.le_of_ble_eq_true rfl) k_b0 (sr_X8_one k_b0 g_b0_3 k_b0_3 p_4 ⟨by decide, by decide⟩ ?_)
    refine r_iconst (pc := 52) (v := 1) dX8_tick_52 (by decide) ?_
    refine r_aload_n (pc := 53) dX8_tick_53 rfl ?_
    refine s_getR (pc := 54) dX8_tick_54 fl_X8_9 rfl k_b0 g_b0_1 ?_
    refine r_iconst (pc := 57) (v := 4) dX8_tick_57 (by decide) ?_
    obtain ⟨i_5, K0⟩ := K0
    refine s_iald (pc := 58) dX8_tick_58 k_b0_1 i_5 ?_
    refine r_ishl (pc := 59) dX8_tick_59 ?_
    refine r_iand (pc := 60) dX8_tick_60 ?_
    refine r_iconst (pc := 61) (v := 0) dX8_tick_61 (by decide) ?_
    refine r_iconst (pc := 62) (v := 1) dX8_tick_62 (by decide) ?_
    refine s_VV (pc := 63) mX8_goes (ci := 8) (a := b0) (As := [.int l1, .int ((so (gi x b0_3) (l1 : Int32).toNatClampNeg 7) &&& (1 <<< ((gi x b0_1 4) &&& 31))), .int 0, .int 1]) dX8_tick_63 lk_X8_369 in_X8_goes mo_X8_goes ⟨by decide, rfl⟩ ⟨by decide, by decide⟩ (Nat.le_of_ble_eq_true rfl) k_b0 (mSV_mono K0 (fun y_6 K0 => ?_))
    refine r_iinc (pc := 66) (v := l1 + 1) dX8_tick_66 rfl rfl (by decide) ?_
    refine r_goto (pc := 69) (L := [some (.ref b0), some (.int (l1 + 1))]) (tgt := 33) dX8_tick_69 (by decide) ?_
    exact r_le (L' := [some (.ref b0), some (.int (l1 + 1))]) ⟨rfl, ⟨rfl, trivial⟩⟩ K0
section
theorem sq_X8_tick {y : Cn} {Q : Int32 → Cn → Prop} {T : TT} {W C S A N n : Nat} {H : Nat → TT} (r : RS y T n H) (F : WF T W C S A N) (k1 : ¬ 0 < nI W → Q (-2) y) (k2 : 0 < nI W → N = W → Q (-1) y) (k3 : 0 < nI W → ¬ N = W → ∀ z, RFr y z → RS z (uT (accT (tkS N) S T) 4 (nI (N + 1))) (pn n) (push H n T) → Q (nI (N + 1)) z) : mSI mX8_tick [.ref 717] KW y Q := by
  have hS : S ≤ 24 := F.2.2.2.2.2.2.1
  have hW : W ≤ 30 := F.2.2.1
  have hN : N ≤ W := F.2.2.2.2.2.2.2.2.2.2.1
  have M := r.1
  refine v_X8_tick_0 km M.1 km1 ⟨v0 (k := 0) (by decide) rfl rfl, ?_⟩
  rw [r.2.1, F.1, F.2.2.2.2.2.2.2.2.2.1, nI_eq (by omega) (by omega)]
  refine ⟨fun z1 => ⟨v0 (k := 4) (by decide) rfl rfl, fun z2 => r.keeps (fun z f1 r1 => ?_), fun z2 => k2 z1 z2⟩, fun z => k1 z⟩
  have k3 := k3 z1 z2
  refine lp_acc (tkS N) (fun s T' => ∀ v, RFr y v → RS v T' (pn n) (push H n T) → T' 2 = nI S → T' 4 = nI N → GI mX8_tick 33 [some (.ref 717), some (.int (nI s))] [] KW v Q) S T ?_ (fun s T' hs n1 => ?_) z f1 r1 F.2.2.2.2.2.1 F.2.2.2.2.2.2.2.2.2.1
  · intro v f r2 t2 t4
    refine v_X8_tick_33 km r2.1.1 km1 r2.1.2.2.1 km1 ⟨v0 (k := 2) (by decide) rfl rfl, fun _ => ⟨v0 (k := 4) (by decide) rfl rfl, ?_⟩, fun z => absurd (by rw [r2.2.1, t2]; exact Int32.le_refl _) z⟩
    rw [gi_ui, if_pos ⟨rfl, rfl⟩, r2.2.1, t4, nI_1]
    exact k3 _ f.u8 r2.u8
  · intro v f r2 t2 t4
    refine v_X8_tick_33 km r2.1.1 km1 r2.1.2.2.1 km1 ⟨v0 (k := 2) (by decide) rfl rfl, fun z => absurd (by rw [r2.2.1, t2] at z; exact z) (nI_ge hs (by omega)), fun _ => ⟨l24_nI (by omega) rfl, v0 (k := 4) (by decide) rfl rfl, ?_⟩⟩
    rw [r2.2.1, t4, nI_clamp (by omega), nI_1]
    refine sp_X8_goes (k := 0) (o := 1) r2 (by omega) (by decide) (by decide) (by decide) (fun v2 f2 r3 => n1 _ rfl v2 (f.tr f2) r3 ?_ ?_)
    · show goT T' s _ 0 1 2 = _
      rw [goT_off _ _ _ (by decide) (by decide) 2 (by omega)]; exact t2
    · show goT T' s _ 0 1 4 = _
      rw [goT_off _ _ _ (by decide) (by decide) 4 (by omega)]; exact t4
/-! gives -/
theorem goT_0 (T : TT) (s k o : Nat) (hk : k < 5) (ho : o < 5) (hko : k ≠ o) : goT T s 0 k o = T := by
  funext i
  unfold goT
  rw [show ((0 : Int32) ^^^ (-1)) = -1 by decide, show so T s (7 + k) &&& (-1) = so T s (7 + k) from Int32.and_neg_one, Int32.or_zero]
  unfold uT so
  by_cases c : i = 62 + 12 * s + (7 + o)
  · rw [if_pos c, c]
  · rw [if_neg c]
    by_cases d : i = 62 + 12 * s + (7 + k)
    · rw [if_pos d, d]
    · rw [if_neg d]
theorem cpt_z {v : Int32} (h : cpt v = 0) : v = 0 := by
  by_cases c : v.toBitVec.toNat = 0
  · exact tn_inj (by rw [c]; rfl)
  · have := npc_pos 32 v.toBitVec.toNat (by omega) (tn_lt v)
    unfold cpt at h
    omega
def gvS (W N : Nat) (a b : Int32) : Nat → TT × Int32 → TT × Int32 := fun s t => if so t.1 s 0 = a ∧ so t.1 s 1 = b then (goT t.1 s (opf t.1 W s (N + 4)) 0 4, t.2 + nI (cpt (opf t.1 W s (N + 4)))) else t
end
set_option maxHeartbeats 2000000 in
theorem v_X7_gives_0 {K : Sh} {x : Cn} {Q : Int32 → Cn → Prop} {b0 : Nat} {l1 : Int32} {l2 : Int32} {b0_3 : Nat} {b0_2 : Nat} (k_b0 : kk K b0 = some (7, 0)) (g_b0_3 : gr x b0 3 = some b0_3) (k_b0_3 : kk K b0_3 = some (1, 0)) (g_b0_2 : gr x b0 2 = some b0_2) (k_b0_2 : kk K b0_2 = some (4, 0)) (K0 : (¬ (0 ≤ l1 ∧ l1 < gi x b0_3 0) → (Q (-2) x)) ∧ ((0 ≤ l1 ∧ l1 < gi x b0_3 0) → (((0 < gi x b0_2 0 ∧ 0 ≤ l2 ∧ l2 < 7) → (GI mX7_gives 38 [some (.ref b0), some (.int l1), some (.int l2), some (.int (f_bf ((gi x b0_2 1) + 4))), some (.int 0), some (.int 0), none, none] [] K x Q)) ∧ (¬ (0 < gi x b0_2 0 ∧ 0 ≤ l2 ∧ l2 < 7) → (Q (-2) x))))) : mSI mX7_gives [.ref b0, .int l1, .int l2] K x Q := by
  refine s_I (by decide) (by simp [Value.category]) (Nat.le_of_ble_eq_true rfl) ?_
  show mGM mX7_gives 0 [some (.ref b0), some (.int l1), some (.int l2), none, none, none, none, none] [] (hp K x) (PI K Q)
  refine r_aload_n (pc := 0) dX7_gives_0 rfl ?_
  refine r_iload_n (pc := 1) dX7_gives_1 rfl ?_
  refine s_VI (pc := 2) mX7_isCarrier (ci := 7) (a := b0) (As := [.int l1]) dX7_gives_2 lk_X7_109 in_X7_isCarrier mo_X7_isCarrier ⟨by decide, rfl⟩ ⟨by decide, by decide⟩ (Nat.le_of_ble_eq_true rfl) k_b0 (sp_X7_isCarrier k_b0 g_b0_3 k_b0_3 ?_)
  refine r_if_eq (pc := 5) (tgt := 16) dX7_gives_5 (by decide) (fun q => ?_) (fun q => ?_)
  · have q := (b2i_z _).mp q
    have K0 := K0.1 q
    refine r_bipush (pc := 16) (v := (-2)) dX7_gives_16 (by decide) ?_
    exact s_iret rfl dX7_gives_18 K0
  · have q := b2i_nz q
    have K0 := K0.2 q
    refine r_aload_n (pc := 8) dX7_gives_8 rfl ?_
    refine r_iload_n (pc := 9) dX7_gives_9 rfl ?_
    refine s_VI (pc := 10) mX7_isDay (ci := 7) (a := b0) (As := [.int l2]) dX7_gives_10 lk_X7_245 in_X7_isDay mo_X7_isDay ⟨by decide, rfl⟩ ⟨by decide, by decide⟩ (Nat.le_of_ble_eq_true rfl) k_b0 (sp_X7_isDay k_b0 g_b0_2 k_b0_2 ?_)
    refine r_if_ne (pc := 13) (tgt := 19) dX7_gives_13 (by decide) (fun q => ?_) (fun q => ?_)
    · have q := b2i_nz q
      have K0 := K0.1 q
      refine r_aload_n (pc := 19) dX7_gives_19 rfl ?_
      refine s_getR (pc := 20) dX7_gives_20 fl_X7_20 rfl k_b0 g_b0_2 ?_
      refine s_getI (pc := 23) dX7_gives_23 fl_X7_103 rfl k_b0_2 ?_
      refine r_iconst (pc := 26) (v := 4) dX7_gives_26 (by decide) ?_
      refine r_iadd (pc := 27) dX7_gives_27 ?_
      refine s_SI (pc := 28) mX7_bitsFrom (As := [.int ((gi x b0_2 1) + 4)]) dX7_gives_28 lk_X7_342 st_X7_bitsFrom mo_X7_bitsFrom ⟨by decide, by decide⟩ (Nat.le_of_ble_eq_true rfl) (sp_X7_bitsFrom  ?_)
      refine r_istore_n (pc := 31) dX7_gives_31 (by decide) ?_
      refine r_iconst (pc := 32) (L := [some (.ref b0), some (.int l1), some (.int l2), some (.int (f_bf ((gi x b0_2 1) + 4))), none, none, none, none]) (v := 0) dX7_gives_32 (by decide) ?_
      refine r_istore (pc := 33) dX7_gives_33 (by decide) ?_
      refine r_iconst (pc := 35) (L := [some (.ref b0), some (.int l1), some (.int l2), some (.int (f_bf ((gi x b0_2 1) + 4))), some (.int 0), none, none, none]) (v := 0) dX7_gives_35 (by decide) ?_
      refine r_istore (pc := 36) dX7_gives_36 (by decide) ?_
      exact r_le (L' := [some (.ref b0), some (.int l1), some (.int l2), some (.int (f_bf ((gi x b0_2 1) + 4))), some (.int 0), some (.int 0), none, none]) ⟨rfl, ⟨rfl, ⟨rfl, ⟨rfl, ⟨rfl, ⟨rfl, trivial⟩⟩⟩⟩⟩⟩ K0
    · have q := (b2i_z _).mp q
      have K0 := K0.2 q
      refine r_bipush (pc := 16) (v := (-2)) dX7_gives_16 (by decide) ?_
      exact s_iret rfl dX7_gives_18 K0
set_option maxHeartbeats 2000000 in
theorem v_X7_gives_38 {K : Sh} {x : Cn} {Q : Int32 → Cn → Prop} {b0 : Nat} {l1 : Int32} {l2 : Int32} {l3 : Int32} {l4 : Int32} {l5 : Int32} {b0_2 : Nat} {b0_2_7 : Nat} {n_b0_2_7 : Nat} (k_b0 : kk K b0 = some (7, 0)) (g_b0_2 : gr x b0 2 = some b0_2) (k_b0_2 : kk K b0_2 = some (4, 0)) (g_b0_2_7 : gr x b0_2 7 = some b0_2_7) (k_b0_2_7 : kk K b0_2_7 = some (23, n_b0_2_7)) (K0 : ((gi x b0_2 3) ≤ l5 → (Q l4 x)) ∧ (¬ (gi x b0_2 3) ≤ l5 → (vp_in l5 n_b0_2_7 ∧ (∃ c_3 : Nat, gr x b0_2_7 ((l5 : Int32).toNatClampNeg) = some c_3 ∧ (kk K c_3 = some (5, 0) ∧ ((¬ (gi x c_3 0 = l1 ∧ (l2 = -1 ∨ gi x c_3 1 = l2)) → (GI mX7_gives 38 [some (.ref b0), some (.int l1), some (.int l2), some (.int l3), some (.int l4), some (.int (l5 + 1)), none, none] [] K x Q)) ∧ ((gi x c_3 0 = l1 ∧ (l2 = -1 ∨ gi x c_3 1 = l2)) → ((((f_open x c_3) &&& l3) = 0 → (GI mX7_gives 38 [some (.ref b0), some (.int l1), some (.int l2), some (.int l3), some (.int l4), some (.int (l5 + 1)), none, none] [] K x Q)) ∧ (¬ ((f_open x c_3) &&& l3) = 0 → ((¬ l4 = 0 → (GI mX7_gives 38 [some (.ref b0), some (.int l1), some (.int l2), some (.int l3), some (.int (l4 + (nI (cpt ((f_open x c_3) &&& l3))))), some (.int (l5 + 1)), none, none] [] K (ui x c_3 11 ((gi x c_3 11) ||| ((f_open x c_3) &&& l3))) Q)) ∧ (l4 = 0 → (mSV mX7_remember [.ref b0] K x (fun y_9 => GI mX7_gives 38 [some (.ref b0), some (.int l1), some (.int l2), some (.int l3), some (.int (l4 + (nI (cpt ((f_open x c_3) &&& l3))))), some (.int (l5 + 1)), none, none] [] K (ui y_9 c_3 11 ((gi y_9 c_3 11) ||| ((f_open x c_3) &&& l3))) Q))))))))))))) : GI mX7_gives 38 [some (.ref b0), some (.int l1), some (.int l2), some (.int l3), some (.int l4), some (.int l5), none, none] [] K x Q := by
  show mGM mX7_gives 38 [some (.ref b0), some (.int l1), some (.int l2), some (.int l3), some (.int l4), some (.int l5), none, none] [] (hp K x) (PI K Q)
  refine r_iload (pc := 38) dX7_gives_38 rfl ?_
  refine r_aload_n (pc := 40) dX7_gives_40 rfl ?_
  refine s_getR (pc := 41) dX7_gives_41 fl_X7_20 rfl k_b0 g_b0_2 ?_
  refine s_getI (pc := 44) dX7_gives_44 fl_X7_97 rfl k_b0_2 ?_
  refine r_icmp_ge (pc := 47) (tgt := 127) dX7_gives_47 (by decide) (fun q => ?_) (fun q => ?_)
  · have K0 := K0.1 q
    refine r_iload (pc := 127) dX7_gives_127 rfl ?_
    exact s_iret rfl dX7_gives_129 K0
  · have K0 := K0.2 q
    refine r_aload_n (pc := 50) dX7_gives_50 rfl ?_
    refine s_getR (pc := 51) dX7_gives_51 fl_X7_20 rfl k_b0 g_b0_2 ?_
    refine s_getR (pc := 54) dX7_gives_54 fl_X7_135 rfl k_b0_2 g_b0_2_7 ?_
    refine r_iload (pc := 57) dX7_gives_57 rfl ?_
    obtain ⟨i_2, K0⟩ := K0
    obtain ⟨c_3, g_4, K0⟩ := K0
    refine s_aald (pc := 59) dX7_gives_59 (by decide) rfl k_b0_2_7 i_2 g_4 ?_
    refine r_astore (pc := 60) dX7_gives_60 (by decide) ?_
    refine r_aload (pc := 62) (L := [some (.ref b0), some (.int l1), some (.int l2), some (.int l3), some (.int l4), some (.int l5), some (.ref c_3), none]) dX7_gives_62 rfl ?_
    refine r_iload_n (pc := 64) dX7_gives_64 rfl ?_
    refine r_iload_n (pc := 65) dX7_gives_65 rfl ?_
    obtain ⟨e_5, K0⟩ := K0
    refine s_VI (pc := 66) mX5_isOf (ci := 5) (a := c_3) (As := [.int l1, .int l2]) dX7_gives_66 lk_X7_248 in_X5_isOf mo_X5_isOf ⟨by decide, rfl⟩ ⟨by decide, by decide⟩ (Nat.le_of_ble_eq_true rfl) e_5 (sp_X5_isOf e_5 ?_)
    refine r_if_eq (pc := 69) (tgt := 82) dX7_gives_69 (by decide) (fun q => ?_) (fun q => ?_)
    · have q := (b2i_z _).mp q
      have K0 := K0.1 q
      refine r_iconst (pc := 82) (v := 0) dX7_gives_82 (by decide) ?_
      refine r_istore (pc := 83) dX7_gives_83 (by decide) ?_
      refine r_iload (pc := 85) (L := [some (.ref b0), some (.int l1), some (.int l2), some (.int l3), some (.int l4), some (.int l5), some (.ref c_3), some (.int 0)]) dX7_gives_85 rfl ?_
      refine r_if_eq (pc := 87) (tgt := 121) dX7_gives_87 (by decide) (fun _ => ?_) (fun q => by first | exact absurd q (by decide) | exact absurd (by decide) q)
      refine r_iinc (pc := 121) (v := l5 + 1) dX7_gives_121 rfl rfl (by decide) ?_
      refine r_goto (pc := 124) (L := [some (.ref b0), some (.int l1), some (.int l2), some (.int l3), some (.int l4), some (.int (l5 + 1)), some (.ref c_3), some (.int 0)]) (tgt := 38) dX7_gives_124 (by decide) ?_
      exact r_le (L' := [some (.ref b0), some (.int l1), some (.int l2), some (.int l3), some (.int l4), some (.int (l5 + 1)), none, none]) ⟨rfl, ⟨rfl, ⟨rfl, ⟨rfl, ⟨rfl, ⟨rfl, trivial⟩⟩⟩⟩⟩⟩ K0
    · have q := b2i_nz q
      have K0 := K0.2 q
      refine r_aload (pc := 72) dX7_gives_72 rfl ?_
      refine s_VI (pc := 74) mX5_openBits (ci := 5) (a := c_3) (As := []) dX7_gives_74 lk_X7_339 in_X5_openBits mo_X5_openBits ⟨by decide, rfl⟩ ⟨by decide, by decide⟩ (Nat.le_of_ble_eq_true rfl) e_5 (sp_X5_openBits e_5 ?_)
      refine r_iload_n (pc := 77) dX7_gives_77 rfl ?_
      refine r_iand (pc := 78) dX7_gives_78 ?_
      refine r_goto (pc := 79) (tgt := 83) dX7_gives_79 (by decide) ?_
      refine r_istore (pc := 83) dX7_gives_83 (by decide) ?_
      refine r_iload (pc := 85) (L := [some (.ref b0), some (.int l1), some (.int l2), some (.int l3), some (.int l4), some (.int l5), some (.ref c_3), some (.int ((f_open x c_3) &&& l3))]) dX7_gives_85 rfl ?_
      refine r_if_eq (pc := 87) (tgt := 121) dX7_gives_87 (by decide) (fun q => ?_) (fun q => ?_)
      · have K0 := K0.1 q
        refine r_iinc (pc := 121) (v := l5 + 1) dX7_gives_121 rfl rfl (by decide) ?_
        refine r_goto (pc := 124) (L := [some (.ref b0), some (.int l1), some (.int l2), some (.int l3), some (.int l4), some (.int (l5 + 1)), some (.ref c_3), some (.int ((f_open x c_3) &&& l3))]) (tgt := 38) dX7_gives_124 (by decide) ?_
        exact r_le (L' := [some (.ref b0), some (.int l1), some (.int l2), some (.int l3), some (.int l4), some (.int (l5 + 1)), none, none]) ⟨rfl, ⟨rfl, ⟨rfl, ⟨rfl, ⟨rfl, ⟨rfl, trivial⟩⟩⟩⟩⟩⟩ K0
      · have K0 := K0.2 q
        refine r_iload (pc := 90) dX7_gives_90 rfl ?_
        refine r_if_ne (pc := 92) (tgt := 99) dX7_gives_92 (by decide) (fun q => ?_) (fun q => ?_)
        · have K0 := K0.1 q
          refine r_aload (pc := 99) dX7_gives_99 rfl ?_
          refine r_dup (pc := 101) dX7_gives_101 rfl ?_
          refine s_getI (pc := 102) dX7_gives_102 fl_X7_345 rfl e_5 ?_
          refine r_iload (pc := 105) dX7_gives_105 rfl ?_
          refine r_ior (pc := 107) dX7_gives_107 ?_
          refine s_putI (pc := 108) dX7_gives_108 fl_X7_345 rfl rfl e_5 ?_
          refine r_iload (pc := 111) dX7_gives_111 rfl ?_
          refine r_iload (pc := 113) dX7_gives_113 rfl ?_
          refine s_SI (pc := 115) mJ6_bitCount_0f7a4 (As := [.int ((f_open x c_3) &&& l3)]) dX7_gives_115 lk_X7_255 st_J6_bitCount_0f7a4 mo_J6_bitCount_0f7a4 ⟨by decide, by decide⟩ (Nat.le_of_ble_eq_true rfl) (sp_bc  ?_)
          refine r_iadd (pc := 118) dX7_gives_118 ?_
          refine r_istore (pc := 119) dX7_gives_119 (by decide) ?_
          refine r_iinc (pc := 121) (L := [some (.ref b0), some (.int l1), some (.int l2), some (.int l3), some (.int (l4 + (nI (cpt ((f_open x c_3) &&& l3))))), some (.int l5), some (.ref c_3), some (.int ((f_open x c_3) &&& l3))]) (v := l5 + 1) dX7_gives_121 rfl rfl (by decide) ?_
          refine r_goto (pc := 124) (L := [some (.ref b0), some (.int l1), some (.int l2), some (.int l3), some (.int (l4 + (nI (cpt ((f_open x c_3) &&& l3))))), some (.int (l5 + 1)), some (.ref c_3), some (.int ((f_open x c_3) &&& l3))]) (tgt := 38) dX7_gives_124 (by decide) ?_
          exact r_le (L' := [some (.ref b0), some (.int l1), some (.int l2), some (.int l3), some (.int (l4 + (nI (cpt ((f_open x c_3) &&& l3))))), some (.int (l5 + 1)), none, none]) ⟨rfl, ⟨rfl, ⟨rfl, ⟨rfl, ⟨rfl, ⟨rfl, trivial⟩⟩⟩⟩⟩⟩ K0
        · have K0 := K0.2 q
          refine r_aload_n (pc := 95) dX7_gives_95 rfl ?_
          refine s_VV (pc := 96) mX7_remember (ci := 7) (a := b0) (As := []) dX7_gives_96 lk_X7_333 in_X7_remember mo_X7_remember ⟨by decide, rfl⟩ ⟨by decide, by decide⟩ (Nat.le_of_ble_eq_true rfl) k_b0 (mSV_mono K0 (fun y_9 K0 => ?_))
          refine r_aload (pc := 99) dX7_gives_99 rfl ?_
          refine r_dup (pc := 101) dX7_gives_101 rfl ?_
          refine s_getI (pc := 102) dX7_gives_102 fl_X7_345 rfl e_5 ?_
          refine r_iload (pc := 105) dX7_gives_105 rfl ?_
          refine r_ior (pc := 107) dX7_gives_107 ?_
          refine s_putI (pc := 108) dX7_gives_108 fl_X7_345 rfl rfl e_5 ?_
          refine r_iload (pc := 111) dX7_gives_111 rfl ?_
          refine r_iload (pc := 113) dX7_gives_113 rfl ?_
          refine s_SI (pc := 115) mJ6_bitCount_0f7a4 (As := [.int ((f_open x c_3) &&& l3)]) dX7_gives_115 lk_X7_255 st_J6_bitCount_0f7a4 mo_J6_bitCount_0f7a4 ⟨by decide, by decide⟩ (Nat.le_of_ble_eq_true rfl) (sp_bc  ?_)
          refine r_iadd (pc := 118) dX7_gives_118 ?_
          refine r_istore (pc := 119) dX7_gives_119 (by decide) ?_
          refine r_iinc (pc := 121) (L := [some (.ref b0), some (.int l1), some (.int l2), some (.int l3), some (.int (l4 + (nI (cpt ((f_open x c_3) &&& l3))))), some (.int l5), some (.ref c_3), some (.int ((f_open x c_3) &&& l3))]) (v := l5 + 1) dX7_gives_121 rfl rfl (by decide) ?_
          refine r_goto (pc := 124) (L := [some (.ref b0), some (.int l1), some (.int l2), some (.int l3), some (.int (l4 + (nI (cpt ((f_open x c_3) &&& l3))))), some (.int (l5 + 1)), some (.ref c_3), some (.int ((f_open x c_3) &&& l3))]) (tgt := 38) dX7_gives_124 (by decide) ?_
          exact r_le (L' := [some (.ref b0), some (.int l1), some (.int l2), some (.int l3), some (.int (l4 + (nI (cpt ((f_open x c_3) &&& l3))))), some (.int (l5 + 1)), none, none]) ⟨rfl, ⟨rfl, ⟨rfl, ⟨rfl, ⟨rfl, ⟨rfl, trivial⟩⟩⟩⟩⟩⟩ K0
set_option maxHeartbeats 2000000 in
theorem v_X8_gives_0 {K : Sh} {x : Cn} {Q : Int32 → Cn → Prop} {b0 : Nat} {l1 : Int32} {l2 : Int32} {b0_1 : Nat} {n_b0_1 : Nat} (k_b0 : kk K b0 = some (8, 0)) (g_b0_1 : gr x b0 1 = some b0_1) (k_b0_1 : kk K b0_1 = some (20, n_b0_1)) (K0 : vp_in 1 n_b0_1 ∧ ((¬ (0 ≤ l1 ∧ l1 ≤ gi x b0_1 1 - 1) → (Q (-2) x)) ∧ ((0 ≤ l1 ∧ l1 ≤ gi x b0_1 1 - 1) → (vp_in 0 n_b0_1 ∧ (((0 < gi x b0_1 0 ∧ 0 ≤ l2 ∧ l2 ≤ 6) → (GI mX8_gives 24 [some (.ref b0), some (.int l1), some (.int l2), some (.int 0), some (.int 0), none] [] K x Q)) ∧ (¬ (0 < gi x b0_1 0 ∧ 0 ≤ l2 ∧ l2 ≤ 6) → (Q (-2) x))))))) : mSI mX8_gives [.ref b0, .int l1, .int l2] K x Q := by
  refine s_I (by decide) (by simp [Value.category]) (Nat.le_of_ble_eq_true rfl) ?_
  show mGM mX8_gives 0 [some (.ref b0), some (.int l1), some (.int l2), none, none, none] [] (hp K x) (PI K Q)
  refine r_aload_n (pc := 0) dX8_gives_0 rfl ?_
  refine r_iload_n (pc := 1) dX8_gives_1 rfl ?_
  obtain ⟨i_1, K0⟩ := K0
  refine s_VI (pc := 2) mX8_isCarrier (ci := 8) (a := b0) (As := [.int l1]) dX8_gives_2 lk_X8_265 in_X8_isCarrier mo_X8_isCarrier ⟨by decide, rfl⟩ ⟨by decide, by decide⟩ (Nat.le_of_ble_eq_true rfl) k_b0 (sp_X8_isCarrier k_b0 g_b0_1 k_b0_1 i_1 ?_)
  refine r_if_eq (pc := 5) (tgt := 16) dX8_gives_5 (by decide) (fun q => ?_) (fun q => ?_)
  · have q := (b2i_z _).mp q
    have K0 := K0.1 q
    refine r_bipush (pc := 16) (v := (-2)) dX8_gives_16 (by decide) ?_
    exact s_iret rfl dX8_gives_18 K0
  · have q := b2i_nz q
    have K0 := K0.2 q
    refine r_aload_n (pc := 8) dX8_gives_8 rfl ?_
    refine r_iload_n (pc := 9) dX8_gives_9 rfl ?_
    obtain ⟨i_3, K0⟩ := K0
    refine s_VI (pc := 10) mX8_isDay (ci := 8) (a := b0) (As := [.int l2]) dX8_gives_10 lk_X8_61 in_X8_isDay mo_X8_isDay ⟨by decide, rfl⟩ ⟨by decide, by decide⟩ (Nat.le_of_ble_eq_true rfl) k_b0 (sp_X8_isDay k_b0 g_b0_1 k_b0_1 i_3 ?_)
    refine r_if_ne (pc := 13) (tgt := 19) dX8_gives_13 (by decide) (fun q => ?_) (fun q => ?_)
    · have q := b2i_nz q
      have K0 := K0.1 q
      refine r_iconst (pc := 19) (v := 0) dX8_gives_19 (by decide) ?_
      refine r_istore_n (pc := 20) dX8_gives_20 (by decide) ?_
      refine r_iconst (pc := 21) (L := [some (.ref b0), some (.int l1), some (.int l2), some (.int 0), none, none]) (v := 0) dX8_gives_21 (by decide) ?_
      refine r_istore (pc := 22) dX8_gives_22 (by decide) ?_
      exact r_le (L' := [some (.ref b0), some (.int l1), some (.int l2), some (.int 0), some (.int 0), none]) ⟨rfl, ⟨rfl, ⟨rfl, ⟨rfl, ⟨rfl, trivial⟩⟩⟩⟩⟩ K0
    · have q := (b2i_z _).mp q
      have K0 := K0.2 q
      refine r_bipush (pc := 16) (v := (-2)) dX8_gives_16 (by decide) ?_
      exact s_iret rfl dX8_gives_18 K0
set_option maxHeartbeats 2000000 in
theorem v_X8_gives_24 {K : Sh} {x : Cn} {Q : Int32 → Cn → Prop} {b0 : Nat} {l1 : Int32} {l2 : Int32} {l3 : Int32} {l4 : Int32} {b0_1 : Nat} {n_b0_1 : Nat} {b0_3 : Nat} {n_b0_3 : Nat} (k_b0 : kk K b0 = some (8, 0)) (g_b0_1 : gr x b0 1 = some b0_1) (k_b0_1 : kk K b0_1 = some (20, n_b0_1)) (g_b0_3 : gr x b0 3 = some b0_3) (k_b0_3 : kk K b0_3 = some (20, n_b0_3)) (K0 : vp_in 2 n_b0_1 ∧ (((gi x b0_1 2) ≤ l4 → (Q l3 x)) ∧ (¬ (gi x b0_1 2) ≤ l4 → ((l24 l4 n_b0_3) ∧ ((¬ (so (gi x b0_3) (l4 : Int32).toNatClampNeg 0) = l1 → (GI mX8_gives 24 [some (.ref b0), some (.int l1), some (.int l2), some (.int l3), some (.int (l4 + 1)), none] [] K x Q)) ∧ ((so (gi x b0_3) (l4 : Int32).toNatClampNeg 0) = l1 → (((so (gi x b0_3) (l4 : Int32).toNatClampNeg 1) = l2 → (vp_in 4 n_b0_1 ∧ (mSI mX8_openFrom [.ref b0, .int l4, .int ((gi x b0_1 4) + 4)] K x (fun r_8 y_7 => (r_8 = 0 → (mSV mX8_goes [.ref b0, .int l4, .int r_8, .int 0, .int 4] K y_7 (fun y_10 => GI mX8_gives 24 [some (.ref b0), some (.int l1), some (.int l2), some (.int (l3 + (nI (cpt r_8)))), some (.int (l4 + 1)), none] [] K y_10 Q))) ∧ (¬ r_8 = 0 → ((¬ l3 = 0 → (mSV mX8_goes [.ref b0, .int l4, .int r_8, .int 0, .int 4] K y_7 (fun y_12 => GI mX8_gives 24 [some (.ref b0), some (.int l1), some (.int l2), some (.int (l3 + (nI (cpt r_8)))), some (.int (l4 + 1)), none] [] K y_12 Q))) ∧ (l3 = 0 → (mSV mX8_keeps [.ref b0] K y_7 (fun y_13 => mSV mX8_goes [.ref b0, .int l4, .int r_8, .int 0, .int 4] K y_13 (fun y_14 => GI mX8_gives 24 [some (.ref b0), some (.int l1), some (.int l2), some (.int (l3 + (nI (cpt r_8)))), some (.int (l4 + 1)), none] [] K y_14 Q)))))))))) ∧ (¬ (so (gi x b0_3) (l4 : Int32).toNatClampNeg 1) = l2 → (GI mX8_gives 24 [some (.ref b0), some (.int l1), some (.int l2), some (.int l3), some (.int (l4 + 1)), none] [] K x Q))))))))) : GI mX8_gives 24 [some (.ref b0), some (.int l1), some (.int l2), some (.int l3), some (.int l4), none] [] K x Q := by
  show mGM mX8_gives 24 [some (.ref b0), some (.int l1), some (.int l2), some (.int l3), some (.int l4), none] [] (hp K x) (PI K Q)
  refine r_iload (pc := 24) dX8_gives_24 rfl ?_
  refine r_aload_n (pc := 26) dX8_gives_26 rfl ?_
  refine s_getR (pc := 27) dX8_gives_27 fl_X8_9 rfl k_b0 g_b0_1 ?_
  refine r_iconst (pc := 30) (v := 2) dX8_gives_30 (by decide) ?_
  obtain ⟨i_1, K0⟩ := K0
  refine s_iald (pc := 31) dX8_gives_31 k_b0_1 i_1 ?_
  refine r_icmp_ge (pc := 32) (tgt := 113) dX8_gives_32 (by decide) (fun q => ?_) (fun q => ?_)
  · have K0 := K0.1 q
    refine r_iload_n (pc := 113) dX8_gives_113 rfl ?_
    exact s_iret rfl dX8_gives_114 K0
  · have K0 := K0.2 q
    refine r_aload_n (pc := 35) dX8_gives_35 rfl ?_
    refine r_iload (pc := 36) dX8_gives_36 rfl ?_
    refine r_iconst (pc := 38) (v := 0) dX8_gives_38 (by decide) ?_
    obtain ⟨p_3, K0⟩ := K0
    refine s_VI (pc := 39) mX8_one (ci := 8) (a := b0) (As := [.int l4, .int 0]) dX8_gives_39 lk_X8_67 in_X8_one mo_X8_one ⟨by decide, rfl⟩ ⟨by decide, by decide⟩ (Nat.le_of_ble_eq_true rfl) k_b0 (sr_X8_one k_b0 g_b0_3 k_b0_3 p_3 ⟨by decide, by decide⟩ ?_)
    refine r_iload_n (pc := 42) dX8_gives_42 rfl ?_
    refine r_icmp_ne (pc := 43) (tgt := 107) dX8_gives_43 (by decide) (fun q => ?_) (fun q => ?_)
    · have K0 := K0.1 q
      refine r_iinc (pc := 107) (v := l4 + 1) dX8_gives_107 rfl rfl (by decide) ?_
      refine r_goto (pc := 110) (L := [some (.ref b0), some (.int l1), some (.int l2), some (.int l3), some (.int (l4 + 1)), none]) (tgt := 24) dX8_gives_110 (by decide) ?_
      exact r_le (L' := [some (.ref b0), some (.int l1), some (.int l2), some (.int l3), some (.int (l4 + 1)), none]) ⟨rfl, ⟨rfl, ⟨rfl, ⟨rfl, ⟨rfl, trivial⟩⟩⟩⟩⟩ K0
    · have K0 := K0.2 q
      refine r_aload_n (pc := 46) dX8_gives_46 rfl ?_
      refine r_iload (pc := 47) dX8_gives_47 rfl ?_
      refine r_iconst (pc := 49) (v := 1) dX8_gives_49 (by decide) ?_
      refine s_VI (pc := 50) mX8_one (ci := 8) (a := b0) (As := [.int l4, .int 1]) dX8_gives_50 lk_X8_67 in_X8_one mo_X8_one ⟨by decide, rfl⟩ ⟨by decide, by decide⟩ (Nat.le_of_ble_eq_true rfl) k_b0 (sr_X8_one k_b0 g_b0_3 k_b0_3 p_3 ⟨by decide, by decide⟩ ?_)
      refine r_iload_n (pc := 53) dX8_gives_53 rfl ?_
      refine r_icmp_eq (pc := 54) (tgt := 60) dX8_gives_54 (by decide) (fun q => ?_) (fun q => ?_)
      · have K0 := K0.1 q
        refine r_aload_n (pc := 60) dX8_gives_60 rfl ?_
        refine r_iload (pc := 61) dX8_gives_61 rfl ?_
        refine r_aload_n (pc := 63) dX8_gives_63 rfl ?_
        refine s_getR (pc := 64) dX8_gives_64 fl_X8_9 rfl k_b0 g_b0_1 ?_
        refine r_iconst (pc := 67) (v := 4) dX8_gives_67 (by decide) ?_
        obtain ⟨i_6, K0⟩ := K0
        refine s_iald (pc := 68) dX8_gives_68 k_b0_1 i_6 ?_
        refine r_iconst (pc := 69) (v := 4) dX8_gives_69 (by decide) ?_
        refine r_iadd (pc := 70) dX8_gives_70 ?_
        refine s_VI (pc := 71) mX8_openFrom (ci := 8) (a := b0) (As := [.int l4, .int ((gi x b0_1 4) + 4)]) dX8_gives_71 lk_X8_373 in_X8_openFrom mo_X8_openFrom ⟨by decide, rfl⟩ ⟨by decide, by decide⟩ (Nat.le_of_ble_eq_true rfl) k_b0 (mSI_mono K0 (fun r_8 y_7 K0 => ?_))
        refine r_istore (pc := 74) dX8_gives_74 (by decide) ?_
        refine r_iload (pc := 76) (L := [some (.ref b0), some (.int l1), some (.int l2), some (.int l3), some (.int l4), some (.int r_8)]) dX8_gives_76 rfl ?_
        refine r_if_eq (pc := 78) (tgt := 89) dX8_gives_78 (by decide) (fun q => ?_) (fun q => ?_)
        · have K0 := K0.1 q
          refine r_iload_n (pc := 89) dX8_gives_89 rfl ?_
          refine r_iload (pc := 90) dX8_gives_90 rfl ?_
          refine s_SI (pc := 92) mX8_bits (As := [.int r_8]) dX8_gives_92 lk_X8_296 st_X8_bits mo_X8_bits ⟨by decide, by decide⟩ (Nat.le_of_ble_eq_true rfl) (sp_X8_bits  ?_)
          refine r_iadd (pc := 95) dX8_gives_95 ?_
          refine r_istore_n (pc := 96) dX8_gives_96 (by decide) ?_
          refine r_aload_n (pc := 97) (L := [some (.ref b0), some (.int l1), some (.int l2), some (.int (l3 + (nI (cpt r_8)))), some (.int l4), some (.int r_8)]) dX8_gives_97 rfl ?_
          refine r_iload (pc := 98) dX8_gives_98 rfl ?_
          refine r_iload (pc := 100) dX8_gives_100 rfl ?_
          refine r_iconst (pc := 102) (v := 0) dX8_gives_102 (by decide) ?_
          refine r_iconst (pc := 103) (v := 4) dX8_gives_103 (by decide) ?_
          refine s_VV (pc := 104) mX8_goes (ci := 8) (a := b0) (As := [.int l4, .int r_8, .int 0, .int 4]) dX8_gives_104 lk_X8_369 in_X8_goes mo_X8_goes ⟨by decide, rfl⟩ ⟨by decide, by decide⟩ (Nat.le_of_ble_eq_true rfl) k_b0 (mSV_mono K0 (fun y_10 K0 => ?_))
          refine r_iinc (pc := 107) (v := l4 + 1) dX8_gives_107 rfl rfl (by decide) ?_
          refine r_goto (pc := 110) (L := [some (.ref b0), some (.int l1), some (.int l2), some (.int (l3 + (nI (cpt r_8)))), some (.int (l4 + 1)), some (.int r_8)]) (tgt := 24) dX8_gives_110 (by decide) ?_
          exact r_le (L' := [some (.ref b0), some (.int l1), some (.int l2), some (.int (l3 + (nI (cpt r_8)))), some (.int (l4 + 1)), none]) ⟨rfl, ⟨rfl, ⟨rfl, ⟨rfl, ⟨rfl, trivial⟩⟩⟩⟩⟩ K0
        · have K0 := K0.2 q
          refine r_iload_n (pc := 81) dX8_gives_81 rfl ?_
          refine r_if_ne (pc := 82) (tgt := 89) dX8_gives_82 (by decide) (fun q => ?_) (fun q => ?_)
          · have K0 := K0.1 q
            refine r_iload_n (pc := 89) dX8_gives_89 rfl ?_
            refine r_iload (pc := 90) dX8_gives_90 rfl ?_
            refine s_SI (pc := 92) mX8_bits (As := [.int r_8]) dX8_gives_92 lk_X8_296 st_X8_bits mo_X8_bits ⟨by decide, by decide⟩ (Nat.le_of_ble_eq_true rfl) (sp_X8_bits  ?_)
            refine r_iadd (pc := 95) dX8_gives_95 ?_
            refine r_istore_n (pc := 96) dX8_gives_96 (by decide) ?_
            refine r_aload_n (pc := 97) (L := [some (.ref b0), some (.int l1), some (.int l2), some (.int (l3 + (nI (cpt r_8)))), some (.int l4), some (.int r_8)]) dX8_gives_97 rfl ?_
            refine r_iload (pc := 98) dX8_gives_98 rfl ?_
            refine r_iload (pc := 100) dX8_gives_100 rfl ?_
            refine r_iconst (pc := 102) (v := 0) dX8_gives_102 (by decide) ?_
            refine r_iconst (pc := 103) (v := 4) dX8_gives_103 (by decide) ?_
            refine s_VV (pc := 104) mX8_goes (ci := 8) (a := b0) (As := [.int l4, .int r_8, .int 0, .int 4]) dX8_gives_104 lk_X8_369 in_X8_goes mo_X8_goes ⟨by decide, rfl⟩ ⟨by decide, by decide⟩ (Nat.le_of_ble_eq_true rfl) k_b0 (mSV_mono K0 (fun y_12 K0 => ?_))
            refine r_iinc (pc := 107) (v := l4 + 1) dX8_gives_107 rfl rfl (by decide) ?_
            refine r_goto (pc := 110) (L := [some (.ref b0), some (.int l1), some (.int l2), some (.int (l3 + (nI (cpt r_8)))), some (.int (l4 + 1)), some (.int r_8)]) (tgt := 24) dX8_gives_110 (by decide) ?_
            exact r_le (L' := [some (.ref b0), some (.int l1), some (.int l2), some (.int (l3 + (nI (cpt r_8)))), some (.int (l4 + 1)), none]) ⟨rfl, ⟨rfl, ⟨rfl, ⟨rfl, ⟨rfl, trivial⟩⟩⟩⟩⟩ K0
          · have K0 := K0.2 q
            refine r_aload_n (pc := 85) dX8_gives_85 rfl ?_
            refine s_VV (pc := 86) mX8_keeps (ci := 8) (a := b0) (As := []) dX8_gives_86 lk_X8_366 in_X8_keeps mo_X8_keeps ⟨by decide, rfl⟩ ⟨by decide, by decide⟩ (Nat.le_of_ble_eq_true rfl) k_b0 (mSV_mono K0 (fun y_13 K0 => ?_))
            refine r_iload_n (pc := 89) dX8_gives_89 rfl ?_
            refine r_iload (pc := 90) dX8_gives_90 rfl ?_
            refine s_SI (pc := 92) mX8_bits (As := [.int r_8]) dX8_gives_92 lk_X8_296 st_X8_bits mo_X8_bits ⟨by decide, by decide⟩ (Nat.le_of_ble_eq_true rfl) (sp_X8_bits  ?_)
            refine r_iadd (pc := 95) dX8_gives_95 ?_
            refine r_istore_n (pc := 96) dX8_gives_96 (by decide) ?_
            refine r_aload_n (pc := 97) (L := [some (.ref b0), some (.int l1), some (.int l2), some (.int (l3 + (nI (cpt r_8)))), some (.int l4), some (.int r_8)]) dX8_gives_97 rfl ?_
            refine r_iload (pc := 98) dX8_gives_98 rfl ?_
            refine r_iload (pc := 100) dX8_gives_100 rfl ?_
            refine r_iconst (pc := 102) (v := 0) dX8_gives_102 (by decide) ?_
            refine r_iconst (pc := 103) (v := 4) dX8_gives_103 (by decide) ?_
            refine s_VV (pc := 104) mX8_goes (ci := 8) (a := b0) (As := [.int l4, .int r_8, .int 0, .int 4]) dX8_gives_104 lk_X8_369 in_X8_goes mo_X8_goes ⟨by decide, rfl⟩ ⟨by decide, by decide⟩ (Nat.le_of_ble_eq_true rfl) k_b0 (mSV_mono K0 (fun y_14 K0 => ?_))
            refine r_iinc (pc := 107) (v := l4 + 1) dX8_gives_107 rfl rfl (by decide) ?_
            refine r_goto (pc := 110) (L := [some (.ref b0), some (.int l1), some (.int l2), some (.int (l3 + (nI (cpt r_8)))), some (.int (l4 + 1)), some (.int r_8)]) (tgt := 24) dX8_gives_110 (by decide) ?_
            exact r_le (L' := [some (.ref b0), some (.int l1), some (.int l2), some (.int (l3 + (nI (cpt r_8)))), some (.int (l4 + 1)), none]) ⟨rfl, ⟨rfl, ⟨rfl, ⟨rfl, ⟨rfl, trivial⟩⟩⟩⟩⟩ K0
      · have K0 := K0.2 q
        refine r_goto (pc := 57) (tgt := 107) dX8_gives_57 (by decide) ?_
        refine r_iinc (pc := 107) (v := l4 + 1) dX8_gives_107 rfl rfl (by decide) ?_
        refine r_goto (pc := 110) (L := [some (.ref b0), some (.int l1), some (.int l2), some (.int l3), some (.int (l4 + 1)), none]) (tgt := 24) dX8_gives_110 (by decide) ?_
        exact r_le (L' := [some (.ref b0), some (.int l1), some (.int l2), some (.int l3), some (.int (l4 + 1)), none]) ⟨rfl, ⟨rfl, ⟨rfl, ⟨rfl, ⟨rfl, trivial⟩⟩⟩⟩⟩ K0
section
theorem sq_X8_gives {y : Cn} {Q : Int32 → Cn → Prop} {T : TT} {W C S A N n : Nat} {H : Nat → TT} {a b : Int32} (r : RS y T n H) (F : WF T W C S A N) (k1 : ¬ ((0 ≤ a ∧ a < nI C) ∧ (0 < nI W ∧ 0 ≤ b ∧ b < 7)) → Q (-2) y) (k2 : (0 ≤ a ∧ a < nI C) → (0 < nI W ∧ 0 ≤ b ∧ b < 7) → ∀ z m, RFr y z → (accT (gvS W N a b) S (T, 0)).2 = nI m → m ≤ 32 * S → (m = 0 → RS z T n H ∧ (accT (gvS W N a b) S (T, 0)).1 = T) → (¬ m = 0 → RS z (accT (gvS W N a b) S (T, 0)).1 (pn n) (push H n T)) → Q (accT (gvS W N a b) S (T, 0)).2 z) : mSI mX8_gives [.ref 717, .int a, .int b] KW y Q := by
  have hS : S ≤ 24 := F.2.2.2.2.2.2.1
  have hW : W ≤ 30 := F.2.2.1
  have hN : N ≤ W := F.2.2.2.2.2.2.2.2.2.2.1
  have hC : C ≤ 8 := F.2.2.2.2.1
  have M := r.1
  refine v_X8_gives_0 km M.1 km1 ⟨v0 (k := 1) (by decide) rfl rfl, ?_⟩
  rw [r.2.1, F.2.2.2.1, F.1, inN' (by omega), d7]
  refine ⟨fun z => k1 (fun u => z u.1), fun z1 => ⟨v0 (k := 0) (by decide) rfl rfl, fun z2 => ?_, fun z => k1 (fun u => z u.2)⟩⟩
  have k2 := k2 z1 z2
  refine lp_acc (gvS W N a b) (fun s t => ∀ v m, RFr y v → t.2 = nI m → m ≤ 32 * s → WF t.1 W C S A N → (m = 0 → RS v T n H ∧ t.1 = T) → (¬ m = 0 → RS v t.1 (pn n) (push H n T)) → GI mX8_gives 24 [some (.ref 717), some (.int a), some (.int b), some (.int t.2), some (.int (nI s)), none] [] KW v Q) S (T, 0) ?_ (fun s t hs n1 => ?_) y 0 (RFr.rf y) rfl (by omega) F (fun _ => ⟨r, rfl⟩) (fun u => absurd rfl u)
  · intro v m f e1 e2 e3 e4 e5
    have hr : MRf v 718 ∧ gi v 718 2 = nI S := by
      by_cases c : m = 0
      · obtain ⟨q1, q2⟩ := e4 c
        exact ⟨q1.1, by rw [q1.2.1]; exact F.2.2.2.2.2.1⟩
      · have q1 := e5 c
        exact ⟨q1.1, by rw [q1.2.1]; exact e3.2.2.2.2.2.1⟩
    exact v_X8_gives_24 km hr.1.1 km1 hr.1.2.2.1 km1 ⟨v0 (k := 2) (by decide) rfl rfl, fun _ => k2 v m f e1 e2 e4 e5, fun z => absurd (by rw [hr.2]; exact Int32.le_refl _) z⟩
  · obtain ⟨T1, tot⟩ := t
    intro v m f (e1 : tot = nI m) e2 (e3 : WF T1 W C S A N) (e4 : m = 0 → RS v T n H ∧ T1 = T) (e5 : ¬ m = 0 → RS v T1 (pn n) (push H n T))
    subst e1
    have hr : ∃ n' H', RS v T1 n' H' := by
      by_cases c : m = 0
      · obtain ⟨q1, q2⟩ := e4 c
        rw [q2]
        exact ⟨n, H, q1⟩
      · exact ⟨_, _, e5 c⟩
    obtain ⟨n', H', rv⟩ := hr
    have w0 := e3.2.2.2.2.2.2.2.2.2.2.2.2.1 s hs
    have skip : ¬ (so T1 s 0 = a ∧ so T1 s 1 = b) → GI mX8_gives 24 [some (.ref 717), some (.int a), some (.int b), some (.int (nI m)), some (.int (nI s + 1)), none] [] KW v Q := by
      intro c
      rw [nI_1]
      exact n1 (T1, nI m) (if_neg c) v m f rfl (by omega) e3 e4 e5
    refine v_X8_gives_24 km rv.1.1 km1 rv.1.2.2.1 km1 ⟨v0 (k := 2) (by decide) rfl rfl, fun z => absurd (by rw [rv.2.1, e3.2.2.2.2.2.1] at z; exact z) (nI_ge hs (by omega)), fun _ => ⟨l24_nI (by omega) rfl, ?_⟩⟩
    rw [rv.2.1, nI_clamp (by omega), e3.2.2.2.2.2.2.2.2.2.1, show nI N + 4 = nI (N + 4) from nI_add N 4]
    refine ⟨fun u => skip (fun c => u c.1), fun u1 => ⟨fun u2 => ⟨v0 (k := 4) (by decide) rfl rfl, ?_⟩, fun u => skip (fun c => u c.2)⟩⟩
    have stp : gvS W N a b s (T1, nI m) = (goT T1 s (opf T1 W s (N + 4)) 0 4, nI m + nI (cpt (opf T1 W s (N + 4)))) := if_pos ⟨u1, u2⟩
    have st2 : gvS W N a b s (T1, nI m) = (goT T1 s (opf T1 W s (N + 4)) 0 4, nI (m + cpt (opf T1 W s (N + 4)))) := stp.trans (by rw [nI_add])
    have cl := cpt_le (opf T1 W s (N + 4))
    have wf2 : WF (goT T1 s (opf T1 W s (N + 4)) 0 4) W C S A N := by
      obtain ⟨w1, w2, w3, w4, w5, w6, w7, w8, w9, w10, w11, w12, w13, w14⟩ := e3
      have eT : ∀ i, ¬ (62 + 12 * s ≤ i ∧ i < 74 + 12 * s) → goT T1 s (opf T1 W s (N + 4)) 0 4 i = T1 i := fun i h => goT_off _ _ _ (by decide) (by decide) i h
      refine ⟨by rw [eT 0 (by omega)]; exact w1, w2, w3, by rw [eT 1 (by omega)]; exact w4, w5, by rw [eT 2 (by omega)]; exact w6, w7, by rw [eT 3 (by omega)]; exact w8, w9, by rw [eT 4 (by omega)]; exact w10, w11, fun i hi => by rw [eT _ (by omega), eT _ (by omega)]; exact w12 i hi, fun s' hs' => ?_, fun a ha => (w14 a ha).cg (fun k hk => eT _ (by omega))⟩
      by_cases c : s' = s
      · rw [c]; exact w0.go (by decide) (by decide) (by decide) (opf_in w0 hW (by omega))
      · exact (w13 s' hs').cg (fun k hk => eT _ (by omega))
    refine sp_X8_openFrom rv e3 (by omega) (by omega) ⟨fun z => ?_, fun z => ⟨fun z2 => ?_, fun z2 => ?_⟩⟩
    · have c0 : cpt (opf T1 W s (N + 4)) = 0 := by rw [z, cpt_0]
      have e0 : goT T1 s (opf T1 W s (N + 4)) 0 4 = T1 := by rw [z, goT_0 _ _ _ _ (by decide) (by decide) (by decide)]
      rw [nI_1, nI_add]
      by_cases c : m = 0
      · obtain ⟨q1, q2⟩ := e4 c
        refine sp_X8_goes (k := 0) (o := 4) (T := T1) (by rw [q2]; exact q1) (by omega) (by decide) (by decide) (by decide) (fun v2 f2 r2 => ?_)
        refine n1 (goT T1 s (opf T1 W s (N + 4)) 0 4, nI (m + cpt (opf T1 W s (N + 4)))) st2 v2 (m + cpt (opf T1 W s (N + 4))) (f.tr f2) rfl (by omega) wf2 (fun u => ⟨?_, e0.trans q2⟩) (fun u => by omega)
        rw [e0, q2] at r2
        exact r2
      · refine sp_X8_goes (k := 0) (o := 4) (e5 c) (by omega) (by decide) (by decide) (by decide) (fun v2 f2 r2 => ?_)
        exact n1 (goT T1 s (opf T1 W s (N + 4)) 0 4, nI (m + cpt (opf T1 W s (N + 4)))) st2 v2 (m + cpt (opf T1 W s (N + 4))) (f.tr f2) rfl (by omega) wf2 (fun u => by omega) (fun _ => r2)
    · rw [show (0 : Int32) = nI 0 by decide, nI_eq (by omega) (by decide)] at z2
      refine sp_X8_goes (k := 0) (o := 4) (e5 z2) (by omega) (by decide) (by decide) (by decide) (fun v2 f2 r2 => ?_)
      rw [nI_1, nI_add]
      exact n1 (goT T1 s (opf T1 W s (N + 4)) 0 4, nI (m + cpt (opf T1 W s (N + 4)))) st2 v2 (m + cpt (opf T1 W s (N + 4))) (f.tr f2) rfl (by omega) wf2 (fun u => by omega) (fun _ => r2)
    · rw [show (0 : Int32) = nI 0 by decide, nI_eq (by omega) (by decide)] at z2
      obtain ⟨q1, q2⟩ := e4 z2
      subst q2
      refine q1.keeps (fun v3 f3 r3 => sp_X8_goes (k := 0) (o := 4) r3 (by omega) (by decide) (by decide) (by decide) (fun v2 f2 r2 => ?_))
      rw [nI_1, nI_add]
      have cp : ¬ cpt (opf T1 W s (N + 4)) = 0 := fun e => z (cpt_z e)
      exact n1 (goT T1 s (opf T1 W s (N + 4)) 0 4, nI (m + cpt (opf T1 W s (N + 4)))) st2 v2 (m + cpt (opf T1 W s (N + 4))) ((f.tr f3).tr f2) rfl (by omega) wf2 (fun u => by omega) (fun _ => r2)
end
theorem eq_tick : Both mX7_tick mX8_tick [] := by
  intro x R
  obtain ⟨W, C, S, A, N, n, H, ac, rs, nm⟩ := R.ac
  have E := ac.2.2.2.2
  have hn := E.nums
  have hS : S ≤ 24 := hn.2.2.2.2.2.2.1
  have hW : W ≤ 30 := hn.2.2.2.2.1
  have hC : C ≤ 8 := hn.2.2.2.2.2.1
  have hN : N ≤ W := hn.2.2.2.2.2.2.2.2
  refine v_X7_tick_0 k0 R.1.2.1 (ks0 E.1) ?_
  rw [hn.1, hn.2.1, nI_leI (by omega) (by omega)]
  refine ⟨fun z1 => ⟨fun z2 => ac.rem (fun _ _ => rfl) (fun y ay y1 y2 => ⟨ay.2.1.2.1, ?_⟩), fun z2 => sq_X8_tick rs E.2.2.2 (fun u => absurd z1 u) (fun _ _ => ⟨rfl, R⟩) (fun _ u => absurd (by omega) u)⟩, fun z => sq_X8_tick rs E.2.2.2 (fun _ => ⟨rfl, R⟩) (fun u => absurd u z) (fun u => absurd u z)⟩
  rw [ay.2.2.2.2.nums.2.1]
  refine lp_acc (tkS N) (fun s T' => ∀ v, AC x v W C S A N (pn n) T' (push H n (gi x 718)) → GI mX7_tick 38 [some (.ref 0), some (.int (1 <<< (nI N &&& 31))), some (.int (nI s))] [] KW v _) S (gi x 718) ?_ (fun s T' hs n1 => ?_) y ay
  · intro v av
    have hv := av.2.2.2.2.nums
    refine v_X7_tick_38 k0 av.2.1.2.1 (ks0 E.1) av.2.2.2.2.2.1.2.2.1 (ks3 E.1) ⟨fun _ => ?_, fun z => absurd (by rw [hv.2.2.1]; exact Int32.le_refl _) z⟩
    rw [gi_ui, if_pos ⟨rfl, rfl⟩, hv.2.1, nI_1]
    have a2 := av.now (N' := N + 1) (by omega)
    refine sq_X8_tick (a2.rs rs) E.2.2.2 (fun u => absurd z1 u) (fun _ u => by omega) (fun _ _ z f r2 => ⟨rfl, a2.fin R nm (fun c hc => ?_) f r2⟩)
    rw [uT_ne _ _ (by omega)]
    exact tk_off S hS _ (by omega)
  · intro v av
    have hv := av.2.2.2.2.nums
    obtain ⟨p, e1, e2, e3, e4, e5, e6⟩ := av.2.2.2.2.ser hs
    refine v_X7_tick_38 k0 av.2.1.2.1 (ks0 E.1) av.2.2.2.2.2.1.2.2.1 (ks3 E.1) ⟨fun z => absurd (by rw [hv.2.2.1] at z; exact z) (nI_ge hs (by omega)), fun _ => ⟨vp_in_nI (by omega) (by decide), p, by rw [nI_clamp (by omega)]; exact e1, e2, ?_⟩⟩
    rw [e5, nI_1]
    refine n1 _ rfl _ (av.go hs e1 ((EQx.rf v p).ui) (by decide) (by decide) (by decide) and_in (by rw [gi_ui, if_neg (by omega)]) (fun j h1 h2 => ?_))
    rw [gi_ui, so_goT _ _ _ (by decide) (by decide) h1]
    by_cases c : j = 8
    · rw [if_pos ⟨rfl, c⟩, if_pos c, e3.1 8 (by decide) (by decide)]
    · rw [if_neg (fun v => c v.2), if_neg c, if_neg h2]
      exact e3.1 j h1 h2
theorem eq_gives (a b : Int32) : Both mX7_gives mX8_gives [.int a, .int b] := by
  intro x R
  obtain ⟨W, C, S, A, N, n, H, ac, rs, nm⟩ := R.ac
  have E := ac.2.2.2.2
  have hn := E.nums
  have hS : S ≤ 24 := hn.2.2.2.2.2.2.1
  have hW : W ≤ 30 := hn.2.2.2.2.1
  have hC : C ≤ 8 := hn.2.2.2.2.2.1
  have hN : N ≤ W := hn.2.2.2.2.2.2.2.2
  refine v_X7_gives_0 k0 R.1.2.2.1 (by decide) R.1.2.1 (ks0 E.1) ?_
  rw [nm.1, hn.1, hn.2.1, show nI N + 4 = nI (N + 4) from nI_add N 4]
  refine ⟨fun z => sq_X8_gives rs E.2.2.2 (fun _ => ⟨rfl, R⟩) (fun u => absurd u z), fun z1 => ⟨fun z2 => ?_, fun z => sq_X8_gives rs E.2.2.2 (fun _ => ⟨rfl, R⟩) (fun _ u => absurd u z)⟩⟩
  have hb : ¬ b = -1 := by
    intro e
    rw [e] at z2
    exact absurd z2.2.1 (by decide)
  refine lp_acc (gvS W N a b) (fun s t => ∀ v m, t.2 = nI m → m ≤ 32 * s → (∀ i, i < 62 → t.1 i = gi x 718 i) → (m = 0 → AC x v W C S A N n (gi x 718) H ∧ t.1 = gi x 718) → (¬ m = 0 → AC x v W C S A N (pn n) t.1 (push H n (gi x 718))) → GI mX7_gives 38 [some (.ref 0), some (.int a), some (.int b), some (.int (f_bf (nI (N + 4)))), some (.int t.2), some (.int (nI s)), none, none] [] KW v _) S (gi x 718, 0) ?_ (fun s t hs n1 => ?_) x 0 rfl (by omega) (fun _ _ => rfl) (fun _ => ⟨ac, rfl⟩) (fun u => absurd rfl u)
  · intro v m e1 e2 e3 e4 e5
    have hr : ∃ n' T' H', AC x v W C S A N n' T' H' := by
      by_cases c : m = 0
      · exact ⟨_, _, _, (e4 c).1⟩
      · exact ⟨_, _, _, e5 c⟩
    obtain ⟨n', T', H', av⟩ := hr
    have hv := av.2.2.2.2.nums
    refine v_X7_gives_38 k0 av.2.1.2.1 (ks0 E.1) av.2.2.2.2.2.1.2.2.1 (ks3 E.1) ⟨fun _ => ?_, fun z => absurd (by rw [hv.2.2.1]; exact Int32.le_refl _) z⟩
    refine sq_X8_gives (av.rs rs) E.2.2.2 (fun u => absurd ⟨z1, z2⟩ u) (fun _ _ z m' f i1 i2 i3 i4 => ⟨rfl, ?_⟩)
    have em : m' = m := (nI_eq (by omega) (by omega)).mp (i1.symm.trans e1)
    subst em
    by_cases c : m' = 0
    · exact (e4 c).1.fin R nm (fun _ _ => rfl) f (i3 c).1
    · exact (e5 c).fin R nm (fun c hc => e3 _ (by omega)) f (i4 c)
  · obtain ⟨T1, tot⟩ := t
    intro v m (e1 : tot = nI m) e2 (e3 : ∀ i, i < 62 → T1 i = gi x 718 i) (e4 : m = 0 → AC x v W C S A N n (gi x 718) H ∧ T1 = gi x 718) (e5 : ¬ m = 0 → AC x v W C S A N (pn n) T1 (push H n (gi x 718)))
    subst e1
    have hr : ∃ n' H', AC x v W C S A N n' T1 H' := by
      by_cases c : m = 0
      · obtain ⟨q1, q2⟩ := e4 c
        rw [q2]
        exact ⟨n, H, q1⟩
      · exact ⟨_, _, e5 c⟩
    obtain ⟨n', H', av⟩ := hr
    have hv := av.2.2.2.2.nums
    obtain ⟨p, g1, g2, g3, g4, g5, g6⟩ := av.2.2.2.2.ser hs
    refine v_X7_gives_38 k0 av.2.1.2.1 (ks0 E.1) av.2.2.2.2.2.1.2.2.1 (ks3 E.1) ⟨fun z => absurd (by rw [hv.2.2.1] at z; exact z) (nI_ge hs (by omega)), fun _ => ⟨vp_in_nI (by omega) (by decide), p, by rw [nI_clamp (by omega)]; exact g1, g2, ?_⟩⟩
    rw [g3.1 0 (by decide) (by decide), g3.1 1 (by decide) (by decide), g5, ← opf_eq g6 hW (show N + 4 < 100 by omega), nI_1]
    refine ⟨fun u => n1 (T1, nI m) (if_neg (fun c => u ⟨c.1, Or.inr c.2⟩)) v m rfl (by omega) e3 e4 e5, fun u => ?_⟩
    have stp : gvS W N a b s (T1, nI m) = (goT T1 s (opf T1 W s (N + 4)) 0 4, nI m + nI (cpt (opf T1 W s (N + 4)))) := if_pos ⟨u.1, u.2.resolve_left hb⟩
    have st2 : gvS W N a b s (T1, nI m) = (goT T1 s (opf T1 W s (N + 4)) 0 4, nI (m + cpt (opf T1 W s (N + 4)))) := stp.trans (by rw [nI_add])
    have cl := cpt_le (opf T1 W s (N + 4))
    have e3' : ∀ i, i < 62 → goT T1 s (opf T1 W s (N + 4)) 0 4 i = gi x 718 i := fun i hi => by rw [goT_off _ _ _ (by decide) (by decide) i (by omega)]; exact e3 i hi
    refine ⟨fun z => ?_, fun z => ⟨fun z2' => ?_, fun z2' => ?_⟩⟩
    · have e0 : goT T1 s (opf T1 W s (N + 4)) 0 4 = T1 := by rw [z, goT_0 _ _ _ _ (by decide) (by decide) (by decide)]
      have c0 : cpt (opf T1 W s (N + 4)) = 0 := by rw [z, cpt_0]
      refine n1 (T1, nI m) (stp.trans ?_) v m rfl (by omega) e3 e4 e5
      rw [e0, c0, nI_0, Int32.add_zero]
    · rw [nI_z (by omega)] at z2'
      rw [nI_add]
      exact n1 (goT T1 s (opf T1 W s (N + 4)) 0 4, nI (m + cpt (opf T1 W s (N + 4)))) st2 _ (m + cpt (opf T1 W s (N + 4))) rfl (by omega) e3' (fun u => by omega) (fun _ => (e5 z2').giv hs (by omega) g1)
    · rw [nI_z (by omega)] at z2'
      obtain ⟨q1, q2⟩ := e4 z2'
      subst q2
      refine q1.rem (fun _ _ => rfl) (fun y ay y1 y2 => ?_)
      rw [nI_add]
      have cp : ¬ cpt (opf (gi x 718) W s (N + 4)) = 0 := fun e => z (cpt_z e)
      exact n1 (goT (gi x 718) s (opf (gi x 718) W s (N + 4)) 0 4, nI (m + cpt (opf (gi x 718) W s (N + 4)))) st2 _ (m + cpt (opf (gi x 718) W s (N + 4))) rfl (by omega) e3' (fun u => by omega) (fun _ => ay.giv hs (by omega) ((y2 5 s (by decide)).trans g1))
end
/-! 49.limit.lean.txt -/
section
/-- an hour would have more than so many -/
def abv (T : TT) (S W N h n m : Nat) : Prop := ∃ i d, N ≤ i ∧ i < W ∧ d < 7 ∧ (n < nW T S i (nI d) (nI h) 0 0 ∨ m < nW T S i (nI d) (nI h) 1 0)
theorem nW_le (T : TT) {S : Nat} (hS : S ≤ 24) (i : Nat) (d h io wo : Int32) : nW T S i d h io wo ≤ 24 := Nat.le_trans (cnt_le _ _) hS
set_option maxHeartbeats 2000000 in
theorem v_X4_holdsMore_0 {K : Sh} {x : Cn} {Q : Int32 → Cn → Prop} {b0 : Nat} {l1 : Int32} {l2 : Int32} {l3 : Int32}   (K0 : GI mX4_holdsMore 6 [some (.ref b0), some (.int l1), some (.int l2), some (.int l3), some (.int 0), some (.int 0)] [] K x Q) : mSI mX4_holdsMore [.ref b0, .int l1, .int l2, .int l3] K x Q := by
  refine s_I (by decide) (by simp [Value.category]) (Nat.le_of_ble_eq_true rfl) ?_
  show mGM mX4_holdsMore 0 [some (.ref b0), some (.int l1), some (.int l2), some (.int l3), none, none] [] (hp K x) (PI K Q)
  refine r_iconst (pc := 0) (v := 0) dX4_holdsMore_0 (by decide) ?_
  refine r_istore (pc := 1) dX4_holdsMore_1 (by decide) ?_
  refine r_iconst (pc := 3) (L := [some (.ref b0), some (.int l1), some (.int l2), some (.int l3), some (.int 0), none]) (v := 0) dX4_holdsMore_3 (by decide) ?_
  refine r_istore (pc := 4) dX4_holdsMore_4 (by decide) ?_
  exact r_le (L' := [some (.ref b0), some (.int l1), some (.int l2), some (.int l3), some (.int 0), some (.int 0)]) ⟨rfl, ⟨rfl, ⟨rfl, ⟨rfl, ⟨rfl, ⟨rfl, trivial⟩⟩⟩⟩⟩⟩ K0
set_option maxHeartbeats 2000000 in
theorem v_X4_holdsMore_6 {K : Sh} {x : Cn} {Q : Int32 → Cn → Prop} {b0 : Nat} {l1 : Int32} {l2 : Int32} {l3 : Int32} {l4 : Int32} {l5 : Int32}  (k_b0 : kk K b0 = some (4, 0)) (K0 : (7 ≤ l5 → (((l4 &&& (f_wtc (gi x b0 1) (gi x b0 0))) = 0 → (Q 0 x)) ∧ (¬ (l4 &&& (f_wtc (gi x b0 1) (gi x b0 0))) = 0 → (Q 1 x)))) ∧ (¬ 7 ≤ l5 → (mSI mX4_weeksLoaded [.ref b0, .int l5, .int l1, .int (l2 + 1), .int 0, .int 0] K x (fun r_4 y_3 => mSI mX4_weeksLoaded [.ref b0, .int l5, .int l1, .int (l3 + 1), .int 1, .int 0] K y_3 (fun r_6 y_5 => GI mX4_holdsMore 6 [some (.ref b0), some (.int l1), some (.int l2), some (.int l3), some (.int ((l4 ||| r_4) ||| r_6)), some (.int (l5 + 1))] [] K y_5 Q))))) : GI mX4_holdsMore 6 [some (.ref b0), some (.int l1), some (.int l2), some (.int l3), some (.int l4), some (.int l5)] [] K x Q := by
  show mGM mX4_holdsMore 6 [some (.ref b0), some (.int l1), some (.int l2), some (.int l3), some (.int l4), some (.int l5)] [] (hp K x) (PI K Q)
  refine r_iload (pc := 6) dX4_holdsMore_6 rfl ?_
  refine r_bipush (pc := 8) (v := 7) dX4_holdsMore_8 (by decide) ?_
  refine r_icmp_ge (pc := 10) (tgt := 53) dX4_holdsMore_10 (by decide) (fun q => ?_) (fun q => ?_)
  · have K0 := K0.1 q
    refine r_iload (pc := 53) dX4_holdsMore_53 rfl ?_
    refine r_aload_n (pc := 55) dX4_holdsMore_55 rfl ?_
    refine s_VI (pc := 56) mX4_weeksToCome (ci := 4) (a := b0) (As := []) dX4_holdsMore_56 lk_X4_141 in_X4_weeksToCome mo_X4_weeksToCome ⟨by decide, rfl⟩ ⟨by decide, by decide⟩ (Nat.le_of_ble_eq_true rfl) k_b0 (sp_X4_weeksToCome k_b0 ?_)
    refine r_iand (pc := 59) dX4_holdsMore_59 ?_
    refine r_if_eq (pc := 60) (tgt := 67) dX4_holdsMore_60 (by decide) (fun q => ?_) (fun q => ?_)
    · have K0 := K0.1 q
      refine r_iconst (pc := 67) (v := 0) dX4_holdsMore_67 (by decide) ?_
      exact s_zret rfl (by decide) dX4_holdsMore_68 K0
    · have K0 := K0.2 q
      refine r_iconst (pc := 63) (v := 1) dX4_holdsMore_63 (by decide) ?_
      refine r_goto (pc := 64) (tgt := 68) dX4_holdsMore_64 (by decide) ?_
      exact s_zret rfl (by decide) dX4_holdsMore_68 K0
  · have K0 := K0.2 q
    refine r_iload (pc := 13) dX4_holdsMore_13 rfl ?_
    refine r_aload_n (pc := 15) dX4_holdsMore_15 rfl ?_
    refine r_iload (pc := 16) dX4_holdsMore_16 rfl ?_
    refine r_iload_n (pc := 18) dX4_holdsMore_18 rfl ?_
    refine r_iload_n (pc := 19) dX4_holdsMore_19 rfl ?_
    refine r_iconst (pc := 20) (v := 1) dX4_holdsMore_20 (by decide) ?_
    refine r_iadd (pc := 21) dX4_holdsMore_21 ?_
    refine r_iconst (pc := 22) (v := 0) dX4_holdsMore_22 (by decide) ?_
    refine r_iconst (pc := 23) (v := 0) dX4_holdsMore_23 (by decide) ?_
    refine s_VI (pc := 24) mX4_weeksLoaded (ci := 4) (a := b0) (As := [.int l5, .int l1, .int (l2 + 1), .int 0, .int 0]) dX4_holdsMore_24 lk_X4_96 in_X4_weeksLoaded mo_X4_weeksLoaded ⟨by decide, rfl⟩ ⟨by decide, by decide⟩ (Nat.le_of_ble_eq_true rfl) k_b0 (mSI_mono K0 (fun r_4 y_3 K0 => ?_))
    refine r_ior (pc := 27) dX4_holdsMore_27 ?_
    refine r_istore (pc := 28) dX4_holdsMore_28 (by decide) ?_
    refine r_iload (pc := 30) (L := [some (.ref b0), some (.int l1), some (.int l2), some (.int l3), some (.int (l4 ||| r_4)), some (.int l5)]) dX4_holdsMore_30 rfl ?_
    refine r_aload_n (pc := 32) dX4_holdsMore_32 rfl ?_
    refine r_iload (pc := 33) dX4_holdsMore_33 rfl ?_
    refine r_iload_n (pc := 35) dX4_holdsMore_35 rfl ?_
    refine r_iload_n (pc := 36) dX4_holdsMore_36 rfl ?_
    refine r_iconst (pc := 37) (v := 1) dX4_holdsMore_37 (by decide) ?_
    refine r_iadd (pc := 38) dX4_holdsMore_38 ?_
    refine r_iconst (pc := 39) (v := 1) dX4_holdsMore_39 (by decide) ?_
    refine r_iconst (pc := 40) (v := 0) dX4_holdsMore_40 (by decide) ?_
    refine s_VI (pc := 41) mX4_weeksLoaded (ci := 4) (a := b0) (As := [.int l5, .int l1, .int (l3 + 1), .int 1, .int 0]) dX4_holdsMore_41 lk_X4_96 in_X4_weeksLoaded mo_X4_weeksLoaded ⟨by decide, rfl⟩ ⟨by decide, by decide⟩ (Nat.le_of_ble_eq_true rfl) k_b0 (mSI_mono K0 (fun r_6 y_5 K0 => ?_))
    refine r_ior (pc := 44) dX4_holdsMore_44 ?_
    refine r_istore (pc := 45) dX4_holdsMore_45 (by decide) ?_
    refine r_iinc (pc := 47) (L := [some (.ref b0), some (.int l1), some (.int l2), some (.int l3), some (.int ((l4 ||| r_4) ||| r_6)), some (.int l5)]) (v := l5 + 1) dX4_holdsMore_47 rfl rfl (by decide) ?_
    refine r_goto (pc := 50) (L := [some (.ref b0), some (.int l1), some (.int l2), some (.int l3), some (.int ((l4 ||| r_4) ||| r_6)), some (.int (l5 + 1))]) (tgt := 6) dX4_holdsMore_50 (by decide) ?_
    exact r_le (L' := [some (.ref b0), some (.int l1), some (.int l2), some (.int l3), some (.int ((l4 ||| r_4) ||| r_6)), some (.int (l5 + 1))]) ⟨rfl, ⟨rfl, ⟨rfl, ⟨rfl, ⟨rfl, ⟨rfl, trivial⟩⟩⟩⟩⟩⟩ K0
section
variable {x : Cn} {Q : Int32 → Cn → Prop}
theorem sp_X4_holdsMore {q : Nat} {T : TT} {W C S A N : Nat} (E : SEA x q T W C S A N) {h n m : Nat} (hh : h < 24) (hn9 : n ≤ 9) (hm9 : m ≤ 9) (k : ∀ y, EQx x y (q + 5) → Q (bP (abv T S W N h n m)) y) : mSI mX4_holdsMore [.ref q, .int (nI h), .int (nI n), .int (nI m)] KW x Q := by
  have hn := E.nums
  have hS : S ≤ 24 := hn.2.2.2.2.2.2.1
  have hW : W ≤ 30 := hn.2.2.2.2.1
  have hN : N ≤ W := hn.2.2.2.2.2.2.2.2
  have key : ∀ c d l y, d + c = 7 → EQx x y (q + 5) → (∀ i, i < 32 → (tb l i = true ↔ ∃ d', d' < d ∧ (n < nW T S i (nI d') (nI h) 0 0 ∨ m < nW T S i (nI d') (nI h) 1 0))) → GI mX4_holdsMore 6 [some (.ref q), some (.int (nI h)), some (.int (nI n)), some (.int (nI m)), some (.int l), some (.int (nI d))] [] KW y Q := by
    intro c
    induction c with
    | zero =>
      intro d l y hd hy hl
      have : d = 7 := by omega
      subst this
      have hy2 := (E.eqx hy (Or.inl rfl)).nums
      refine v_X4_holdsMore_6 (ks0 E.1) ⟨fun _ => ?_, fun z => absurd (Int32.le_refl _) z⟩
      rw [hy2.1, hy2.2.1]
      have iff : (l &&& f_wtc (nI N) (nI W)) = 0 ↔ ¬ abv T S W N h n m := by
        constructor
        · rintro u ⟨i, d, h1, h2, h3, h4⟩
          have v := congrArg (fun v => tb v i) u
          simp only [tb_0, tb_and, tb_wtc hW hN (show i < 32 by omega), decide_eq_true (show N ≤ i ∧ i < W from ⟨h1, h2⟩), Bool.and_true] at v
          have := (hl i (by omega)).mpr ⟨d, h3, h4⟩
          rw [v] at this
          cases this
        · intro u
          apply tb_ext
          intro i hi
          rw [tb_0, tb_and, tb_wtc hW hN hi]
          by_cases e : N ≤ i ∧ i < W
          · have : ¬ tb l i = true := fun g => by
              obtain ⟨d', h3, h4⟩ := (hl i hi).mp g
              exact u ⟨i, d', e.1, e.2, h3, h4⟩
            rw [Bool.eq_false_iff.mpr this, Bool.false_and]
          · rw [decide_eq_false e, Bool.and_false]
      rw [iff]
      exact ⟨fun u => (bP_k (k y hy)).2 u, fun u => (bP_k (k y hy)).1 (Classical.byContradiction u)⟩
    | succ c ih =>
      intro d l y hd hy hl
      refine v_X4_holdsMore_6 (ks0 E.1) ⟨fun z => absurd z (nI_ge (b := 7) (by omega) (by decide)), fun _ => ?_⟩
      rw [nI_1, nI_1, nI_1]
      have E2 := E.eqx hy (Or.inl rfl)
      refine sp_X4_weeksLoaded E2 (fun r1 y1 hy1 hr1 => ?_)
      refine sp_X4_weeksLoaded (E2.eqx hy1 (Or.inl rfl)) (fun r2 y2 hy2 hr2 => ?_)
      refine ih (d + 1) _ y2 (by omega) ((hy.tr hy1).tr hy2) (fun i hi => ?_)
      have b1 := nW_le T hS i (nI d) (nI h) 0 0
      have b2 := nW_le T hS i (nI d) (nI h) 1 0
      have u1 := hr1 i hi
      have u2 := hr2 i hi
      rw [nI_leI (by omega) (by omega)] at u1 u2
      rw [tb_or, tb_or, Bool.or_eq_true, Bool.or_eq_true, hl i hi, u1, u2]
      constructor
      · rintro ((⟨d', g1, g2⟩ | g) | g)
        · exact ⟨d', by omega, g2⟩
        · exact ⟨d, by omega, Or.inl (by omega)⟩
        · exact ⟨d, by omega, Or.inr (by omega)⟩
      · rintro ⟨d', g1, g2⟩
        by_cases e : d' = d
        · rw [e] at g2
          rcases g2 with g | g
          · exact Or.inl (Or.inr (by omega))
          · exact Or.inr (by omega)
        · exact Or.inl (Or.inl ⟨d', by omega, g2⟩)
  exact v_X4_holdsMore_0 (key 7 0 0 x (by omega) (EQx.rf _ _) (fun i hi => by
    rw [tb_0]
    exact ⟨fun z => (by cases z), fun ⟨d', g, _⟩ => by omega⟩))
end
set_option maxHeartbeats 2000000 in
theorem v_X8_isAbove_0 {K : Sh} {x : Cn} {Q : Int32 → Cn → Prop} {b0 : Nat} {l1 : Int32} {l2 : Int32} {l3 : Int32} {b0_1 : Nat} {n_b0_1 : Nat} (k_b0 : kk K b0 = some (8, 0)) (g_b0_1 : gr x b0 1 = some b0_1) (k_b0_1 : kk K b0_1 = some (20, n_b0_1)) (K0 : vp_in 4 n_b0_1 ∧ (GI mX8_isAbove 8 [some (.ref b0), some (.int l1), some (.int l2), some (.int l3), some (.int (gi x b0_1 4)), none] [] K x Q)) : mSI mX8_isAbove [.ref b0, .int l1, .int l2, .int l3] K x Q := by
  refine s_I (by decide) (by simp [Value.category]) (Nat.le_of_ble_eq_true rfl) ?_
  show mGM mX8_isAbove 0 [some (.ref b0), some (.int l1), some (.int l2), some (.int l3), none, none] [] (hp K x) (PI K Q)
  refine r_aload_n (pc := 0) dX8_isAbove_0 rfl ?_
  refine s_getR (pc := 1) dX8_isAbove_1 fl_X8_9 rfl k_b0 g_b0_1 ?_
  refine r_iconst (pc := 4) (v := 4) dX8_isAbove_4 (by decide) ?_
  obtain ⟨i_1, K0⟩ := K0
  refine s_iald (pc := 5) dX8_isAbove_5 k_b0_1 i_1 ?_
  refine r_istore (pc := 6) dX8_isAbove_6 (by decide) ?_
  exact r_le (L' := [some (.ref b0), some (.int l1), some (.int l2), some (.int l3), some (.int (gi x b0_1 4)), none]) ⟨rfl, ⟨rfl, ⟨rfl, ⟨rfl, ⟨rfl, trivial⟩⟩⟩⟩⟩ K0
set_option maxHeartbeats 2000000 in
theorem v_X8_isAbove_8 {K : Sh} {x : Cn} {Q : Int32 → Cn → Prop} {b0 : Nat} {l1 : Int32} {l2 : Int32} {l3 : Int32} {l4 : Int32} {b0_1 : Nat} {n_b0_1 : Nat} (k_b0 : kk K b0 = some (8, 0)) (g_b0_1 : gr x b0 1 = some b0_1) (k_b0_1 : kk K b0_1 = some (20, n_b0_1)) (K0 : vp_in 0 n_b0_1 ∧ (((gi x b0_1 0) ≤ l4 → (Q 0 x)) ∧ (¬ (gi x b0_1 0) ≤ l4 → (GI mX8_isAbove 22 [some (.ref b0), some (.int l1), some (.int l2), some (.int l3), some (.int l4), some (.int 0)] [] K x Q)))) : GI mX8_isAbove 8 [some (.ref b0), some (.int l1), some (.int l2), some (.int l3), some (.int l4), none] [] K x Q := by
  show mGM mX8_isAbove 8 [some (.ref b0), some (.int l1), some (.int l2), some (.int l3), some (.int l4), none] [] (hp K x) (PI K Q)
  refine r_iload (pc := 8) dX8_isAbove_8 rfl ?_
  refine r_aload_n (pc := 10) dX8_isAbove_10 rfl ?_
  refine s_getR (pc := 11) dX8_isAbove_11 fl_X8_9 rfl k_b0 g_b0_1 ?_
  refine r_iconst (pc := 14) (v := 0) dX8_isAbove_14 (by decide) ?_
  obtain ⟨i_1, K0⟩ := K0
  refine s_iald (pc := 15) dX8_isAbove_15 k_b0_1 i_1 ?_
  refine r_icmp_ge (pc := 16) (tgt := 73) dX8_isAbove_16 (by decide) (fun q => ?_) (fun q => ?_)
  · have K0 := K0.1 q
    refine r_iconst (pc := 73) (v := 0) dX8_isAbove_73 (by decide) ?_
    exact s_zret rfl (by decide) dX8_isAbove_74 K0
  · have K0 := K0.2 q
    refine r_iconst (pc := 19) (v := 0) dX8_isAbove_19 (by decide) ?_
    refine r_istore (pc := 20) dX8_isAbove_20 (by decide) ?_
    exact r_le (L' := [some (.ref b0), some (.int l1), some (.int l2), some (.int l3), some (.int l4), some (.int 0)]) ⟨rfl, ⟨rfl, ⟨rfl, ⟨rfl, ⟨rfl, ⟨rfl, trivial⟩⟩⟩⟩⟩⟩ K0
set_option maxHeartbeats 2000000 in
theorem v_X8_isAbove_22 {K : Sh} {x : Cn} {Q : Int32 → Cn → Prop} {b0 : Nat} {l1 : Int32} {l2 : Int32} {l3 : Int32} {l4 : Int32} {l5 : Int32}  (k_b0 : kk K b0 = some (8, 0)) (K0 : (7 ≤ l5 → (GI mX8_isAbove 8 [some (.ref b0), some (.int l1), some (.int l2), some (.int l3), some (.int (l4 + 1)), none] [] K x Q)) ∧ (¬ 7 ≤ l5 → (mSI mX8_loadBut [.ref b0, .int l4, .int l5, .int l1, .int 0, .int (-1)] K x (fun r_3 y_2 => (l2 < r_3 → (Q 1 y_2)) ∧ (¬ l2 < r_3 → (mSI mX8_loadBut [.ref b0, .int l4, .int l5, .int l1, .int 1, .int (-1)] K y_2 (fun r_6 y_5 => (r_6 ≤ l3 → (GI mX8_isAbove 22 [some (.ref b0), some (.int l1), some (.int l2), some (.int l3), some (.int l4), some (.int (l5 + 1))] [] K y_5 Q)) ∧ (¬ r_6 ≤ l3 → (Q 1 y_5))))))))) : GI mX8_isAbove 22 [some (.ref b0), some (.int l1), some (.int l2), some (.int l3), some (.int l4), some (.int l5)] [] K x Q := by
  show mGM mX8_isAbove 22 [some (.ref b0), some (.int l1), some (.int l2), some (.int l3), some (.int l4), some (.int l5)] [] (hp K x) (PI K Q)
  refine r_iload (pc := 22) dX8_isAbove_22 rfl ?_
  refine r_bipush (pc := 24) (v := 7) dX8_isAbove_24 (by decide) ?_
  refine r_icmp_ge (pc := 26) (tgt := 67) dX8_isAbove_26 (by decide) (fun q => ?_) (fun q => ?_)
  · have K0 := K0.1 q
    refine r_iinc (pc := 67) (v := l4 + 1) dX8_isAbove_67 rfl rfl (by decide) ?_
    refine r_goto (pc := 70) (L := [some (.ref b0), some (.int l1), some (.int l2), some (.int l3), some (.int (l4 + 1)), some (.int l5)]) (tgt := 8) dX8_isAbove_70 (by decide) ?_
    exact r_le (L' := [some (.ref b0), some (.int l1), some (.int l2), some (.int l3), some (.int (l4 + 1)), none]) ⟨rfl, ⟨rfl, ⟨rfl, ⟨rfl, ⟨rfl, trivial⟩⟩⟩⟩⟩ K0
  · have K0 := K0.2 q
    refine r_aload_n (pc := 29) dX8_isAbove_29 rfl ?_
    refine r_iload (pc := 30) dX8_isAbove_30 rfl ?_
    refine r_iload (pc := 32) dX8_isAbove_32 rfl ?_
    refine r_iload_n (pc := 34) dX8_isAbove_34 rfl ?_
    refine r_iconst (pc := 35) (v := 0) dX8_isAbove_35 (by decide) ?_
    refine r_iconst (pc := 36) (v := (-1)) dX8_isAbove_36 (by decide) ?_
    refine s_VI (pc := 37) mX8_loadBut (ci := 8) (a := b0) (As := [.int l4, .int l5, .int l1, .int 0, .int (-1)]) dX8_isAbove_37 lk_X8_86 in_X8_loadBut mo_X8_loadBut ⟨by decide, rfl⟩ ⟨by decide, by decide⟩ (Nat.le_of_ble_eq_true rfl) k_b0 (mSI_mono K0 (fun r_3 y_2 K0 => ?_))
    refine r_iload_n (pc := 40) dX8_isAbove_40 rfl ?_
    refine r_icmp_gt (pc := 41) (tgt := 59) dX8_isAbove_41 (by decide) (fun q => ?_) (fun q => ?_)
    · have K0 := K0.1 q
      refine r_iconst (pc := 59) (v := 1) dX8_isAbove_59 (by decide) ?_
      exact s_zret rfl (by decide) dX8_isAbove_60 K0
    · have K0 := K0.2 q
      refine r_aload_n (pc := 44) dX8_isAbove_44 rfl ?_
      refine r_iload (pc := 45) dX8_isAbove_45 rfl ?_
      refine r_iload (pc := 47) dX8_isAbove_47 rfl ?_
      refine r_iload_n (pc := 49) dX8_isAbove_49 rfl ?_
      refine r_iconst (pc := 50) (v := 1) dX8_isAbove_50 (by decide) ?_
      refine r_iconst (pc := 51) (v := (-1)) dX8_isAbove_51 (by decide) ?_
      refine s_VI (pc := 52) mX8_loadBut (ci := 8) (a := b0) (As := [.int l4, .int l5, .int l1, .int 1, .int (-1)]) dX8_isAbove_52 lk_X8_86 in_X8_loadBut mo_X8_loadBut ⟨by decide, rfl⟩ ⟨by decide, by decide⟩ (Nat.le_of_ble_eq_true rfl) k_b0 (mSI_mono K0 (fun r_6 y_5 K0 => ?_))
      refine r_iload_n (pc := 55) dX8_isAbove_55 rfl ?_
      refine r_icmp_le (pc := 56) (tgt := 61) dX8_isAbove_56 (by decide) (fun q => ?_) (fun q => ?_)
      · have K0 := K0.1 q
        refine r_iinc (pc := 61) (v := l5 + 1) dX8_isAbove_61 rfl rfl (by decide) ?_
        refine r_goto (pc := 64) (L := [some (.ref b0), some (.int l1), some (.int l2), some (.int l3), some (.int l4), some (.int (l5 + 1))]) (tgt := 22) dX8_isAbove_64 (by decide) ?_
        exact r_le (L' := [some (.ref b0), some (.int l1), some (.int l2), some (.int l3), some (.int l4), some (.int (l5 + 1))]) ⟨rfl, ⟨rfl, ⟨rfl, ⟨rfl, ⟨rfl, ⟨rfl, trivial⟩⟩⟩⟩⟩⟩ K0
      · have K0 := K0.2 q
        refine r_iconst (pc := 59) (v := 1) dX8_isAbove_59 (by decide) ?_
        exact s_zret rfl (by decide) dX8_isAbove_60 K0
section
variable {x : Cn} {Q : Int32 → Cn → Prop}
theorem sp_X8_isAbove (M : MRf x 718) {W C S A N : Nat} (F : WF (gi x 718) W C S A N) {h n m : Nat} (hh : h < 24) (hn9 : n ≤ 9) (hm9 : m ≤ 9) (k : Q (bP (abv (gi x 718) S W N h n m)) x) : mSI mX8_isAbove [.ref 717, .int (nI h), .int (nI n), .int (nI m)] KW x Q := by
  have hS : S ≤ 24 := F.2.2.2.2.2.2.1
  have hW : W ≤ 30 := F.2.2.1
  have hN : N ≤ W := F.2.2.2.2.2.2.2.2.2.2.1
  have t2 := F.2.2.2.2.2.1
  have key : ∀ c w, w + c = W → N ≤ w → (∀ i d, N ≤ i → i < w → d < 7 → ¬ (n < nW (gi x 718) S i (nI d) (nI h) 0 0 ∨ m < nW (gi x 718) S i (nI d) (nI h) 1 0)) → GI mX8_isAbove 8 [some (.ref 717), some (.int (nI h)), some (.int (nI n)), some (.int (nI m)), some (.int (nI w)), none] [] KW x Q := by
    intro c
    induction c with
    | zero =>
      intro w hw h1 g
      have : w = W := by omega
      subst this
      refine v_X8_isAbove_8 km M.1 km1 ⟨v0 (k := 0) (by decide) rfl rfl, fun _ => (bP_k k).2 ?_, fun z => absurd (by rw [F.1]; exact Int32.le_refl _) z⟩
      rintro ⟨i, d, h2, h3, h4, h5⟩
      exact g i d h2 h3 h4 h5
    | succ c ih =>
      intro w hw h1 g
      refine v_X8_isAbove_8 km M.1 km1 ⟨v0 (k := 0) (by decide) rfl rfl, fun z => absurd (by rw [F.1] at z; exact z) (nI_ge (by omega) (by omega)), fun _ => ?_⟩
      have key2 : ∀ c2 d, d + c2 = 7 → (∀ d', d' < d → ¬ (n < nW (gi x 718) S w (nI d') (nI h) 0 0 ∨ m < nW (gi x 718) S w (nI d') (nI h) 1 0)) → GI mX8_isAbove 22 [some (.ref 717), some (.int (nI h)), some (.int (nI n)), some (.int (nI m)), some (.int (nI w)), some (.int (nI d))] [] KW x Q := by
        intro c2
        induction c2 with
        | zero =>
          intro d hd g2
          have : d = 7 := by omega
          subst this
          refine v_X8_isAbove_22 km ⟨fun _ => ?_, fun z => absurd (Int32.le_refl _) z⟩
          rw [nI_1]
          refine ih (w + 1) (by omega) (by omega) (fun i d i1 i2 i3 => ?_)
          by_cases e : i = w
          · rw [e]; exact g2 d i3
          · exact g i d i1 (by omega) i3
        | succ c2 ih2 =>
          intro d hd g2
          have b1 := nW_le (gi x 718) hS w (nI d) (nI h) 0 0
          have b2 := nW_le (gi x 718) hS w (nI d) (nI h) 1 0
          refine v_X8_isAbove_22 km ⟨fun z => absurd z (nI_ge (b := 7) (by omega) (by decide)), fun _ => ?_⟩
          refine sp_X8_loadBut M km1 t2 hS (by omega) ?_
          rw [ldB_nW0 wo_0 S hS, nI_ltI (by omega) (by omega)]
          refine ⟨fun z => (bP_k k).1 ⟨w, d, h1, by omega, by omega, Or.inl z⟩, fun z => sp_X8_loadBut M km1 t2 hS (by omega) ?_⟩
          rw [ldB_nW1 wo_0 S hS, nI_leI (by omega) (by omega), nI_1]
          refine ⟨fun z2 => ih2 (d + 1) (by omega) (fun d' hd' => ?_), fun z2 => (bP_k k).1 ⟨w, d, h1, by omega, by omega, Or.inr (by omega)⟩⟩
          by_cases e : d' = d
          · rw [e]; omega
          · exact g2 d' (by omega)
      exact key2 7 0 (by omega) (fun d' hd' => by omega)
  refine v_X8_isAbove_0 km M.1 km1 ⟨v0 (k := 4) (by decide) rfl rfl, ?_⟩
  rw [F.2.2.2.2.2.2.2.2.2.1]
  exact key (W - N) N (by omega) (Nat.le_refl _) (fun i d i1 i2 => by omega)
def lmT (T : TT) (h : Nat) (n m : Int32) : TT := uT (uT T (6 + 2 * h) n) (7 + 2 * h) m
end
set_option maxHeartbeats 2000000 in
theorem v_X7_limit_0 {K : Sh} {x : Cn} {Q : Int32 → Cn → Prop} {b0 : Nat} {l1 : Int32} {l2 : Int32} {l3 : Int32} {b0_2 : Nat} (k_b0 : kk K b0 = some (7, 0)) (g_b0_2 : gr x b0 2 = some b0_2) (k_b0_2 : kk K b0_2 = some (4, 0)) (K0 : (¬ (0 < gi x b0_2 0 ∧ 0 ≤ l1 ∧ l1 < 24) → (Q (-2) x)) ∧ ((0 < gi x b0_2 0 ∧ 0 ≤ l1 ∧ l1 < 24) → ((¬ (0 ≤ l2 ∧ l2 ≤ 9) → (Q (-2) x)) ∧ ((0 ≤ l2 ∧ l2 ≤ 9) → (((0 ≤ l3 ∧ l3 ≤ l2) → (mSI mX4_holdsMore [.ref b0_2, .int l1, .int l2, .int l3] K x (fun r_5 y_4 => (r_5 = 0 → (gr y_4 b0 2 = some b0_2 ∧ (∃ c_8 : Nat, gr y_4 b0_2 5 = some c_8 ∧ (∃ n_11 : Nat, kk K c_8 = some (20, n_11) ∧ (vp_in l1 n_11 ∧ (∃ c_13 : Nat, gr y_4 b0_2 6 = some c_13 ∧ (∃ n_16 : Nat, kk K c_13 = some (20, n_16) ∧ (vp_in l1 n_16 ∧ ((¬ (gi y_4 c_8 (l1 : Int32).toNatClampNeg) = l2 → (mSV mX7_remember [.ref b0] K y_4 (fun y_19 => gr y_19 b0 2 = some b0_2 ∧ (∃ c_21 : Nat, gr y_19 b0_2 5 = some c_21 ∧ (∃ n_24 : Nat, kk K c_21 = some (20, n_24) ∧ (vp_in l1 n_24 ∧ (∃ c_26 : Nat, gr y_19 b0_2 6 = some c_26 ∧ (∃ n_29 : Nat, kk K c_26 = some (20, n_29) ∧ (vp_in l1 n_29 ∧ (Q ((10 * (gi y_4 c_8 (l1 : Int32).toNatClampNeg)) + (gi y_4 c_13 (l1 : Int32).toNatClampNeg)) (ui (ui y_19 c_21 (l1 : Int32).toNatClampNeg l2) c_26 (l1 : Int32).toNatClampNeg l3))))))))))) ∧ ((gi y_4 c_8 (l1 : Int32).toNatClampNeg) = l2 → (((gi y_4 c_13 (l1 : Int32).toNatClampNeg) = l3 → (Q ((10 * (gi y_4 c_8 (l1 : Int32).toNatClampNeg)) + (gi y_4 c_13 (l1 : Int32).toNatClampNeg)) y_4)) ∧ (¬ (gi y_4 c_13 (l1 : Int32).toNatClampNeg) = l3 → (mSV mX7_remember [.ref b0] K y_4 (fun y_32 => gr y_32 b0 2 = some b0_2 ∧ (∃ c_34 : Nat, gr y_32 b0_2 5 = some c_34 ∧ (∃ n_37 : Nat, kk K c_34 = some (20, n_37) ∧ (vp_in l1 n_37 ∧ (∃ c_39 : Nat, gr y_32 b0_2 6 = some c_39 ∧ (∃ n_42 : Nat, kk K c_39 = some (20, n_42) ∧ (vp_in l1 n_42 ∧ (Q ((10 * (gi y_4 c_8 (l1 : Int32).toNatClampNeg)) + (gi y_4 c_13 (l1 : Int32).toNatClampNeg)) (ui (ui y_32 c_34 (l1 : Int32).toNatClampNeg l2) c_39 (l1 : Int32).toNatClampNeg l3)))))))))))))))))))))) ∧ (¬ r_5 = 0 → (Q (-6) y_4))))) ∧ (¬ (0 ≤ l3 ∧ l3 ≤ l2) → (Q (-2) x))))))) : mSI mX7_limit [.ref b0, .int l1, .int l2, .int l3] K x Q := by
  refine s_I (by decide) (by simp [Value.category]) (Nat.le_of_ble_eq_true rfl) ?_
  show mGM mX7_limit 0 [some (.ref b0), some (.int l1), some (.int l2), some (.int l3), none, none] [] (hp K x) (PI K Q)
  refine r_aload_n (pc := 0) dX7_limit_0 rfl ?_
  refine r_iload_n (pc := 1) dX7_limit_1 rfl ?_
  refine s_VI (pc := 2) mX7_isHour (ci := 7) (a := b0) (As := [.int l1]) dX7_limit_2 lk_X7_195 in_X7_isHour mo_X7_isHour ⟨by decide, rfl⟩ ⟨by decide, by decide⟩ (Nat.le_of_ble_eq_true rfl) k_b0 (sp_X7_isHour k_b0 g_b0_2 k_b0_2 ?_)
  refine r_if_eq (pc := 5) (tgt := 27) dX7_limit_5 (by decide) (fun q => ?_) (fun q => ?_)
  · have q := (b2i_z _).mp q
    have K0 := K0.1 q
    refine r_bipush (pc := 27) (v := (-2)) dX7_limit_27 (by decide) ?_
    exact s_iret rfl dX7_limit_29 K0
  · have q := b2i_nz q
    have K0 := K0.2 q
    refine r_iload_n (pc := 8) dX7_limit_8 rfl ?_
    refine r_iconst (pc := 9) (v := 0) dX7_limit_9 (by decide) ?_
    refine r_bipush (pc := 10) (v := 9) dX7_limit_10 (by decide) ?_
    refine s_SI (pc := 12) mX7_isWithin (As := [.int l2, .int 0, .int 9]) dX7_limit_12 lk_X7_113 st_X7_isWithin mo_X7_isWithin ⟨by decide, by decide⟩ (Nat.le_of_ble_eq_true rfl) (sp_X7_isWithin  ?_)
    refine r_if_eq (pc := 15) (tgt := 27) dX7_limit_15 (by decide) (fun q => ?_) (fun q => ?_)
    · have q := (b2i_z _).mp q
      have K0 := K0.1 q
      refine r_bipush (pc := 27) (v := (-2)) dX7_limit_27 (by decide) ?_
      exact s_iret rfl dX7_limit_29 K0
    · have q := b2i_nz q
      have K0 := K0.2 q
      refine r_iload_n (pc := 18) dX7_limit_18 rfl ?_
      refine r_iconst (pc := 19) (v := 0) dX7_limit_19 (by decide) ?_
      refine r_iload_n (pc := 20) dX7_limit_20 rfl ?_
      refine s_SI (pc := 21) mX7_isWithin (As := [.int l3, .int 0, .int l2]) dX7_limit_21 lk_X7_113 st_X7_isWithin mo_X7_isWithin ⟨by decide, by decide⟩ (Nat.le_of_ble_eq_true rfl) (sp_X7_isWithin  ?_)
      refine r_if_ne (pc := 24) (tgt := 30) dX7_limit_24 (by decide) (fun q => ?_) (fun q => ?_)
      · have q := b2i_nz q
        have K0 := K0.1 q
        refine r_aload_n (pc := 30) dX7_limit_30 rfl ?_
        refine s_getR (pc := 31) dX7_limit_31 fl_X7_20 rfl k_b0 g_b0_2 ?_
        refine r_iload_n (pc := 34) dX7_limit_34 rfl ?_
        refine r_iload_n (pc := 35) dX7_limit_35 rfl ?_
        refine r_iload_n (pc := 36) dX7_limit_36 rfl ?_
        refine s_VI (pc := 37) mX4_holdsMore (ci := 4) (a := b0_2) (As := [.int l1, .int l2, .int l3]) dX7_limit_37 lk_X7_358 in_X4_holdsMore mo_X4_holdsMore ⟨by decide, rfl⟩ ⟨by decide, by decide⟩ (Nat.le_of_ble_eq_true rfl) k_b0_2 (mSI_mono K0 (fun r_5 y_4 K0 => ?_))
        refine r_if_eq (pc := 40) (tgt := 46) dX7_limit_40 (by decide) (fun q => ?_) (fun q => ?_)
        · have K0 := K0.1 q
          refine r_aload_n (pc := 46) dX7_limit_46 rfl ?_
          obtain ⟨g_7, K0⟩ := K0
          refine s_getR (pc := 47) dX7_limit_47 fl_X7_20 rfl k_b0 g_7 ?_
          obtain ⟨c_8, g_9, K0⟩ := K0
          refine s_getR (pc := 50) dX7_limit_50 fl_X7_198 rfl k_b0_2 g_9 ?_
          refine r_iload_n (pc := 53) dX7_limit_53 rfl ?_
          obtain ⟨n_11, e_10, K0⟩ := K0
          obtain ⟨i_12, K0⟩ := K0
          refine s_iald (pc := 54) dX7_limit_54 e_10 i_12 ?_
          refine r_istore (pc := 55) dX7_limit_55 (by decide) ?_
          refine r_aload_n (pc := 57) (L := [some (.ref b0), some (.int l1), some (.int l2), some (.int l3), some (.int (gi y_4 c_8 (l1 : Int32).toNatClampNeg)), none]) dX7_limit_57 rfl ?_
          refine s_getR (pc := 58) dX7_limit_58 fl_X7_20 rfl k_b0 g_7 ?_
          obtain ⟨c_13, g_14, K0⟩ := K0
          refine s_getR (pc := 61) dX7_limit_61 fl_X7_202 rfl k_b0_2 g_14 ?_
          refine r_iload_n (pc := 64) dX7_limit_64 rfl ?_
          obtain ⟨n_16, e_15, K0⟩ := K0
          obtain ⟨i_17, K0⟩ := K0
          refine s_iald (pc := 65) dX7_limit_65 e_15 i_17 ?_
          refine r_istore (pc := 66) dX7_limit_66 (by decide) ?_
          refine r_iload (pc := 68) (L := [some (.ref b0), some (.int l1), some (.int l2), some (.int l3), some (.int (gi y_4 c_8 (l1 : Int32).toNatClampNeg)), some (.int (gi y_4 c_13 (l1 : Int32).toNatClampNeg))]) dX7_limit_68 rfl ?_
          refine r_iload_n (pc := 70) dX7_limit_70 rfl ?_
          refine r_icmp_ne (pc := 71) (tgt := 80) dX7_limit_71 (by decide) (fun q => ?_) (fun q => ?_)
          · have K0 := K0.1 q
            refine r_aload_n (pc := 80) dX7_limit_80 rfl ?_
            refine s_VV (pc := 81) mX7_remember (ci := 7) (a := b0) (As := []) dX7_limit_81 lk_X7_333 in_X7_remember mo_X7_remember ⟨by decide, rfl⟩ ⟨by decide, by decide⟩ (Nat.le_of_ble_eq_true rfl) k_b0 (mSV_mono K0 (fun y_19 K0 => ?_))
            refine r_aload_n (pc := 84) dX7_limit_84 rfl ?_
            obtain ⟨g_20, K0⟩ := K0
            refine s_getR (pc := 85) dX7_limit_85 fl_X7_20 rfl k_b0 g_20 ?_
            obtain ⟨c_21, g_22, K0⟩ := K0
            refine s_getR (pc := 88) dX7_limit_88 fl_X7_198 rfl k_b0_2 g_22 ?_
            refine r_iload_n (pc := 91) dX7_limit_91 rfl ?_
            refine r_iload_n (pc := 92) dX7_limit_92 rfl ?_
            obtain ⟨n_24, e_23, K0⟩ := K0
            obtain ⟨i_25, K0⟩ := K0
            refine s_iast (pc := 93) dX7_limit_93 e_23 i_25 ?_
            refine r_aload_n (pc := 94) dX7_limit_94 rfl ?_
            refine s_getR (pc := 95) dX7_limit_95 fl_X7_20 rfl k_b0 g_20 ?_
            obtain ⟨c_26, g_27, K0⟩ := K0
            refine s_getR (pc := 98) dX7_limit_98 fl_X7_202 rfl k_b0_2 g_27 ?_
            refine r_iload_n (pc := 101) dX7_limit_101 rfl ?_
            refine r_iload_n (pc := 102) dX7_limit_102 rfl ?_
            obtain ⟨n_29, e_28, K0⟩ := K0
            obtain ⟨i_30, K0⟩ := K0
            refine s_iast (pc := 103) dX7_limit_103 e_28 i_30 ?_
            refine r_bipush (pc := 104) (v := 10) dX7_limit_104 (by decide) ?_
            refine r_iload (pc := 106) dX7_limit_106 rfl ?_
            refine r_imul (pc := 108) dX7_limit_108 ?_
            refine r_iload (pc := 109) dX7_limit_109 rfl ?_
            refine r_iadd (pc := 111) dX7_limit_111 ?_
            exact s_iret rfl dX7_limit_112 K0
          · have K0 := K0.2 q
            refine r_iload (pc := 74) dX7_limit_74 rfl ?_
            refine r_iload_n (pc := 76) dX7_limit_76 rfl ?_
            refine r_icmp_eq (pc := 77) (tgt := 104) dX7_limit_77 (by decide) (fun q => ?_) (fun q => ?_)
            · have K0 := K0.1 q
              refine r_bipush (pc := 104) (v := 10) dX7_limit_104 (by decide) ?_
              refine r_iload (pc := 106) dX7_limit_106 rfl ?_
              refine r_imul (pc := 108) dX7_limit_108 ?_
              refine r_iload (pc := 109) dX7_limit_109 rfl ?_
              refine r_iadd (pc := 111) dX7_limit_111 ?_
              exact s_iret rfl dX7_limit_112 K0
            · have K0 := K0.2 q
              refine r_aload_n (pc := 80) dX7_limit_80 rfl ?_
              refine s_VV (pc := 81) mX7_remember (ci := 7) (a := b0) (As := []) dX7_limit_81 lk_X7_333 in_X7_remember mo_X7_remember ⟨by decide, rfl⟩ ⟨by decide, by decide⟩ (Nat.le_of_ble_eq_true rfl) k_b0 (mSV_mono K0 (fun y_32 K0 => ?_))
              refine r_aload_n (pc := 84) dX7_limit_84 rfl ?_
              obtain ⟨g_33, K0⟩ := K0
              refine s_getR (pc := 85) dX7_limit_85 fl_X7_20 rfl k_b0 g_33 ?_
              obtain ⟨c_34, g_35, K0⟩ := K0
              refine s_getR (pc := 88) dX7_limit_88 fl_X7_198 rfl k_b0_2 g_35 ?_
              refine r_iload_n (pc := 91) dX7_limit_91 rfl ?_
              refine r_iload_n (pc := 92) dX7_limit_92 rfl ?_
              obtain ⟨n_37, e_36, K0⟩ := K0
              obtain ⟨i_38, K0⟩ := K0
              refine s_iast (pc := 93) dX7_limit_93 e_36 i_38 ?_
              refine r_aload_n (pc := 94) dX7_limit_94 rfl ?_
              refine s_getR (pc := 95) dX7_limit_95 fl_X7_20 rfl k_b0 g_33 ?_
              obtain ⟨c_39, g_40, K0⟩ := K0
              refine s_getR (pc := 98) dX7_limit_98 fl_X7_202 rfl k_b0_2 g_40 ?_
              refine r_iload_n (pc := 101) dX7_limit_101 rfl ?_
              refine r_iload_n (pc := 102) dX7_limit_102 rfl ?_
              obtain ⟨n_42, e_41, K0⟩ := K0
              obtain ⟨i_43, K0⟩ := K0
              refine s_iast (pc := 103) dX7_limit_103 e_41 i_43 ?_
              refine r_bipush (pc := 104) (v := 10) dX7_limit_104 (by decide) ?_
              refine r_iload (pc := 106) dX7_limit_106 rfl ?_
              refine r_imul (pc := 108) dX7_limit_108 ?_
              refine r_iload (pc := 109) dX7_limit_109 rfl ?_
              refine r_iadd (pc := 111) dX7_limit_111 ?_
              exact s_iret rfl dX7_limit_112 K0
        · have K0 := K0.2 q
          refine r_bipush (pc := 43) (v := (-6)) dX7_limit_43 (by decide) ?_
          exact s_iret rfl dX7_limit_45 K0
      · have q := (b2i_z _).mp q
        have K0 := K0.2 q
        refine r_bipush (pc := 27) (v := (-2)) dX7_limit_27 (by decide) ?_
        exact s_iret rfl dX7_limit_29 K0
set_option maxHeartbeats 2000000 in
theorem v_X8_limit_0 {K : Sh} {x : Cn} {Q : Int32 → Cn → Prop} {b0 : Nat} {l1 : Int32} {l2 : Int32} {l3 : Int32} {b0_1 : Nat} {n_b0_1 : Nat} (k_b0 : kk K b0 = some (8, 0)) (g_b0_1 : gr x b0 1 = some b0_1) (k_b0_1 : kk K b0_1 = some (20, n_b0_1)) (K0 : vp_in 0 n_b0_1 ∧ ((¬ (0 < gi x b0_1 0 ∧ 0 ≤ l1 ∧ l1 ≤ 23) → (Q (-2) x)) ∧ ((0 < gi x b0_1 0 ∧ 0 ≤ l1 ∧ l1 ≤ 23) → ((¬ (0 ≤ l2 ∧ l2 ≤ 9) → (Q (-2) x)) ∧ ((0 ≤ l2 ∧ l2 ≤ 9) → (((0 ≤ l3 ∧ l3 ≤ l2) → (mSI mX8_isAbove [.ref b0, .int l1, .int l2, .int l3] K x (fun r_6 y_5 => (r_6 = 0 → (gr y_5 b0 1 = some b0_1 ∧ (vp_in (6 + (2 * l1)) n_b0_1 ∧ (vp_in ((6 + (2 * l1)) + 1) n_b0_1 ∧ ((¬ (gi y_5 b0_1 ((6 + (2 * l1)) : Int32).toNatClampNeg) = l2 → (mSV mX8_keeps [.ref b0] K y_5 (fun y_12 => gr y_12 b0 1 = some b0_1 ∧ (Q ((10 * (gi y_5 b0_1 ((6 + (2 * l1)) : Int32).toNatClampNeg)) + (gi y_5 b0_1 (((6 + (2 * l1)) + 1) : Int32).toNatClampNeg)) (ui (ui y_12 b0_1 ((6 + (2 * l1)) : Int32).toNatClampNeg l2) b0_1 (((6 + (2 * l1)) + 1) : Int32).toNatClampNeg l3))))) ∧ ((gi y_5 b0_1 ((6 + (2 * l1)) : Int32).toNatClampNeg) = l2 → (((gi y_5 b0_1 (((6 + (2 * l1)) + 1) : Int32).toNatClampNeg) = l3 → (Q ((10 * (gi y_5 b0_1 ((6 + (2 * l1)) : Int32).toNatClampNeg)) + (gi y_5 b0_1 (((6 + (2 * l1)) + 1) : Int32).toNatClampNeg)) (ui (ui y_5 b0_1 ((6 + (2 * l1)) : Int32).toNatClampNeg l2) b0_1 (((6 + (2 * l1)) + 1) : Int32).toNatClampNeg l3))) ∧ (¬ (gi y_5 b0_1 (((6 + (2 * l1)) + 1) : Int32).toNatClampNeg) = l3 → (mSV mX8_keeps [.ref b0] K y_5 (fun y_15 => gr y_15 b0 1 = some b0_1 ∧ (Q ((10 * (gi y_5 b0_1 ((6 + (2 * l1)) : Int32).toNatClampNeg)) + (gi y_5 b0_1 (((6 + (2 * l1)) + 1) : Int32).toNatClampNeg)) (ui (ui y_15 b0_1 ((6 + (2 * l1)) : Int32).toNatClampNeg l2) b0_1 (((6 + (2 * l1)) + 1) : Int32).toNatClampNeg l3)))))))))))) ∧ (¬ r_6 = 0 → (Q (-6) y_5))))) ∧ (¬ (0 ≤ l3 ∧ l3 ≤ l2) → (Q (-2) x)))))))) : mSI mX8_limit [.ref b0, .int l1, .int l2, .int l3] K x Q := by
  refine s_I (by decide) (by simp [Value.category]) (Nat.le_of_ble_eq_true rfl) ?_
  show mGM mX8_limit 0 [some (.ref b0), some (.int l1), some (.int l2), some (.int l3), none, none] [] (hp K x) (PI K Q)
  refine r_aload_n (pc := 0) dX8_limit_0 rfl ?_
  refine r_iload_n (pc := 1) dX8_limit_1 rfl ?_
  obtain ⟨i_1, K0⟩ := K0
  refine s_VI (pc := 2) mX8_isHour (ci := 8) (a := b0) (As := [.int l1]) dX8_limit_2 lk_X8_64 in_X8_isHour mo_X8_isHour ⟨by decide, rfl⟩ ⟨by decide, by decide⟩ (Nat.le_of_ble_eq_true rfl) k_b0 (sp_X8_isHour k_b0 g_b0_1 k_b0_1 i_1 ?_)
  refine r_if_eq (pc := 5) (tgt := 31) dX8_limit_5 (by decide) (fun q => ?_) (fun q => ?_)
  · have q := (b2i_z _).mp q
    have K0 := K0.1 q
    refine r_bipush (pc := 31) (v := (-2)) dX8_limit_31 (by decide) ?_
    exact s_iret rfl dX8_limit_33 K0
  · have q := b2i_nz q
    have K0 := K0.2 q
    refine r_iload_n (pc := 8) dX8_limit_8 rfl ?_
    refine r_i2l (pc := 9) dX8_limit_9 ?_
    refine r_lconst (pc := 10) (v := 0) dX8_limit_10 (by decide) ?_
    refine r_ldc2 (pc := 11) (v := 9) dX8_limit_11 cn_X8_388 ?_
    refine s_SI (pc := 14) mX8_in (As := [.long ((l2 : Int32).toInt64), .long 0, .long 9]) dX8_limit_14 lk_X8_45 st_X8_in mo_X8_in ⟨by decide, by decide⟩ (Nat.le_of_ble_eq_true rfl) (sq_X8_in (v := l2) (lo := 0) (hi := 9) rfl (by decide) (by decide) ?_)
    refine r_if_eq (pc := 17) (tgt := 31) dX8_limit_17 (by decide) (fun q => ?_) (fun q => ?_)
    · have q := (b2i_z _).mp q
      have K0 := K0.1 q
      refine r_bipush (pc := 31) (v := (-2)) dX8_limit_31 (by decide) ?_
      exact s_iret rfl dX8_limit_33 K0
    · have q := b2i_nz q
      have K0 := K0.2 q
      refine r_iload_n (pc := 20) dX8_limit_20 rfl ?_
      refine r_i2l (pc := 21) dX8_limit_21 ?_
      refine r_lconst (pc := 22) (v := 0) dX8_limit_22 (by decide) ?_
      refine r_iload_n (pc := 23) dX8_limit_23 rfl ?_
      refine r_i2l (pc := 24) dX8_limit_24 ?_
      refine s_SI (pc := 25) mX8_in (As := [.long ((l3 : Int32).toInt64), .long 0, .long ((l2 : Int32).toInt64)]) dX8_limit_25 lk_X8_45 st_X8_in mo_X8_in ⟨by decide, by decide⟩ (Nat.le_of_ble_eq_true rfl) (sq_X8_in (v := l3) (lo := 0) (hi := l2) rfl (by decide) rfl ?_)
      refine r_if_ne (pc := 28) (tgt := 34) dX8_limit_28 (by decide) (fun q => ?_) (fun q => ?_)
      · have q := b2i_nz q
        have K0 := K0.1 q
        refine r_aload_n (pc := 34) dX8_limit_34 rfl ?_
        refine r_iload_n (pc := 35) dX8_limit_35 rfl ?_
        refine r_iload_n (pc := 36) dX8_limit_36 rfl ?_
        refine r_iload_n (pc := 37) dX8_limit_37 rfl ?_
        refine s_VI (pc := 38) mX8_isAbove (ci := 8) (a := b0) (As := [.int l1, .int l2, .int l3]) dX8_limit_38 lk_X8_390 in_X8_isAbove mo_X8_isAbove ⟨by decide, rfl⟩ ⟨by decide, by decide⟩ (Nat.le_of_ble_eq_true rfl) k_b0 (mSI_mono K0 (fun r_6 y_5 K0 => ?_))
        refine r_if_eq (pc := 41) (tgt := 47) dX8_limit_41 (by decide) (fun q => ?_) (fun q => ?_)
        · have K0 := K0.1 q
          refine r_aload_n (pc := 47) dX8_limit_47 rfl ?_
          obtain ⟨g_8, K0⟩ := K0
          refine s_getR (pc := 48) dX8_limit_48 fl_X8_9 rfl k_b0 g_8 ?_
          refine r_bipush (pc := 51) (v := 6) dX8_limit_51 (by decide) ?_
          refine r_iconst (pc := 53) (v := 2) dX8_limit_53 (by decide) ?_
          refine r_iload_n (pc := 54) dX8_limit_54 rfl ?_
          refine r_imul (pc := 55) dX8_limit_55 ?_
          refine r_iadd (pc := 56) dX8_limit_56 ?_
          obtain ⟨i_9, K0⟩ := K0
          refine s_iald (pc := 57) dX8_limit_57 k_b0_1 i_9 ?_
          refine r_istore (pc := 58) dX8_limit_58 (by decide) ?_
          refine r_aload_n (pc := 60) (L := [some (.ref b0), some (.int l1), some (.int l2), some (.int l3), some (.int (gi y_5 b0_1 ((6 + (2 * l1)) : Int32).toNatClampNeg)), none]) dX8_limit_60 rfl ?_
          refine s_getR (pc := 61) dX8_limit_61 fl_X8_9 rfl k_b0 g_8 ?_
          refine r_bipush (pc := 64) (v := 6) dX8_limit_64 (by decide) ?_
          refine r_iconst (pc := 66) (v := 2) dX8_limit_66 (by decide) ?_
          refine r_iload_n (pc := 67) dX8_limit_67 rfl ?_
          refine r_imul (pc := 68) dX8_limit_68 ?_
          refine r_iadd (pc := 69) dX8_limit_69 ?_
          refine r_iconst (pc := 70) (v := 1) dX8_limit_70 (by decide) ?_
          refine r_iadd (pc := 71) dX8_limit_71 ?_
          obtain ⟨i_10, K0⟩ := K0
          refine s_iald (pc := 72) dX8_limit_72 k_b0_1 i_10 ?_
          refine r_istore (pc := 73) dX8_limit_73 (by decide) ?_
          refine r_iload (pc := 75) (L := [some (.ref b0), some (.int l1), some (.int l2), some (.int l3), some (.int (gi y_5 b0_1 ((6 + (2 * l1)) : Int32).toNatClampNeg)), some (.int (gi y_5 b0_1 (((6 + (2 * l1)) + 1) : Int32).toNatClampNeg))]) dX8_limit_75 rfl ?_
          refine r_iload_n (pc := 77) dX8_limit_77 rfl ?_
          refine r_icmp_ne (pc := 78) (tgt := 87) dX8_limit_78 (by decide) (fun q => ?_) (fun q => ?_)
          · have K0 := K0.1 q
            refine r_aload_n (pc := 87) dX8_limit_87 rfl ?_
            refine s_VV (pc := 88) mX8_keeps (ci := 8) (a := b0) (As := []) dX8_limit_88 lk_X8_366 in_X8_keeps mo_X8_keeps ⟨by decide, rfl⟩ ⟨by decide, by decide⟩ (Nat.le_of_ble_eq_true rfl) k_b0 (mSV_mono K0 (fun y_12 K0 => ?_))
            refine r_aload_n (pc := 91) dX8_limit_91 rfl ?_
            obtain ⟨g_13, K0⟩ := K0
            refine s_getR (pc := 92) dX8_limit_92 fl_X8_9 rfl k_b0 g_13 ?_
            refine r_bipush (pc := 95) (v := 6) dX8_limit_95 (by decide) ?_
            refine r_iconst (pc := 97) (v := 2) dX8_limit_97 (by decide) ?_
            refine r_iload_n (pc := 98) dX8_limit_98 rfl ?_
            refine r_imul (pc := 99) dX8_limit_99 ?_
            refine r_iadd (pc := 100) dX8_limit_100 ?_
            refine r_iload_n (pc := 101) dX8_limit_101 rfl ?_
            refine s_iast (pc := 102) dX8_limit_102 k_b0_1 i_9 ?_
            refine r_aload_n (pc := 103) dX8_limit_103 rfl ?_
            refine s_getR (pc := 104) dX8_limit_104 fl_X8_9 rfl k_b0 g_13 ?_
            refine r_bipush (pc := 107) (v := 6) dX8_limit_107 (by decide) ?_
            refine r_iconst (pc := 109) (v := 2) dX8_limit_109 (by decide) ?_
            refine r_iload_n (pc := 110) dX8_limit_110 rfl ?_
            refine r_imul (pc := 111) dX8_limit_111 ?_
            refine r_iadd (pc := 112) dX8_limit_112 ?_
            refine r_iconst (pc := 113) (v := 1) dX8_limit_113 (by decide) ?_
            refine r_iadd (pc := 114) dX8_limit_114 ?_
            refine r_iload_n (pc := 115) dX8_limit_115 rfl ?_
            refine s_iast (pc := 116) dX8_limit_116 k_b0_1 i_10 ?_
            refine r_bipush (pc := 117) (v := 10) dX8_limit_117 (by decide) ?_
            refine r_iload (pc := 119) dX8_limit_119 rfl ?_
            refine r_imul (pc := 121) dX8_limit_121 ?_
            refine r_iload (pc := 122) dX8_limit_122 rfl ?_
            refine r_iadd (pc := 124) dX8_limit_124 ?_
            exact s_iret rfl dX8_limit_125 K0
          · have K0 := K0.2 q
            refine r_iload (pc := 81) dX8_limit_81 rfl ?_
            refine r_iload_n (pc := 83) dX8_limit_83 rfl ?_
            refine r_icmp_eq (pc := 84) (tgt := 91) dX8_limit_84 (by decide) (fun q => ?_) (fun q => ?_)
            · have K0 := K0.1 q
              refine r_aload_n (pc := 91) dX8_limit_91 rfl ?_
              refine s_getR (pc := 92) dX8_limit_92 fl_X8_9 rfl k_b0 g_8 ?_
              refine r_bipush (pc := 95) (v := 6) dX8_limit_95 (by decide) ?_
              refine r_iconst (pc := 97) (v := 2) dX8_limit_97 (by decide) ?_
              refine r_iload_n (pc := 98) dX8_limit_98 rfl ?_
              refine r_imul (pc := 99) dX8_limit_99 ?_
              refine r_iadd (pc := 100) dX8_limit_100 ?_
              refine r_iload_n (pc := 101) dX8_limit_101 rfl ?_
              refine s_iast (pc := 102) dX8_limit_102 k_b0_1 i_9 ?_
              refine r_aload_n (pc := 103) dX8_limit_103 rfl ?_
              refine s_getR (pc := 104) dX8_limit_104 fl_X8_9 rfl k_b0 g_8 ?_
              refine r_bipush (pc := 107) (v := 6) dX8_limit_107 (by decide) ?_
              refine r_iconst (pc := 109) (v := 2) dX8_limit_109 (by decide) ?_
              refine r_iload_n (pc := 110) dX8_limit_110 rfl ?_
              refine r_imul (pc := 111) dX8_limit_111 ?_
              refine r_iadd (pc := 112) dX8_limit_112 ?_
              refine r_iconst (pc := 113) (v := 1) dX8_limit_113 (by decide) ?_
              refine r_iadd (pc := 114) dX8_limit_114 ?_
              refine r_iload_n (pc := 115) dX8_limit_115 rfl ?_
              refine s_iast (pc := 116) dX8_limit_116 k_b0_1 i_10 ?_
              refine r_bipush (pc := 117) (v := 10) dX8_limit_117 (by decide) ?_
              refine r_iload (pc := 119) dX8_limit_119 rfl ?_
              refine r_imul (pc := 121) dX8_limit_121 ?_
              refine r_iload (pc := 122) dX8_limit_122 rfl ?_
              refine r_iadd (pc := 124) dX8_limit_124 ?_
              exact s_iret rfl dX8_limit_125 K0
            · have K0 := K0.2 q
              refine r_aload_n (pc := 87) dX8_limit_87 rfl ?_
              refine s_VV (pc := 88) mX8_keeps (ci := 8) (a := b0) (As := []) dX8_limit_88 lk_X8_366 in_X8_keeps mo_X8_keeps ⟨by decide, rfl⟩ ⟨by decide, by decide⟩ (Nat.le_of_ble_eq_true rfl) k_b0 (mSV_mono K0 (fun y_15 K0 => ?_))
              refine r_aload_n (pc := 91) dX8_limit_91 rfl ?_
              obtain ⟨g_16, K0⟩ := K0
              refine s_getR (pc := 92) dX8_limit_92 fl_X8_9 rfl k_b0 g_16 ?_
              refine r_bipush (pc := 95) (v := 6) dX8_limit_95 (by decide) ?_
              refine r_iconst (pc := 97) (v := 2) dX8_limit_97 (by decide) ?_
              refine r_iload_n (pc := 98) dX8_limit_98 rfl ?_
              refine r_imul (pc := 99) dX8_limit_99 ?_
              refine r_iadd (pc := 100) dX8_limit_100 ?_
              refine r_iload_n (pc := 101) dX8_limit_101 rfl ?_
              refine s_iast (pc := 102) dX8_limit_102 k_b0_1 i_9 ?_
              refine r_aload_n (pc := 103) dX8_limit_103 rfl ?_
              refine s_getR (pc := 104) dX8_limit_104 fl_X8_9 rfl k_b0 g_16 ?_
              refine r_bipush (pc := 107) (v := 6) dX8_limit_107 (by decide) ?_
              refine r_iconst (pc := 109) (v := 2) dX8_limit_109 (by decide) ?_
              refine r_iload_n (pc := 110) dX8_limit_110 rfl ?_
              refine r_imul (pc := 111) dX8_limit_111 ?_
              refine r_iadd (pc := 112) dX8_limit_112 ?_
              refine r_iconst (pc := 113) (v := 1) dX8_limit_113 (by decide) ?_
              refine r_iadd (pc := 114) dX8_limit_114 ?_
              refine r_iload_n (pc := 115) dX8_limit_115 rfl ?_
              refine s_iast (pc := 116) dX8_limit_116 k_b0_1 i_10 ?_
              refine r_bipush (pc := 117) (v := 10) dX8_limit_117 (by decide) ?_
              refine r_iload (pc := 119) dX8_limit_119 rfl ?_
              refine r_imul (pc := 121) dX8_limit_121 ?_
              refine r_iload (pc := 122) dX8_limit_122 rfl ?_
              refine r_iadd (pc := 124) dX8_limit_124 ?_
              exact s_iret rfl dX8_limit_125 K0
        · have K0 := K0.2 q
          refine r_bipush (pc := 44) (v := (-6)) dX8_limit_44 (by decide) ?_
          exact s_iret rfl dX8_limit_46 K0
      · have q := (b2i_z _).mp q
        have K0 := K0.2 q
        refine r_bipush (pc := 31) (v := (-2)) dX8_limit_31 (by decide) ?_
        exact s_iret rfl dX8_limit_33 K0
section
variable {x : Cn} {Q : Int32 → Cn → Prop}
theorem sq_X8_limit {y : Cn} {Q : Int32 → Cn → Prop} {T : TT} {W C S A N n : Nat} {H : Nat → TT} {a b c : Int32} (r : RS y T n H) (F : WF T W C S A N) (k1 : ¬ ((0 < nI W ∧ 0 ≤ a ∧ a < 24) ∧ (0 ≤ b ∧ b ≤ 9) ∧ (0 ≤ c ∧ c ≤ b)) → Q (-2) y) (k2 : ∀ h p q, a = nI h → b = nI p → c = nI q → h < 24 → p ≤ 9 → q ≤ p → 0 < nI W → ¬ bP (abv T S W N h p q) = 0 → Q (-6) y) (k3 : ∀ h p q, a = nI h → b = nI p → c = nI q → h < 24 → p ≤ 9 → q ≤ p → 0 < nI W → bP (abv T S W N h p q) = 0 → T (6 + 2 * h) = nI p → T (7 + 2 * h) = nI q → ∀ z, RFr y z → RS z T n H → Q ((10 * T (6 + 2 * h)) + T (7 + 2 * h)) z) (k4 : ∀ h p q, a = nI h → b = nI p → c = nI q → h < 24 → p ≤ 9 → q ≤ p → 0 < nI W → bP (abv T S W N h p q) = 0 → ¬ (T (6 + 2 * h) = nI p ∧ T (7 + 2 * h) = nI q) → ∀ z, RFr y z → RS z (lmT T h (nI p) (nI q)) (pn n) (push H n T) → Q ((10 * T (6 + 2 * h)) + T (7 + 2 * h)) z) : mSI mX8_limit [.ref 717, .int a, .int b, .int c] KW y Q := by
  have hW : W ≤ 30 := F.2.2.1
  have M := r.1
  refine v_X8_limit_0 km M.1 km1 ⟨v0 (k := 0) (by decide) rfl rfl, ?_⟩
  rw [r.2.1, F.1, d24]
  refine ⟨fun z => k1 (fun u => z u.1), fun z1 => ⟨fun z => k1 (fun u => z u.2.1), fun z2 => ⟨fun z3 => ?_, fun z => k1 (fun u => z u.2.2)⟩⟩⟩
  obtain ⟨h, hh, rfl⟩ := inN (n := 24) (by decide) z1.2
  obtain ⟨p, hp, rfl⟩ := nI_of2 (M := 9) (n := 9) (by decide) (Int32.not_lt.mpr z2.1) z2.2
  obtain ⟨q, hq, rfl⟩ := nI_of (Int32.not_lt.mpr z3.1)
  have hqp : q ≤ p := (nI_leI hq (by omega)).mp z3.2
  have k2 := k2 h p q rfl rfl rfl hh hp hqp z1.1
  have k3 := k3 h p q rfl rfl rfl hh hp hqp z1.1
  have k4 := k4 h p q rfl rfl rfl hh hp hqp z1.1
  refine sp_X8_isAbove M (by rw [r.2.1]; exact F) hh hp (by omega) ?_
  rw [r.2.1, ixh1, ixh, nI_clamp (show 6 + 2 * h < 2 ^ 31 by omega), nI_clamp (show 7 + 2 * h < 2 ^ 31 by omega)]
  refine ⟨fun u => ⟨M.1, vp_in_nI (by omega) (by decide), vp_in_nI (by omega) (by decide), ?_⟩, fun u => k2 u⟩
  have wr : ¬ (T (6 + 2 * h) = nI p ∧ T (7 + 2 * h) = nI q) → mSV mX8_keeps [.ref 717] KW y (fun y_12 => gr y_12 717 1 = some 718 ∧ (Q ((10 * T (6 + 2 * h)) + T (7 + 2 * h)) (ui (ui y_12 718 (6 + 2 * h) (nI p)) 718 (7 + 2 * h) (nI q)))) := fun g => r.keeps (fun z f1 r1 => ⟨r1.1.1, k4 u g _ f1.u8.u8 r1.u8.u8⟩)
  refine ⟨fun v => wr (fun g => v g.1), fun v => ⟨fun v2 => ?_, fun v2 => wr (fun g => v2 g.2)⟩⟩
  refine k3 u v v2 _ (RFr.rf y).u8.u8 ?_
  have := (r.u8 (k := 6 + 2 * h) (v := nI p)).u8 (k := 7 + 2 * h) (v := nI q)
  have e : uT (uT T (6 + 2 * h) (nI p)) (7 + 2 * h) (nI q) = T := by
    funext i
    unfold uT
    by_cases c1 : i = 7 + 2 * h
    · rw [if_pos c1, c1]; exact v2.symm
    · rw [if_neg c1]
      by_cases c2 : i = 6 + 2 * h
      · rw [if_pos c2, c2]; exact v.symm
      · rw [if_neg c2]
  rwa [e] at this
theorem AC.lim {x y : Cn} {W C S A N n h p q : Nat} {T : TT} {H : Nat → TT} (a : AC x y W C S A N n T H) (hh : h < 24) (hp : p ≤ 10) (hq : q ≤ 10) : AC x (ui (ui y 3 h (nI p)) 4 h (nI q)) W C S A N n (lmT T h (nI p) (nI q)) H := by
  have E := a.2.2.2.2
  obtain ⟨e1, e2, ⟨v0, v1, v2, v3, v4, v5, v6, v7⟩, w1, w2, w3, w4, w5, w6, w7, w8, w9, w10, w11, w12, w13, w14⟩ := E
  obtain ⟨r1, r2, r3, r4, r5, r6, r7, r8, r9⟩ := id e2
  have eo : ∀ b k, b ≠ 3 → b ≠ 4 → gi (ui (ui y 3 h (nI p)) 4 h (nI q)) b k = gi y b k := fun b k c1 c2 => by rw [gi_ui, if_neg (fun z => c2 z.1), gi_ui, if_neg (fun z => c1 z.1)]
  have eT : ∀ i, i ≠ 6 + 2 * h → i ≠ 7 + 2 * h → lmT T h (nI p) (nI q) i = T i := fun i c1 c2 => by unfold lmT; rw [uT_ne _ _ c2, uT_ne _ _ c1]
  have e6 : lmT T h (nI p) (nI q) (6 + 2 * h) = nI p := by unfold lmT; rw [uT_ne _ _ (by omega), uT_at]
  have e7 : lmT T h (nI p) (nI q) (7 + 2 * h) = nI q := by unfold lmT; rw [uT_at]
  refine a.up (fun b k c => eo b k (by omega) (by omega)) rfl ⟨e1, e2.keep rfl, ⟨?_, ?_, ?_, ?_, ?_, ?_, ?_, ?_⟩, ?_⟩
  · rw [eo 2 0 (by omega) (by omega), eT 0 (by omega) (by omega)]; exact v0
  · rw [eo 2 1 (by omega) (by omega), eT 4 (by omega) (by omega)]; exact v1
  · rw [eo 2 2 (by omega) (by omega), eT 5 (by omega) (by omega)]; exact v2
  · rw [eo 2 3 (by omega) (by omega), eT 2 (by omega) (by omega)]; exact v3
  · rw [eo 2 4 (by omega) (by omega), eT 3 (by omega) (by omega)]; exact v4
  · intro i hi
    by_cases c : i = h
    · subst c
      rw [e6, e7]
      exact ⟨by rw [gi_ui, if_neg (by omega), gi_ui, if_pos ⟨rfl, rfl⟩], by rw [gi_ui, if_pos ⟨rfl, rfl⟩]⟩
    · rw [eT _ (by omega) (by omega), eT _ (by omega) (by omega), gi_ui, if_neg (by omega), gi_ui, if_neg (by omega), gi_ui, if_neg (by omega), gi_ui, if_neg (by omega)]
      exact v5 i hi
  · intro s p' hs hp'
    obtain ⟨j, hj, ej⟩ := r6 s (by omega)
    have ep : p' = 2 + 6 + j := Option.some.inj (hp'.symm.trans ej)
    exact (v6 s p' hs hp').cg (fun k _ => eo p' k (by omega) (by omega)) (fun k hk => eT _ (by omega) (by omega))
  · intro s p' hs hp'
    obtain ⟨j, hj, ej⟩ := r8 s (by omega)
    have ep : p' = 2 + 30 + j := Option.some.inj (hp'.symm.trans ej)
    exact (v7 s p' hs hp').cg (fun k _ => eo p' k (by omega) (by omega)) (fun k hk => eT _ (by omega) (by omega))
  · refine ⟨by rw [eT 0 (by omega) (by omega)]; exact w1, w2, w3, by rw [eT 1 (by omega) (by omega)]; exact w4, w5, by rw [eT 2 (by omega) (by omega)]; exact w6, w7, by rw [eT 3 (by omega) (by omega)]; exact w8, w9, by rw [eT 4 (by omega) (by omega)]; exact w10, w11, fun i hi => ?_, fun s hs => (w13 s hs).cg (fun k hk => eT _ (by omega) (by omega)), fun a ha => (w14 a ha).cg (fun k hk => eT _ (by omega) (by omega))⟩
    by_cases c : i = h
    · subst c
      rw [e6, e7]
      exact ⟨p, q, hp, hq, rfl, rfl⟩
    · rw [eT _ (by omega) (by omega), eT _ (by omega) (by omega)]
      exact w12 i hi
end
theorem eq_limit (a b c : Int32) : Both mX7_limit mX8_limit [.int a, .int b, .int c] := by
  intro x R
  obtain ⟨W, C, S, A, N, n, H, ac, rs, nm⟩ := R.ac
  have E := ac.2.2.2.2
  have hn := E.nums
  have hW : W ≤ 30 := hn.2.2.2.2.1
  have hC : C ≤ 8 := hn.2.2.2.2.2.1
  have no : ¬ ((0 < nI W ∧ 0 ≤ a ∧ a < 24) ∧ (0 ≤ b ∧ b ≤ 9) ∧ (0 ≤ c ∧ c ≤ b)) → mSI mX8_limit [.ref 717, .int a, .int b, .int c] KW x (fun r' z => -2 = r' ∧ Rel z) := by
    intro g
    have ab : ∀ h p q, a = nI h → b = nI p → c = nI q → h < 24 → p ≤ 9 → q ≤ p → 0 < nI W → False := fun h p q e1 e2 e3 h1 h2 h3 h4 => g (by
      rw [e1, e2, e3]
      exact ⟨⟨h4, nI_pos' (by omega), nI_lt (b := 24) h1 (by decide)⟩, ⟨nI_pos' (by omega), nI_le (b := 9) h2 (by decide)⟩, nI_pos' (by omega), nI_le h3 (by omega)⟩)
    exact sq_X8_limit rs E.2.2.2 (fun _ => ⟨rfl, R⟩) (fun h p q e1 e2 e3 h1 h2 h3 h4 => (ab h p q e1 e2 e3 h1 h2 h3 h4).elim) (fun h p q e1 e2 e3 h1 h2 h3 h4 => (ab h p q e1 e2 e3 h1 h2 h3 h4).elim) (fun h p q e1 e2 e3 h1 h2 h3 h4 => (ab h p q e1 e2 e3 h1 h2 h3 h4).elim)
  refine v_X7_limit_0 k0 R.1.2.1 (ks0 E.1) ?_
  rw [hn.1]
  refine ⟨fun z => no (fun u => z u.1), fun z1 => ⟨fun z => no (fun u => z u.2.1), fun z2 => ⟨fun z3 => ?_, fun z => no (fun u => z u.2.2)⟩⟩⟩
  obtain ⟨h, hh, rfl⟩ := inN (n := 24) (by decide) z1.2
  obtain ⟨p, hp, rfl⟩ := nI_of2 (M := 9) (n := 9) (by decide) (Int32.not_lt.mpr z2.1) z2.2
  obtain ⟨q, hq, rfl⟩ := nI_of (Int32.not_lt.mpr z3.1)
  have hqp : q ≤ p := (nI_leI hq (by omega)).mp z3.2
  have inj : ∀ h' p' q', nI h = nI h' → nI p = nI p' → nI q = nI q' → h' < 24 → p' ≤ 9 → q' ≤ p' → h' = h ∧ p' = p ∧ q' = q := fun h' p' q' e1 e2 e3 g1 g2 g3 => ⟨((nI_eq (by omega) (by omega)).mp e1).symm, ((nI_eq (by omega) (by omega)).mp e2).symm, ((nI_eq (by omega) (by omega)).mp e3).symm⟩
  refine sp_X4_holdsMore E hh hp (by omega) (fun y hy => ?_)
  have ay := ac.e7 hy
  have Ey := ay.2.2.2.2
  rw [nI_clamp (show h < 2 ^ 31 by omega)]
  have l5 := Ey.2.2.1.2.2.2.2.2.1 h hh
  refine ⟨fun u => ⟨ay.2.1.2.1, 3, Ey.2.1.1, 24, ks1 E.1, vp_in_nI hh (by decide), 4, Ey.2.1.2.1, 24, ks2 E.1, vp_in_nI hh (by decide), ?_⟩, fun u => ?_⟩
  · rw [show gi y 3 h = gi x 718 (6 + 2 * h) from l5.1, show gi y 4 h = gi x 718 (7 + 2 * h) from l5.2]
    have go : ¬ (gi x 718 (6 + 2 * h) = nI p ∧ gi x 718 (7 + 2 * h) = nI q) → mSV mX7_remember [.ref 0] KW y (fun y_19 => gr y_19 0 2 = some 2 ∧ (∃ c_21, gr y_19 2 5 = some c_21 ∧ (∃ n_24, kk KW c_21 = some (20, n_24) ∧ (vp_in (nI h) n_24 ∧ (∃ c_26, gr y_19 2 6 = some c_26 ∧ (∃ n_29, kk KW c_26 = some (20, n_29) ∧ (vp_in (nI h) n_29 ∧ (mSI mX8_limit [.ref 717, .int (nI h), .int (nI p), .int (nI q)] KW (ui (ui y_19 c_21 h (nI p)) c_26 h (nI q)) (fun r' z => ((10 * gi x 718 (6 + 2 * h)) + gi x 718 (7 + 2 * h)) = r' ∧ Rel z))))))))) := by
      intro g
      refine ay.rem (fun _ _ => rfl) (fun z az z1' z2' => ⟨az.2.1.2.1, 3, az.2.2.2.2.2.1.1, 24, ks1 E.1, vp_in_nI hh (by decide), 4, az.2.2.2.2.2.1.2.1, 24, ks2 E.1, vp_in_nI hh (by decide), ?_⟩)
      have a2 := az.lim hh (show p ≤ 10 by omega) (show q ≤ 10 by omega)
      refine sq_X8_limit (a2.rs rs) E.2.2.2 (fun v => absurd ⟨z1, z2, z3⟩ v) (fun h' p' q' e1 e2 e3 g1 g2 g3 _ v => ?_) (fun h' p' q' e1 e2 e3 g1 g2 g3 _ _ v1 v2 => ?_) (fun h' p' q' e1 e2 e3 g1 g2 g3 _ _ _ v f r2 => ?_) <;> obtain ⟨rfl, rfl, rfl⟩ := inj h' p' q' e1 e2 e3 g1 g2 g3
      · exact absurd u v
      · exact absurd ⟨v1, v2⟩ g
      · refine ⟨rfl, a2.fin R nm (fun c hc => ?_) f r2⟩
        unfold lmT
        rw [uT_ne _ _ (by omega), uT_ne _ _ (by omega)]
    refine ⟨fun v => go (fun g => v g.1), fun v => ⟨fun v2 => ?_, fun v2 => go (fun g => v2 g.2)⟩⟩
    refine sq_X8_limit (ay.rs rs) E.2.2.2 (fun v => absurd ⟨z1, z2, z3⟩ v) (fun h' p' q' e1 e2 e3 g1 g2 g3 _ w => ?_) (fun h' p' q' e1 e2 e3 g1 g2 g3 _ _ _ _ z f r2 => ?_) (fun h' p' q' e1 e2 e3 g1 g2 g3 _ _ w => ?_) <;> obtain ⟨rfl, rfl, rfl⟩ := inj h' p' q' e1 e2 e3 g1 g2 g3
    · exact absurd u w
    · exact ⟨rfl, ay.fin R nm (fun _ _ => rfl) f r2⟩
    · exact absurd ⟨v, v2⟩ w
  · refine sq_X8_limit (ay.rs rs) E.2.2.2 (fun v => absurd ⟨z1, z2, z3⟩ v) (fun h' p' q' e1 e2 e3 g1 g2 g3 _ w => ⟨rfl, (R.e7 hy).1⟩) (fun h' p' q' e1 e2 e3 g1 g2 g3 _ w => ?_) (fun h' p' q' e1 e2 e3 g1 g2 g3 _ w => ?_) <;> obtain ⟨rfl, rfl, rfl⟩ := inj h' p' q' e1 e2 e3 g1 g2 g3
    · exact absurd w u
    · exact absurd w u
end
/-! 50.ask.lean.txt -/
section
def askT (T : TT) (A : Nat) (f : Nat → Int32) : TT := fun i => if i = 3 then nI (A + 1) else if 350 + 7 * A ≤ i ∧ i < 357 + 7 * A then f (i - (350 + 7 * A)) else T i
theorem askT_off {T : TT} {A : Nat} {f : Nat → Int32} {i : Nat} (h3 : i ≠ 3) (h : ¬ (350 + 7 * A ≤ i ∧ i < 357 + 7 * A)) : askT T A f i = T i := by
  unfold askT
  rw [if_neg h3, if_neg h]
theorem ao_askT {T : TT} {A : Nat} {f : Nat → Int32} {k : Nat} (h : k < 7) : ao (askT T A f) A k = f k := by
  unfold ao askT
  rw [if_neg (by omega), if_pos (by omega)]
  congr 1
  omega
/-- one ask more -/
theorem SEA.addA {x z : Cn} {q p : Nat} {T T' : TT} {W C S A N : Nat} (E : SEA x q T W C S A N) (hA : A < 24) (hp : gr x (q + 4) A = some p) (h1 : z.2 = x.2) (h2 : ∀ b k, q ≤ b → b < q + 54 → b ≠ p → ¬ (b = q ∧ k = 4) → b ≠ q + 5 → gi z b k = gi x b k) (h3 : gi z q 4 = nI (A + 1)) (h4 : ASR z p T' A) (hT : ∀ i, i < 518 → i ≠ 3 → ¬ (350 + 7 * A ≤ i ∧ i < 357 + 7 * A) → T' i = T i) (hT3 : T' 3 = nI (A + 1)) (hw : Was T' C W A) : SEA z q T' W C S (A + 1) N := by
  obtain ⟨e1, e2, ⟨v0, v1, v2, v3, v4, v5, v6, v7⟩, w1, w2, w3, w4, w5, w6, w7, w8, w9, w10, w11, w12, w13, w14⟩ := E
  obtain ⟨r1, r2, r3, r4, r5, r6, r7, r8, r9⟩ := id e2
  have hg : ∀ b k, gr z b k = gr x b k := fun b k => by unfold gr; rw [h1]
  obtain ⟨j, hj, ej⟩ := r8 A hA
  have ep : p = q + 30 + j := Option.some.inj (hp.symm.trans ej)
  refine ⟨e1, e2.keep h1, ⟨?_, ?_, ?_, ?_, ?_, ?_, ?_, ?_⟩, ?_⟩
  · rw [h2 q 0 (by omega) (by omega) (by omega) (by omega) (by omega), hT 0 (by decide) (by decide) (by omega)]; exact v0
  · rw [h2 q 1 (by omega) (by omega) (by omega) (by omega) (by omega), hT 4 (by decide) (by decide) (by omega)]; exact v1
  · rw [h2 q 2 (by omega) (by omega) (by omega) (by omega) (by omega), hT 5 (by decide) (by decide) (by omega)]; exact v2
  · rw [h2 q 3 (by omega) (by omega) (by omega) (by omega) (by omega), hT 2 (by decide) (by decide) (by omega)]; exact v3
  · rw [h3, hT3]
  · intro h hh
    rw [h2 (q + 1) h (by omega) (by omega) (by omega) (by omega) (by omega), h2 (q + 2) h (by omega) (by omega) (by omega) (by omega) (by omega), hT _ (by omega) (by omega) (by omega), hT _ (by omega) (by omega) (by omega)]
    exact v5 h hh
  · intro s p' hs hp'
    rw [hg] at hp'
    obtain ⟨j', hj', ej'⟩ := r6 s (by omega)
    have ep' : p' = q + 6 + j' := Option.some.inj (hp'.symm.trans ej')
    exact (v6 s p' hs hp').cg (fun k _ => h2 p' k (by omega) (by omega) (by omega) (by omega) (by omega)) (fun k hk => hT _ (by omega) (by omega) (by omega))
  · intro a p' ha hp'
    rw [hg] at hp'
    by_cases c : a = A
    · rw [c] at hp' ⊢
      have : p' = p := Option.some.inj (hp'.symm.trans hp)
      rw [this]; exact h4
    · have hne : p' ≠ p := fun e => c (r9 a A (by omega) hA (by rw [hp', hp, e]))
      obtain ⟨j', hj', ej'⟩ := r8 a (by omega)
      have ep' : p' = q + 30 + j' := Option.some.inj (hp'.symm.trans ej')
      exact (v7 a p' (by omega) hp').cg (fun k _ => h2 p' k (by omega) (by omega) hne (by omega) (by omega)) (fun k hk => hT _ (by omega) (by omega) (by omega))
  · refine ⟨by rw [hT 0 (by decide) (by decide) (by omega)]; exact w1, w2, w3, by rw [hT 1 (by decide) (by decide) (by omega)]; exact w4, w5, by rw [hT 2 (by decide) (by decide) (by omega)]; exact w6, w7, hT3, by omega, by rw [hT 4 (by decide) (by decide) (by omega)]; exact w10, w11, fun h hh => by rw [hT _ (by omega) (by omega) (by omega), hT _ (by omega) (by omega) (by omega)]; exact w12 h hh, fun s hs => (w13 s hs).cg (fun k hk => hT _ (by omega) (by omega) (by omega)), fun a ha => ?_⟩
    by_cases c : a = A
    · rw [c]; exact hw
    · exact (w14 a (by omega)).cg (fun k hk => hT _ (by omega) (by omega) (by omega))
set_option maxHeartbeats 2000000 in
theorem v_X8_addsAsk_0 {K : Sh} {x : Cn} {Q : Cn → Prop} {b0 : Nat}   (K0 : GV mX8_addsAsk 2 [some (.ref b0), some (.int 0)] [] K x Q) : mSV mX8_addsAsk [.ref b0] K x Q := by
  refine s_V (by decide) (by simp [Value.category]) (Nat.le_of_ble_eq_true rfl) ?_
  show mGM mX8_addsAsk 0 [some (.ref b0), none] [] (hp K x) (PV K Q)
  refine r_iconst (pc := 0) (v := 0) dX8_addsAsk_0 (by decide) ?_
  refine r_istore_n (pc := 1) dX8_addsAsk_1 (by decide) ?_
  exact r_le (L' := [some (.ref b0), some (.int 0)]) ⟨rfl, ⟨rfl, trivial⟩⟩ K0
set_option maxHeartbeats 2000000 in
theorem v_X8_addsAsk_2 {K : Sh} {x : Cn} {Q : Cn → Prop} {b0 : Nat} {l1 : Int32} {b0_3 : Nat} {n_b0_3 : Nat} {b0_15 : Nat} {n_b0_15 : Nat} (k_b0 : kk K b0 = some (8, 0)) (g_b0_3 : gr x b0 3 = some b0_3) (k_b0_3 : kk K b0_3 = some (20, n_b0_3)) (g_b0_15 : gr x b0 15 = some b0_15) (k_b0_15 : kk K b0_15 = some (20, n_b0_15)) (K0 : (7 ≤ l1 → (vp_in 3 n_b0_3 ∧ (Q (ui x b0_3 3 ((gi x b0_3 3) + 1))))) ∧ (¬ 7 ≤ l1 → (vp_in 3 n_b0_3 ∧ (vp_in l1 n_b0_15 ∧ (vp_in ((350 + (7 * (gi x b0_3 3))) + l1) n_b0_3 ∧ (GV mX8_addsAsk 2 [some (.ref b0), some (.int (l1 + 1))] [] K (ui x b0_3 (((350 + (7 * (gi x b0_3 3))) + l1) : Int32).toNatClampNeg (gi x b0_15 (l1 : Int32).toNatClampNeg)) Q)))))) : GV mX8_addsAsk 2 [some (.ref b0), some (.int l1)] [] K x Q := by
  show mGM mX8_addsAsk 2 [some (.ref b0), some (.int l1)] [] (hp K x) (PV K Q)
  refine r_iload_n (pc := 2) dX8_addsAsk_2 rfl ?_
  refine r_bipush (pc := 3) (v := 7) dX8_addsAsk_3 (by decide) ?_
  refine r_icmp_ge (pc := 5) (tgt := 40) dX8_addsAsk_5 (by decide) (fun q => ?_) (fun q => ?_)
  · have K0 := K0.1 q
    refine r_aload_n (pc := 40) dX8_addsAsk_40 rfl ?_
    refine s_getR (pc := 41) dX8_addsAsk_41 fl_X8_16 rfl k_b0 g_b0_3 ?_
    refine r_iconst (pc := 44) (v := 3) dX8_addsAsk_44 (by decide) ?_
    refine r_dup2 (pc := 45) dX8_addsAsk_45 rfl rfl ?_
    obtain ⟨i_2, K0⟩ := K0
    refine s_iald (pc := 46) dX8_addsAsk_46 k_b0_3 i_2 ?_
    refine r_iconst (pc := 47) (v := 1) dX8_addsAsk_47 (by decide) ?_
    refine r_iadd (pc := 48) dX8_addsAsk_48 ?_
    refine s_iast (pc := 49) dX8_addsAsk_49 k_b0_3 i_2 ?_
    exact s_ret rfl dX8_addsAsk_50 K0
  · have K0 := K0.2 q
    refine r_aload_n (pc := 8) dX8_addsAsk_8 rfl ?_
    refine s_getR (pc := 9) dX8_addsAsk_9 fl_X8_16 rfl k_b0 g_b0_3 ?_
    refine r_sipush (pc := 12) (v := 350) dX8_addsAsk_12 (by decide) ?_
    refine r_bipush (pc := 15) (v := 7) dX8_addsAsk_15 (by decide) ?_
    refine r_aload_n (pc := 17) dX8_addsAsk_17 rfl ?_
    refine s_getR (pc := 18) dX8_addsAsk_18 fl_X8_16 rfl k_b0 g_b0_3 ?_
    refine r_iconst (pc := 21) (v := 3) dX8_addsAsk_21 (by decide) ?_
    obtain ⟨i_3, K0⟩ := K0
    refine s_iald (pc := 22) dX8_addsAsk_22 k_b0_3 i_3 ?_
    refine r_imul (pc := 23) dX8_addsAsk_23 ?_
    refine r_iadd (pc := 24) dX8_addsAsk_24 ?_
    refine r_iload_n (pc := 25) dX8_addsAsk_25 rfl ?_
    refine r_iadd (pc := 26) dX8_addsAsk_26 ?_
    refine r_aload_n (pc := 27) dX8_addsAsk_27 rfl ?_
    refine s_getR (pc := 28) dX8_addsAsk_28 fl_X8_27 rfl k_b0 g_b0_15 ?_
    refine r_iload_n (pc := 31) dX8_addsAsk_31 rfl ?_
    obtain ⟨i_4, K0⟩ := K0
    refine s_iald (pc := 32) dX8_addsAsk_32 k_b0_15 i_4 ?_
    obtain ⟨i_5, K0⟩ := K0
    refine s_iast (pc := 33) dX8_addsAsk_33 k_b0_3 i_5 ?_
    refine r_iinc (pc := 34) (v := l1 + 1) dX8_addsAsk_34 rfl rfl (by decide) ?_
    refine r_goto (pc := 37) (L := [some (.ref b0), some (.int (l1 + 1))]) (tgt := 2) dX8_addsAsk_37 (by decide) ?_
    exact r_le (L' := [some (.ref b0), some (.int (l1 + 1))]) ⟨rfl, ⟨rfl, trivial⟩⟩ K0
section
theorem sp_X8_addsAsk {x : Cn} {Q : Cn → Prop} {t A : Nat} {f : Nat → Int32} (M : MRf x t) (ht : kk KW t = some (20, 518)) (ht2 : t ≠ 721) (h3 : gi x t 3 = nI A) (hA : A < 24) (hf : ∀ k, k < 7 → gi x 721 k = f k) (q : ∀ y, y.2 = x.2 → (∀ a k, a ≠ t → gi y a k = gi x a k) → gi y t = askT (gi x t) A f → Q y) : mSV mX8_addsAsk [.ref 717] KW x Q := by
  have key : ∀ c k y, k + c = 7 → y.2 = x.2 → (∀ a k, a ≠ t → gi y a k = gi x a k) → (∀ i, gi y t i = if 350 + 7 * A ≤ i ∧ i < 350 + 7 * A + k then f (i - (350 + 7 * A)) else gi x t i) → GV mX8_addsAsk 2 [some (.ref 717), some (.int (nI k))] [] KW y Q := by
    intro c
    induction c with
    | zero =>
      intro k y hk y1 y2 y3
      have : k = 7 := by omega
      subst this
      have M2 := M.keep y1
      refine v_X8_addsAsk_2 km M2.2.2.1 ht M2.2.2.2.2.1 (show kk KW 721 = some (20, 7) by decide) ⟨fun _ => ⟨v0 (k := 3) (by decide) rfl rfl, ?_⟩, fun z => absurd (Int32.le_refl _) z⟩
      have e3 : gi y t 3 = nI A := by rw [y3, if_neg (by omega)]; exact h3
      rw [e3, nI_1]
      refine q _ y1 (fun a k ha => by rw [gi_ui, if_neg (fun z => ha z.1)]; exact y2 a k ha) ?_
      funext i
      rw [gi_ui]
      unfold askT
      by_cases c3 : i = 3
      · rw [if_pos ⟨rfl, c3⟩, if_pos c3]
      · rw [if_neg (fun z => c3 z.2), if_neg c3, y3]
        by_cases c4 : 350 + 7 * A ≤ i ∧ i < 357 + 7 * A
        · rw [if_pos (by omega), if_pos c4]
        · rw [if_neg (by omega), if_neg c4]
    | succ c ih =>
      intro k y hk y1 y2 y3
      have M2 := M.keep y1
      have e3 : gi y t 3 = nI A := by rw [y3, if_neg (by omega)]; exact h3
      refine v_X8_addsAsk_2 km M2.2.2.1 ht M2.2.2.2.2.1 (show kk KW 721 = some (20, 7) by decide) ⟨fun z => absurd z (nI_ge (b := 7) (by omega) (by decide)), fun _ => ⟨v0 (k := 3) (by decide) rfl rfl, vp_in_nI (by omega) (by decide), ?_⟩⟩
      rw [e3, nI_1, nI_clamp (show k < 2 ^ 31 by omega)]
      refine ⟨iv2 hA k rfl (by omega), ?_⟩
      rw [ic2 hA k rfl (by omega)]
      refine ih (k + 1) _ (by omega) y1 (fun a k ha => by rw [gi_ui, if_neg (fun z => ha z.1)]; exact y2 a k ha) (fun i => ?_)
      rw [gi_ui]
      by_cases c3 : i = 350 + 7 * A + k
      · rw [if_pos ⟨rfl, c3⟩, if_pos (by omega), y2 721 k (Ne.symm ht2), hf k (by omega)]
        congr 1
        omega
      · rw [if_neg (fun z => c3 z.2), y3]
        by_cases c4 : 350 + 7 * A ≤ i ∧ i < 350 + 7 * A + k
        · rw [if_pos c4, if_pos (by omega)]
        · rw [if_neg c4, if_neg (by omega)]
  exact v_X8_addsAsk_0 (key 7 0 x (by omega) rfl (fun _ _ _ => rfl) (fun i => by rw [if_neg (by omega)]))
theorem RS.mv {x z : Cn} {T T' : TT} {n : Nat} {H : Nat → TT} (r : RS x T n H) (h1 : z.2 = x.2) (h2 : ∀ a k, a ≠ 718 → a ≠ 719 → a ≠ 721 → a ≠ 722 → a ≠ 723 → ¬ (a = 717 ∧ k = 18) → gi z a k = gi x a k) (h3 : gi z 718 = T') : RS z T' n H ∧ RFr x z :=
  ⟨⟨r.1.keep h1, h3, by rw [h2 717 19 (by decide) (by decide) (by decide) (by decide) (by decide) (by omega)]; exact r.2.2.1, r.2.2.2.1, fun j hj i hi => by rw [h2 724 _ (by decide) (by decide) (by decide) (by decide) (by decide) (by omega)]; exact r.2.2.2.2 j hj i hi⟩, h1, fun a k a1 a2 a3 a4 a5 a6 a7 => h2 a k a1 a2 a3 a4 a5 (fun u => a7 (by omega))⟩
/-- what an ask may say -/
def okA (C W : Nat) (a b f l e : Int32) : Prop := ∃ c k f' l' e', a = nI c ∧ c < C ∧ b = nI k ∧ k ≤ 6999 ∧ k % 10 ≤ 1 ∧ k / 10 % 100 ≤ 23 ∧ f = nI f' ∧ f' < W ∧ l = nI l' ∧ l' < W ∧ f' + 4 ≤ l' ∧ e = nI e' ∧ e' ≤ 9
theorem ky_1 {k : Nat} (h : k < 2 ^ 31) : nI k / 1000 = nI (k / 1000) := pk_div (d := 1000) h (by decide) (by decide)
theorem ky_2 {k : Nat} (h : k < 2 ^ 31) : (nI k - nI k / 1000 * 1000) / 10 = nI (k / 10 % 100) := by
  have e : nI k - nI k / 1000 * 1000 = nI (k % 1000) := pk_rem (d := 1000) h (by decide) (by decide)
  rw [e]
  have := pk_div (a := k % 1000) (d := 10) (by omega) (by decide) (by decide)
  rw [show (nI (k % 1000) / 10 : Int32) = nI (k % 1000 / 10) from this]
  congr 1
  omega
theorem ky_3 {k : Nat} (h : k < 2 ^ 31) : nI k - nI k / 10 * 10 = nI (k % 10) := pk_rem (d := 10) h (by decide) (by decide)
theorem ky_4 {k : Nat} (h : k < 2 ^ 31) : (nI k / 10) - (nI k / 10) / 100 * 100 = nI (k / 10 % 100) := by
  have e : nI k / 10 = nI (k / 10) := pk_div (d := 10) h (by decide) (by decide)
  rw [e]
  exact pk_rem (d := 100) (by omega) (by decide) (by decide)
def askF (a b f l e : Int32) : Nat → Int32 := fun j => if j = 0 then a else if j = 1 then b / 1000 else if j = 2 then (b / 10) - (b / 10) / 100 * 100 else if j = 3 then b - b / 10 * 10 else if j = 4 then f else if j = 5 then l else e
theorem okA.was {C W A : Nat} {a b f l e : Int32} {T : TT} (h : okA C W a b f l e) : Was (askT T A (askF a b f l e)) C W A := by
  obtain ⟨c, k, f', l', e', h1, h2, h3, h4, h5, h6, h7, h8, h9, h10, h11, h12, h13⟩ := h
  subst h1 h3 h7 h9 h12
  refine ⟨⟨c, h2, by rw [ao_askT (by decide)]; rfl⟩, ⟨k / 1000, by omega, by rw [ao_askT (by decide)]; exact ky_1 (by omega)⟩, ⟨k / 10 % 100, by omega, by rw [ao_askT (by decide)]; exact ky_4 (by omega)⟩, ?_, ⟨f', l', h11, h10, by rw [ao_askT (by decide)]; rfl, by rw [ao_askT (by decide)]; rfl⟩, ⟨e', h13, by rw [ao_askT (by decide)]; rfl⟩⟩
  rw [ao_askT (by decide), show askF (nI c) (nI k) (nI f') (nI l') (nI e') 3 = nI (k % 10) from ky_3 (by omega)]
  have : k % 10 = 0 ∨ k % 10 = 1 := by omega
  rcases this with g | g
  · rw [g]; exact Or.inl rfl
  · rw [g]; exact Or.inr rfl
end
set_option maxHeartbeats 2000000 in
theorem v_X4_addAsk_0 {K : Sh} {x : Cn} {Q : Nat → Cn → Prop} {b0 : Nat} {b0_8 : Nat} {n_b0_8 : Nat} (k_b0 : kk K b0 = some (4, 0)) (g_b0_8 : gr x b0 8 = some b0_8) (k_b0_8 : kk K b0_8 = some (24, n_b0_8)) (K0 : vp_in (if 23 < (gi x b0 4) then 23 else (gi x b0 4)) n_b0_8 ∧ (∃ c_2 : Nat, gr x b0_8 (((if 23 < (gi x b0 4) then 23 else (gi x b0 4)) : Int32).toNatClampNeg) = some c_2 ∧ (Q c_2 (ui x b0 4 ((if 23 < (gi x b0 4) then 23 else (gi x b0 4)) + 1))))) : mSR mX4_addAsk [.ref b0] K x Q := by
  refine s_R (by decide) (by simp [Value.category]) (Nat.le_of_ble_eq_true rfl) ?_
  show mGM mX4_addAsk 0 [some (.ref b0), none] [] (hp K x) (PR K Q)
  refine r_aload_n (pc := 0) dX4_addAsk_0 rfl ?_
  refine s_getI (pc := 1) dX4_addAsk_1 fl_X4_24 rfl k_b0 ?_
  refine r_bipush (pc := 4) (v := 23) dX4_addAsk_4 (by decide) ?_
  refine r_mmin (pc := 6) dX4_addAsk_6 lk_X4_58 mw_min ⟨by decide, by decide⟩ (Nat.le_of_ble_eq_true rfl) ?_
  refine r_istore_n (pc := 9) dX4_addAsk_9 (by decide) ?_
  refine r_aload_n (pc := 10) (L := [some (.ref b0), some (.int (if 23 < (gi x b0 4) then 23 else (gi x b0 4)))]) dX4_addAsk_10 rfl ?_
  refine r_iload_n (pc := 11) dX4_addAsk_11 rfl ?_
  refine r_iconst (pc := 12) (v := 1) dX4_addAsk_12 (by decide) ?_
  refine r_iadd (pc := 13) dX4_addAsk_13 ?_
  refine s_putI (pc := 14) dX4_addAsk_14 fl_X4_24 rfl rfl k_b0 ?_
  refine r_aload_n (pc := 17) dX4_addAsk_17 rfl ?_
  refine s_getR (pc := 18) dX4_addAsk_18 fl_X4_42 rfl k_b0 g_b0_8 ?_
  refine r_iload_n (pc := 21) dX4_addAsk_21 rfl ?_
  obtain ⟨i_1, K0⟩ := K0
  obtain ⟨c_2, g_3, K0⟩ := K0
  refine s_aald (pc := 22) dX4_addAsk_22 (by decide) rfl k_b0_8 i_1 g_3 ?_
  exact s_aret rfl dX4_addAsk_23 K0
set_option maxHeartbeats 2000000 in
theorem v_X7_ask_0 {K : Sh} {x : Cn} {Q : Int32 → Cn → Prop} {b0 : Nat} {l1 : Int32} {l2 : Int32} {l3 : Int32} {l4 : Int32} {l5 : Int32} {b0_3 : Nat} {b0_2 : Nat} (k_b0 : kk K b0 = some (7, 0)) (g_b0_3 : gr x b0 3 = some b0_3) (k_b0_3 : kk K b0_3 = some (1, 0)) (g_b0_2 : gr x b0 2 = some b0_2) (k_b0_2 : kk K b0_2 = some (4, 0)) (K0 : (¬ (0 ≤ l1 ∧ l1 < gi x b0_3 0) → (Q (-2) x)) ∧ ((0 ≤ l1 ∧ l1 < gi x b0_3 0) → ((l2 < 0 → (Q (-2) x)) ∧ (¬ l2 < 0 → ((¬ (0 < gi x b0_2 0 ∧ 0 ≤ (l2 / 1000) ∧ (l2 / 1000) < 7) → (Q (-2) x)) ∧ ((0 < gi x b0_2 0 ∧ 0 ≤ (l2 / 1000) ∧ (l2 / 1000) < 7) → ((¬ (0 < gi x b0_2 0 ∧ 0 ≤ ((l2 - l2 / 1000 * 1000) / 10) ∧ ((l2 - l2 / 1000 * 1000) / 10) < 24) → (Q (-2) x)) ∧ ((0 < gi x b0_2 0 ∧ 0 ≤ ((l2 - l2 / 1000 * 1000) / 10) ∧ ((l2 - l2 / 1000 * 1000) / 10) < 24) → ((((l2 - l2 / 10 * 10) = 0 ∨ (l2 - l2 / 10 * 10) = 1) → ((¬ (0 ≤ l3 ∧ l3 < gi x b0_2 0) → (Q (-2) x)) ∧ ((0 ≤ l3 ∧ l3 < gi x b0_2 0) → ((¬ (0 ≤ l4 ∧ l4 < gi x b0_2 0) → (Q (-2) x)) ∧ ((0 ≤ l4 ∧ l4 < gi x b0_2 0) → ((((l4 - l3) + 1) < 5 → (Q (-2) x)) ∧ (¬ ((l4 - l3) + 1) < 5 → (((0 ≤ l5 ∧ l5 ≤ 9) → (((gi x b0_2 4) < 24 → (mSV mX7_remember [.ref b0] K x (fun y_11 => gr y_11 b0 2 = some b0_2 ∧ (mSR mX4_addAsk [.ref b0_2] K y_11 (fun r_14 y_13 => kk K r_14 = some (0, 0) ∧ (mSV mX0_placeAt [.ref r_14, .int l1, .int (l2 / 1000), .int ((l2 - l2 / 1000 * 1000) / 10), .int (l2 - l2 / 10 * 10)] K y_13 (fun y_16 => mSV mX0_span [.ref r_14, .int l3, .int l4, .int l5] K y_16 (fun y_17 => gr y_17 b0 2 = some b0_2 ∧ (Q (gi y_17 b0_2 4) y_17))))))))) ∧ (¬ (gi x b0_2 4) < 24 → (Q (-5) x)))) ∧ (¬ (0 ≤ l5 ∧ l5 ≤ 9) → (Q (-2) x)))))))))) ∧ (¬ ((l2 - l2 / 10 * 10) = 0 ∨ (l2 - l2 / 10 * 10) = 1) → (Q (-2) x))))))))))) : mSI mX7_ask [.ref b0, .int l1, .int l2, .int l3, .int l4, .int l5] K x Q := by
  refine s_I (by decide) (by simp [Value.category]) (Nat.le_of_ble_eq_true rfl) ?_
  show mGM mX7_ask 0 [some (.ref b0), some (.int l1), some (.int l2), some (.int l3), some (.int l4), some (.int l5), none, none, none, none] [] (hp K x) (PI K Q)
  refine r_iload_n (pc := 0) dX7_ask_0 rfl ?_
  refine r_sipush (pc := 1) (v := 1000) dX7_ask_1 (by decide) ?_
  refine r_idiv (pc := 4) dX7_ask_4 (by decide) ?_
  refine r_istore (pc := 5) dX7_ask_5 (by decide) ?_
  refine r_iload_n (pc := 7) (L := [some (.ref b0), some (.int l1), some (.int l2), some (.int l3), some (.int l4), some (.int l5), some (.int (l2 / 1000)), none, none, none]) dX7_ask_7 rfl ?_
  refine r_sipush (pc := 8) (v := 1000) dX7_ask_8 (by decide) ?_
  refine r_irem (pc := 11) dX7_ask_11 (by decide) ?_
  refine r_bipush (pc := 12) (v := 10) dX7_ask_12 (by decide) ?_
  refine r_idiv (pc := 14) dX7_ask_14 (by decide) ?_
  refine r_istore (pc := 15) dX7_ask_15 (by decide) ?_
  refine r_iload_n (pc := 17) (L := [some (.ref b0), some (.int l1), some (.int l2), some (.int l3), some (.int l4), some (.int l5), some (.int (l2 / 1000)), some (.int ((l2 - l2 / 1000 * 1000) / 10)), none, none]) dX7_ask_17 rfl ?_
  refine r_bipush (pc := 18) (v := 10) dX7_ask_18 (by decide) ?_
  refine r_irem (pc := 20) dX7_ask_20 (by decide) ?_
  refine r_istore (pc := 21) dX7_ask_21 (by decide) ?_
  refine r_aload_n (pc := 23) (L := [some (.ref b0), some (.int l1), some (.int l2), some (.int l3), some (.int l4), some (.int l5), some (.int (l2 / 1000)), some (.int ((l2 - l2 / 1000 * 1000) / 10)), some (.int (l2 - l2 / 10 * 10)), none]) dX7_ask_23 rfl ?_
  refine r_iload_n (pc := 24) dX7_ask_24 rfl ?_
  refine s_VI (pc := 25) mX7_isCarrier (ci := 7) (a := b0) (As := [.int l1]) dX7_ask_25 lk_X7_109 in_X7_isCarrier mo_X7_isCarrier ⟨by decide, rfl⟩ ⟨by decide, by decide⟩ (Nat.le_of_ble_eq_true rfl) k_b0 (sp_X7_isCarrier k_b0 g_b0_3 k_b0_3 ?_)
  refine r_if_eq (pc := 28) (tgt := 61) dX7_ask_28 (by decide) (fun q => ?_) (fun q => ?_)
  · have q := (b2i_z _).mp q
    have K0 := K0.1 q
    refine r_bipush (pc := 61) (v := (-2)) dX7_ask_61 (by decide) ?_
    exact s_iret rfl dX7_ask_63 K0
  · have q := b2i_nz q
    have K0 := K0.2 q
    refine r_iload_n (pc := 31) dX7_ask_31 rfl ?_
    refine r_if_lt (pc := 32) (tgt := 61) dX7_ask_32 (by decide) (fun q => ?_) (fun q => ?_)
    · have K0 := K0.1 q
      refine r_bipush (pc := 61) (v := (-2)) dX7_ask_61 (by decide) ?_
      exact s_iret rfl dX7_ask_63 K0
    · have K0 := K0.2 q
      refine r_aload_n (pc := 35) dX7_ask_35 rfl ?_
      refine r_iload (pc := 36) dX7_ask_36 rfl ?_
      refine s_VI (pc := 38) mX7_isDay (ci := 7) (a := b0) (As := [.int (l2 / 1000)]) dX7_ask_38 lk_X7_245 in_X7_isDay mo_X7_isDay ⟨by decide, rfl⟩ ⟨by decide, by decide⟩ (Nat.le_of_ble_eq_true rfl) k_b0 (sp_X7_isDay k_b0 g_b0_2 k_b0_2 ?_)
      refine r_if_eq (pc := 41) (tgt := 61) dX7_ask_41 (by decide) (fun q => ?_) (fun q => ?_)
      · have q := (b2i_z _).mp q
        have K0 := K0.1 q
        refine r_bipush (pc := 61) (v := (-2)) dX7_ask_61 (by decide) ?_
        exact s_iret rfl dX7_ask_63 K0
      · have q := b2i_nz q
        have K0 := K0.2 q
        refine r_aload_n (pc := 44) dX7_ask_44 rfl ?_
        refine r_iload (pc := 45) dX7_ask_45 rfl ?_
        refine s_VI (pc := 47) mX7_isHour (ci := 7) (a := b0) (As := [.int ((l2 - l2 / 1000 * 1000) / 10)]) dX7_ask_47 lk_X7_195 in_X7_isHour mo_X7_isHour ⟨by decide, rfl⟩ ⟨by decide, by decide⟩ (Nat.le_of_ble_eq_true rfl) k_b0 (sp_X7_isHour k_b0 g_b0_2 k_b0_2 ?_)
        refine r_if_eq (pc := 50) (tgt := 61) dX7_ask_50 (by decide) (fun q => ?_) (fun q => ?_)
        · have q := (b2i_z _).mp q
          have K0 := K0.1 q
          refine r_bipush (pc := 61) (v := (-2)) dX7_ask_61 (by decide) ?_
          exact s_iret rfl dX7_ask_63 K0
        · have q := b2i_nz q
          have K0 := K0.2 q
          refine r_iload (pc := 53) dX7_ask_53 rfl ?_
          refine s_SI (pc := 55) mX7_isWay (As := [.int (l2 - l2 / 10 * 10)]) dX7_ask_55 lk_X7_218 st_X7_isWay mo_X7_isWay ⟨by decide, by decide⟩ (Nat.le_of_ble_eq_true rfl) (sp_X7_isWay  ?_)
          refine r_if_ne (pc := 58) (tgt := 64) dX7_ask_58 (by decide) (fun q => ?_) (fun q => ?_)
          · have q := b2i_nz q
            have K0 := K0.1 q
            refine r_aload_n (pc := 64) dX7_ask_64 rfl ?_
            refine r_iload_n (pc := 65) dX7_ask_65 rfl ?_
            refine s_VI (pc := 66) mX7_isWeek (ci := 7) (a := b0) (As := [.int l3]) dX7_ask_66 lk_X7_167 in_X7_isWeek mo_X7_isWeek ⟨by decide, rfl⟩ ⟨by decide, by decide⟩ (Nat.le_of_ble_eq_true rfl) k_b0 (sp_X7_isWeek k_b0 g_b0_2 k_b0_2 ?_)
            refine r_if_eq (pc := 69) (tgt := 102) dX7_ask_69 (by decide) (fun q => ?_) (fun q => ?_)
            · have q := (b2i_z _).mp q
              have K0 := K0.1 q
              refine r_bipush (pc := 102) (v := (-2)) dX7_ask_102 (by decide) ?_
              exact s_iret rfl dX7_ask_104 K0
            · have q := b2i_nz q
              have K0 := K0.2 q
              refine r_aload_n (pc := 72) dX7_ask_72 rfl ?_
              refine r_iload (pc := 73) dX7_ask_73 rfl ?_
              refine s_VI (pc := 75) mX7_isWeek (ci := 7) (a := b0) (As := [.int l4]) dX7_ask_75 lk_X7_167 in_X7_isWeek mo_X7_isWeek ⟨by decide, rfl⟩ ⟨by decide, by decide⟩ (Nat.le_of_ble_eq_true rfl) k_b0 (sp_X7_isWeek k_b0 g_b0_2 k_b0_2 ?_)
              refine r_if_eq (pc := 78) (tgt := 102) dX7_ask_78 (by decide) (fun q => ?_) (fun q => ?_)
              · have q := (b2i_z _).mp q
                have K0 := K0.1 q
                refine r_bipush (pc := 102) (v := (-2)) dX7_ask_102 (by decide) ?_
                exact s_iret rfl dX7_ask_104 K0
              · have q := b2i_nz q
                have K0 := K0.2 q
                refine r_iload (pc := 81) dX7_ask_81 rfl ?_
                refine r_iload_n (pc := 83) dX7_ask_83 rfl ?_
                refine r_isub (pc := 84) dX7_ask_84 ?_
                refine r_iconst (pc := 85) (v := 1) dX7_ask_85 (by decide) ?_
                refine r_iadd (pc := 86) dX7_ask_86 ?_
                refine r_iconst (pc := 87) (v := 5) dX7_ask_87 (by decide) ?_
                refine r_icmp_lt (pc := 88) (tgt := 102) dX7_ask_88 (by decide) (fun q => ?_) (fun q => ?_)
                · have K0 := K0.1 q
                  refine r_bipush (pc := 102) (v := (-2)) dX7_ask_102 (by decide) ?_
                  exact s_iret rfl dX7_ask_104 K0
                · have K0 := K0.2 q
                  refine r_iload (pc := 91) dX7_ask_91 rfl ?_
                  refine r_iconst (pc := 93) (v := 0) dX7_ask_93 (by decide) ?_
                  refine r_bipush (pc := 94) (v := 9) dX7_ask_94 (by decide) ?_
                  refine s_SI (pc := 96) mX7_isWithin (As := [.int l5, .int 0, .int 9]) dX7_ask_96 lk_X7_113 st_X7_isWithin mo_X7_isWithin ⟨by decide, by decide⟩ (Nat.le_of_ble_eq_true rfl) (sp_X7_isWithin  ?_)
                  refine r_if_ne (pc := 99) (tgt := 105) dX7_ask_99 (by decide) (fun q => ?_) (fun q => ?_)
                  · have q := b2i_nz q
                    have K0 := K0.1 q
                    refine r_aload_n (pc := 105) dX7_ask_105 rfl ?_
                    refine s_getR (pc := 106) dX7_ask_106 fl_X7_20 rfl k_b0 g_b0_2 ?_
                    refine s_getI (pc := 109) dX7_ask_109 fl_X7_100 rfl k_b0_2 ?_
                    refine r_bipush (pc := 112) (v := 24) dX7_ask_112 (by decide) ?_
                    refine r_icmp_lt (pc := 114) (tgt := 120) dX7_ask_114 (by decide) (fun q => ?_) (fun q => ?_)
                    · have K0 := K0.1 q
                      refine r_aload_n (pc := 120) dX7_ask_120 rfl ?_
                      refine s_VV (pc := 121) mX7_remember (ci := 7) (a := b0) (As := []) dX7_ask_121 lk_X7_333 in_X7_remember mo_X7_remember ⟨by decide, rfl⟩ ⟨by decide, by decide⟩ (Nat.le_of_ble_eq_true rfl) k_b0 (mSV_mono K0 (fun y_11 K0 => ?_))
                      refine r_aload_n (pc := 124) dX7_ask_124 rfl ?_
                      obtain ⟨g_12, K0⟩ := K0
                      refine s_getR (pc := 125) dX7_ask_125 fl_X7_20 rfl k_b0 g_12 ?_
                      refine s_VR (pc := 128) mX4_addAsk (ci := 4) (a := b0_2) (As := []) dX7_ask_128 lk_X7_361 in_X4_addAsk mo_X4_addAsk ⟨by decide, rfl⟩ ⟨by decide, by decide⟩ (Nat.le_of_ble_eq_true rfl) k_b0_2 (mSR_mono K0 (fun r_14 y_13 K0 => ?_))
                      refine r_astore (pc := 131) dX7_ask_131 (by decide) ?_
                      refine r_aload (pc := 133) (L := [some (.ref b0), some (.int l1), some (.int l2), some (.int l3), some (.int l4), some (.int l5), some (.int (l2 / 1000)), some (.int ((l2 - l2 / 1000 * 1000) / 10)), some (.int (l2 - l2 / 10 * 10)), some (.ref r_14)]) dX7_ask_133 rfl ?_
                      refine r_iload_n (pc := 135) dX7_ask_135 rfl ?_
                      refine r_iload (pc := 136) dX7_ask_136 rfl ?_
                      refine r_iload (pc := 138) dX7_ask_138 rfl ?_
                      refine r_iload (pc := 140) dX7_ask_140 rfl ?_
                      obtain ⟨e_15, K0⟩ := K0
                      refine s_VV (pc := 142) mX0_placeAt (ci := 0) (a := r_14) (As := [.int l1, .int (l2 / 1000), .int ((l2 - l2 / 1000 * 1000) / 10), .int (l2 - l2 / 10 * 10)]) dX7_ask_142 lk_X7_365 in_X0_placeAt mo_X0_placeAt ⟨by decide, rfl⟩ ⟨by decide, by decide⟩ (Nat.le_of_ble_eq_true rfl) e_15 (mSV_mono K0 (fun y_16 K0 => ?_))
                      refine r_aload (pc := 145) dX7_ask_145 rfl ?_
                      refine r_iload_n (pc := 147) dX7_ask_147 rfl ?_
                      refine r_iload (pc := 148) dX7_ask_148 rfl ?_
                      refine r_iload (pc := 150) dX7_ask_150 rfl ?_
                      refine s_VV (pc := 152) mX0_span (ci := 0) (a := r_14) (As := [.int l3, .int l4, .int l5]) dX7_ask_152 lk_X7_369 in_X0_span mo_X0_span ⟨by decide, rfl⟩ ⟨by decide, by decide⟩ (Nat.le_of_ble_eq_true rfl) e_15 (mSV_mono K0 (fun y_17 K0 => ?_))
                      refine r_aload_n (pc := 155) dX7_ask_155 rfl ?_
                      obtain ⟨g_18, K0⟩ := K0
                      refine s_getR (pc := 156) dX7_ask_156 fl_X7_20 rfl k_b0 g_18 ?_
                      refine s_getI (pc := 159) dX7_ask_159 fl_X7_100 rfl k_b0_2 ?_
                      exact s_iret rfl dX7_ask_162 K0
                    · have K0 := K0.2 q
                      refine r_bipush (pc := 117) (v := (-5)) dX7_ask_117 (by decide) ?_
                      exact s_iret rfl dX7_ask_119 K0
                  · have q := (b2i_z _).mp q
                    have K0 := K0.2 q
                    refine r_bipush (pc := 102) (v := (-2)) dX7_ask_102 (by decide) ?_
                    exact s_iret rfl dX7_ask_104 K0
          · have q := (b2i_z _).mp q
            have K0 := K0.2 q
            refine r_bipush (pc := 61) (v := (-2)) dX7_ask_61 (by decide) ?_
            exact s_iret rfl dX7_ask_63 K0
set_option maxHeartbeats 2000000 in
theorem v_X8_ask_0 {K : Sh} {x : Cn} {Q : Int32 → Cn → Prop} {b0 : Nat} {l1 : Int32} {l2 : Int32} {l3 : Int32} {l4 : Int32} {l5 : Int32} {b0_1 : Nat} {n_b0_1 : Nat} (k_b0 : kk K b0 = some (8, 0)) (g_b0_1 : gr x b0 1 = some b0_1) (k_b0_1 : kk K b0_1 = some (20, n_b0_1)) (K0 : vp_in 1 n_b0_1 ∧ ((¬ (0 ≤ l1 ∧ l1 ≤ gi x b0_1 1 - 1) → (Q (-2) x)) ∧ ((0 ≤ l1 ∧ l1 ≤ gi x b0_1 1 - 1) → ((¬ (0 ≤ l2 ∧ l2 ≤ 6999) → (Q (-2) x)) ∧ ((0 ≤ l2 ∧ l2 ≤ 6999) → ((¬ (0 ≤ (l2 - l2 / 10 * 10) ∧ (l2 - l2 / 10 * 10) ≤ 1) → (Q (-2) x)) ∧ ((0 ≤ (l2 - l2 / 10 * 10) ∧ (l2 - l2 / 10 * 10) ≤ 1) → (((0 ≤ ((l2 / 10) - (l2 / 10) / 100 * 100) ∧ ((l2 / 10) - (l2 / 10) / 100 * 100) ≤ 23) → (vp_in 0 n_b0_1 ∧ ((¬ (0 ≤ l3 ∧ l3 ≤ gi x b0_1 0 - 1) → (Q (-2) x)) ∧ ((0 ≤ l3 ∧ l3 ≤ gi x b0_1 0 - 1) → ((¬ (0 ≤ l4 ∧ l4 ≤ gi x b0_1 0 - 1) → (Q (-2) x)) ∧ ((0 ≤ l4 ∧ l4 ≤ gi x b0_1 0 - 1) → ((l4 < (l3 + 4) → (Q (-2) x)) ∧ (¬ l4 < (l3 + 4) → (((0 ≤ l5 ∧ l5 ≤ 9) → (vp_in 3 n_b0_1 ∧ ((¬ (gi x b0_1 3) = 24 → (mSV mX8_keeps [.ref b0] K x (fun y_13 => ∃ c_14 : Nat, gr y_13 b0 15 = some c_14 ∧ (∃ n_17 : Nat, kk K c_14 = some (20, n_17) ∧ (vp_in 0 n_17 ∧ (vp_in 1 n_17 ∧ (vp_in 2 n_17 ∧ (vp_in 3 n_17 ∧ (vp_in 4 n_17 ∧ (vp_in 5 n_17 ∧ (vp_in 6 n_17 ∧ (mSV mX8_addsAsk [.ref b0] K (ui (ui (ui (ui (ui (ui (ui y_13 c_14 0 l1) c_14 1 (l2 / 1000)) c_14 2 ((l2 / 10) - (l2 / 10) / 100 * 100)) c_14 3 (l2 - l2 / 10 * 10)) c_14 4 l3) c_14 5 l4) c_14 6 l5) (fun y_25 => gr y_25 b0 1 = some b0_1 ∧ (Q (gi y_25 b0_1 3) y_25)))))))))))))) ∧ ((gi x b0_1 3) = 24 → (Q (-5) x))))) ∧ (¬ (0 ≤ l5 ∧ l5 ≤ 9) → (Q (-2) x))))))))))) ∧ (¬ (0 ≤ ((l2 / 10) - (l2 / 10) / 100 * 100) ∧ ((l2 / 10) - (l2 / 10) / 100 * 100) ≤ 23) → (Q (-2) x)))))))))) : mSI mX8_ask [.ref b0, .int l1, .int l2, .int l3, .int l4, .int l5] K x Q := by
  refine s_I (by decide) (by simp [Value.category]) (Nat.le_of_ble_eq_true rfl) ?_
  show mGM mX8_ask 0 [some (.ref b0), some (.int l1), some (.int l2), some (.int l3), some (.int l4), some (.int l5), none] [] (hp K x) (PI K Q)
  refine r_iload_n (pc := 0) dX8_ask_0 rfl ?_
  refine r_bipush (pc := 1) (v := 10) dX8_ask_1 (by decide) ?_
  refine r_idiv (pc := 3) dX8_ask_3 (by decide) ?_
  refine r_bipush (pc := 4) (v := 100) dX8_ask_4 (by decide) ?_
  refine r_irem (pc := 6) dX8_ask_6 (by decide) ?_
  refine r_istore (pc := 7) dX8_ask_7 (by decide) ?_
  refine r_aload_n (pc := 9) (L := [some (.ref b0), some (.int l1), some (.int l2), some (.int l3), some (.int l4), some (.int l5), some (.int ((l2 / 10) - (l2 / 10) / 100 * 100))]) dX8_ask_9 rfl ?_
  refine r_iload_n (pc := 10) dX8_ask_10 rfl ?_
  obtain ⟨i_1, K0⟩ := K0
  refine s_VI (pc := 11) mX8_isCarrier (ci := 8) (a := b0) (As := [.int l1]) dX8_ask_11 lk_X8_265 in_X8_isCarrier mo_X8_isCarrier ⟨by decide, rfl⟩ ⟨by decide, by decide⟩ (Nat.le_of_ble_eq_true rfl) k_b0 (sp_X8_isCarrier k_b0 g_b0_1 k_b0_1 i_1 ?_)
  refine r_if_eq (pc := 14) (tgt := 55) dX8_ask_14 (by decide) (fun q => ?_) (fun q => ?_)
  · have q := (b2i_z _).mp q
    have K0 := K0.1 q
    refine r_bipush (pc := 55) (v := (-2)) dX8_ask_55 (by decide) ?_
    exact s_iret rfl dX8_ask_57 K0
  · have q := b2i_nz q
    have K0 := K0.2 q
    refine r_iload_n (pc := 17) dX8_ask_17 rfl ?_
    refine r_i2l (pc := 18) dX8_ask_18 ?_
    refine r_lconst (pc := 19) (v := 0) dX8_ask_19 (by decide) ?_
    refine r_ldc2 (pc := 20) (v := 6999) dX8_ask_20 cn_X8_393 ?_
    refine s_SI (pc := 23) mX8_in (As := [.long ((l2 : Int32).toInt64), .long 0, .long 6999]) dX8_ask_23 lk_X8_45 st_X8_in mo_X8_in ⟨by decide, by decide⟩ (Nat.le_of_ble_eq_true rfl) (sq_X8_in (v := l2) (lo := 0) (hi := 6999) rfl (by decide) (by decide) ?_)
    refine r_if_eq (pc := 26) (tgt := 55) dX8_ask_26 (by decide) (fun q => ?_) (fun q => ?_)
    · have q := (b2i_z _).mp q
      have K0 := K0.1 q
      refine r_bipush (pc := 55) (v := (-2)) dX8_ask_55 (by decide) ?_
      exact s_iret rfl dX8_ask_57 K0
    · have q := b2i_nz q
      have K0 := K0.2 q
      refine r_iload_n (pc := 29) dX8_ask_29 rfl ?_
      refine r_bipush (pc := 30) (v := 10) dX8_ask_30 (by decide) ?_
      refine r_irem (pc := 32) dX8_ask_32 (by decide) ?_
      refine r_i2l (pc := 33) dX8_ask_33 ?_
      refine r_lconst (pc := 34) (v := 0) dX8_ask_34 (by decide) ?_
      refine r_lconst (pc := 35) (v := 1) dX8_ask_35 (by decide) ?_
      refine s_SI (pc := 36) mX8_in (As := [.long (((l2 - l2 / 10 * 10) : Int32).toInt64), .long 0, .long 1]) dX8_ask_36 lk_X8_45 st_X8_in mo_X8_in ⟨by decide, by decide⟩ (Nat.le_of_ble_eq_true rfl) (sq_X8_in (v := (l2 - l2 / 10 * 10)) (lo := 0) (hi := 1) rfl (by decide) (by decide) ?_)
      refine r_if_eq (pc := 39) (tgt := 55) dX8_ask_39 (by decide) (fun q => ?_) (fun q => ?_)
      · have q := (b2i_z _).mp q
        have K0 := K0.1 q
        refine r_bipush (pc := 55) (v := (-2)) dX8_ask_55 (by decide) ?_
        exact s_iret rfl dX8_ask_57 K0
      · have q := b2i_nz q
        have K0 := K0.2 q
        refine r_iload (pc := 42) dX8_ask_42 rfl ?_
        refine r_i2l (pc := 44) dX8_ask_44 ?_
        refine r_lconst (pc := 45) (v := 0) dX8_ask_45 (by decide) ?_
        refine r_ldc2 (pc := 46) (v := 23) dX8_ask_46 cn_X8_55 ?_
        refine s_SI (pc := 49) mX8_in (As := [.long ((((l2 / 10) - (l2 / 10) / 100 * 100) : Int32).toInt64), .long 0, .long 23]) dX8_ask_49 lk_X8_45 st_X8_in mo_X8_in ⟨by decide, by decide⟩ (Nat.le_of_ble_eq_true rfl) (sq_X8_in (v := ((l2 / 10) - (l2 / 10) / 100 * 100)) (lo := 0) (hi := 23) rfl (by decide) (by decide) ?_)
        refine r_if_ne (pc := 52) (tgt := 58) dX8_ask_52 (by decide) (fun q => ?_) (fun q => ?_)
        · have q := b2i_nz q
          have K0 := K0.1 q
          refine r_aload_n (pc := 58) dX8_ask_58 rfl ?_
          refine r_iload_n (pc := 59) dX8_ask_59 rfl ?_
          obtain ⟨i_6, K0⟩ := K0
          refine s_VI (pc := 60) mX8_isWeek (ci := 8) (a := b0) (As := [.int l3]) dX8_ask_60 lk_X8_57 in_X8_isWeek mo_X8_isWeek ⟨by decide, rfl⟩ ⟨by decide, by decide⟩ (Nat.le_of_ble_eq_true rfl) k_b0 (sp_X8_isWeek k_b0 g_b0_1 k_b0_1 i_6 ?_)
          refine r_if_eq (pc := 63) (tgt := 96) dX8_ask_63 (by decide) (fun q => ?_) (fun q => ?_)
          · have q := (b2i_z _).mp q
            have K0 := K0.1 q
            refine r_bipush (pc := 96) (v := (-2)) dX8_ask_96 (by decide) ?_
            exact s_iret rfl dX8_ask_98 K0
          · have q := b2i_nz q
            have K0 := K0.2 q
            refine r_aload_n (pc := 66) dX8_ask_66 rfl ?_
            refine r_iload (pc := 67) dX8_ask_67 rfl ?_
            refine s_VI (pc := 69) mX8_isWeek (ci := 8) (a := b0) (As := [.int l4]) dX8_ask_69 lk_X8_57 in_X8_isWeek mo_X8_isWeek ⟨by decide, rfl⟩ ⟨by decide, by decide⟩ (Nat.le_of_ble_eq_true rfl) k_b0 (sp_X8_isWeek k_b0 g_b0_1 k_b0_1 i_6 ?_)
            refine r_if_eq (pc := 72) (tgt := 96) dX8_ask_72 (by decide) (fun q => ?_) (fun q => ?_)
            · have q := (b2i_z _).mp q
              have K0 := K0.1 q
              refine r_bipush (pc := 96) (v := (-2)) dX8_ask_96 (by decide) ?_
              exact s_iret rfl dX8_ask_98 K0
            · have q := b2i_nz q
              have K0 := K0.2 q
              refine r_iload (pc := 75) dX8_ask_75 rfl ?_
              refine r_iload_n (pc := 77) dX8_ask_77 rfl ?_
              refine r_iconst (pc := 78) (v := 4) dX8_ask_78 (by decide) ?_
              refine r_iadd (pc := 79) dX8_ask_79 ?_
              refine r_icmp_lt (pc := 80) (tgt := 96) dX8_ask_80 (by decide) (fun q => ?_) (fun q => ?_)
              · have K0 := K0.1 q
                refine r_bipush (pc := 96) (v := (-2)) dX8_ask_96 (by decide) ?_
                exact s_iret rfl dX8_ask_98 K0
              · have K0 := K0.2 q
                refine r_iload (pc := 83) dX8_ask_83 rfl ?_
                refine r_i2l (pc := 85) dX8_ask_85 ?_
                refine r_lconst (pc := 86) (v := 0) dX8_ask_86 (by decide) ?_
                refine r_ldc2 (pc := 87) (v := 9) dX8_ask_87 cn_X8_388 ?_
                refine s_SI (pc := 90) mX8_in (As := [.long ((l5 : Int32).toInt64), .long 0, .long 9]) dX8_ask_90 lk_X8_45 st_X8_in mo_X8_in ⟨by decide, by decide⟩ (Nat.le_of_ble_eq_true rfl) (sq_X8_in (v := l5) (lo := 0) (hi := 9) rfl (by decide) (by decide) ?_)
                refine r_if_ne (pc := 93) (tgt := 99) dX8_ask_93 (by decide) (fun q => ?_) (fun q => ?_)
                · have q := b2i_nz q
                  have K0 := K0.1 q
                  refine r_aload_n (pc := 99) dX8_ask_99 rfl ?_
                  refine s_getR (pc := 100) dX8_ask_100 fl_X8_9 rfl k_b0 g_b0_1 ?_
                  refine r_iconst (pc := 103) (v := 3) dX8_ask_103 (by decide) ?_
                  obtain ⟨i_11, K0⟩ := K0
                  refine s_iald (pc := 104) dX8_ask_104 k_b0_1 i_11 ?_
                  refine r_bipush (pc := 105) (v := 24) dX8_ask_105 (by decide) ?_
                  refine r_icmp_ne (pc := 107) (tgt := 113) dX8_ask_107 (by decide) (fun q => ?_) (fun q => ?_)
                  · have K0 := K0.1 q
                    refine r_aload_n (pc := 113) dX8_ask_113 rfl ?_
                    refine s_VV (pc := 114) mX8_keeps (ci := 8) (a := b0) (As := []) dX8_ask_114 lk_X8_366 in_X8_keeps mo_X8_keeps ⟨by decide, rfl⟩ ⟨by decide, by decide⟩ (Nat.le_of_ble_eq_true rfl) k_b0 (mSV_mono K0 (fun y_13 K0 => ?_))
                    refine r_aload_n (pc := 117) dX8_ask_117 rfl ?_
                    obtain ⟨c_14, g_15, K0⟩ := K0
                    refine s_getR (pc := 118) dX8_ask_118 fl_X8_27 rfl k_b0 g_15 ?_
                    refine r_iconst (pc := 121) (v := 0) dX8_ask_121 (by decide) ?_
                    refine r_iload_n (pc := 122) dX8_ask_122 rfl ?_
                    obtain ⟨n_17, e_16, K0⟩ := K0
                    obtain ⟨i_18, K0⟩ := K0
                    refine s_iast (pc := 123) dX8_ask_123 e_16 i_18 ?_
                    refine r_aload_n (pc := 124) dX8_ask_124 rfl ?_
                    refine s_getR (pc := 125) dX8_ask_125 fl_X8_27 rfl k_b0 g_15 ?_
                    refine r_iconst (pc := 128) (v := 1) dX8_ask_128 (by decide) ?_
                    refine r_iload_n (pc := 129) dX8_ask_129 rfl ?_
                    refine r_sipush (pc := 130) (v := 1000) dX8_ask_130 (by decide) ?_
                    refine r_idiv (pc := 133) dX8_ask_133 (by decide) ?_
                    obtain ⟨i_19, K0⟩ := K0
                    refine s_iast (pc := 134) dX8_ask_134 e_16 i_19 ?_
                    refine r_aload_n (pc := 135) dX8_ask_135 rfl ?_
                    refine s_getR (pc := 136) dX8_ask_136 fl_X8_27 rfl k_b0 g_15 ?_
                    refine r_iconst (pc := 139) (v := 2) dX8_ask_139 (by decide) ?_
                    refine r_iload (pc := 140) dX8_ask_140 rfl ?_
                    obtain ⟨i_20, K0⟩ := K0
                    refine s_iast (pc := 142) dX8_ask_142 e_16 i_20 ?_
                    refine r_aload_n (pc := 143) dX8_ask_143 rfl ?_
                    refine s_getR (pc := 144) dX8_ask_144 fl_X8_27 rfl k_b0 g_15 ?_
                    refine r_iconst (pc := 147) (v := 3) dX8_ask_147 (by decide) ?_
                    refine r_iload_n (pc := 148) dX8_ask_148 rfl ?_
                    refine r_bipush (pc := 149) (v := 10) dX8_ask_149 (by decide) ?_
                    refine r_irem (pc := 151) dX8_ask_151 (by decide) ?_
                    obtain ⟨i_21, K0⟩ := K0
                    refine s_iast (pc := 152) dX8_ask_152 e_16 i_21 ?_
                    refine r_aload_n (pc := 153) dX8_ask_153 rfl ?_
                    refine s_getR (pc := 154) dX8_ask_154 fl_X8_27 rfl k_b0 g_15 ?_
                    refine r_iconst (pc := 157) (v := 4) dX8_ask_157 (by decide) ?_
                    refine r_iload_n (pc := 158) dX8_ask_158 rfl ?_
                    obtain ⟨i_22, K0⟩ := K0
                    refine s_iast (pc := 159) dX8_ask_159 e_16 i_22 ?_
                    refine r_aload_n (pc := 160) dX8_ask_160 rfl ?_
                    refine s_getR (pc := 161) dX8_ask_161 fl_X8_27 rfl k_b0 g_15 ?_
                    refine r_iconst (pc := 164) (v := 5) dX8_ask_164 (by decide) ?_
                    refine r_iload (pc := 165) dX8_ask_165 rfl ?_
                    obtain ⟨i_23, K0⟩ := K0
                    refine s_iast (pc := 167) dX8_ask_167 e_16 i_23 ?_
                    refine r_aload_n (pc := 168) dX8_ask_168 rfl ?_
                    refine s_getR (pc := 169) dX8_ask_169 fl_X8_27 rfl k_b0 g_15 ?_
                    refine r_bipush (pc := 172) (v := 6) dX8_ask_172 (by decide) ?_
                    refine r_iload (pc := 174) dX8_ask_174 rfl ?_
                    obtain ⟨i_24, K0⟩ := K0
                    refine s_iast (pc := 176) dX8_ask_176 e_16 i_24 ?_
                    refine r_aload_n (pc := 177) dX8_ask_177 rfl ?_
                    refine s_VV (pc := 178) mX8_addsAsk (ci := 8) (a := b0) (As := []) dX8_ask_178 lk_X8_241 in_X8_addsAsk mo_X8_addsAsk ⟨by decide, rfl⟩ ⟨by decide, by decide⟩ (Nat.le_of_ble_eq_true rfl) k_b0 (mSV_mono K0 (fun y_25 K0 => ?_))
                    refine r_aload_n (pc := 181) dX8_ask_181 rfl ?_
                    obtain ⟨g_26, K0⟩ := K0
                    refine s_getR (pc := 182) dX8_ask_182 fl_X8_9 rfl k_b0 g_26 ?_
                    refine r_iconst (pc := 185) (v := 3) dX8_ask_185 (by decide) ?_
                    refine s_iald (pc := 186) dX8_ask_186 k_b0_1 i_11 ?_
                    exact s_iret rfl dX8_ask_187 K0
                  · have K0 := K0.2 q
                    refine r_bipush (pc := 110) (v := (-5)) dX8_ask_110 (by decide) ?_
                    exact s_iret rfl dX8_ask_112 K0
                · have q := (b2i_z _).mp q
                  have K0 := K0.2 q
                  refine r_bipush (pc := 96) (v := (-2)) dX8_ask_96 (by decide) ?_
                  exact s_iret rfl dX8_ask_98 K0
        · have q := (b2i_z _).mp q
          have K0 := K0.2 q
          refine r_bipush (pc := 55) (v := (-2)) dX8_ask_55 (by decide) ?_
          exact s_iret rfl dX8_ask_57 K0
section
theorem sq_X8_ask {y : Cn} {Q : Int32 → Cn → Prop} {T : TT} {W C S A N n : Nat} {H : Nat → TT} {a b f l e : Int32} (r : RS y T n H) (F : WF T W C S A N) (k1 : ¬ okA C W a b f l e → Q (-2) y) (k2 : okA C W a b f l e → A = 24 → Q (-5) y) (k3 : okA C W a b f l e → A < 24 → ∀ z, RFr y z → RS z (askT T A (askF a b f l e)) (pn n) (push H n T) → Q (nI (A + 1)) z) : mSI mX8_ask [.ref 717, .int a, .int b, .int f, .int l, .int e] KW y Q := by
  have hW : W ≤ 30 := F.2.2.1
  have hC : C ≤ 8 := F.2.2.2.2.1
  have hA : A ≤ 24 := F.2.2.2.2.2.2.2.2.1
  have M := r.1
  refine v_X8_ask_0 km M.1 km1 ⟨v0 (k := 1) (by decide) rfl rfl, ?_⟩
  rw [r.2.1, F.2.2.2.1, F.1, inN' (by omega), inN' (by omega), inN' (by omega), F.2.2.2.2.2.2.2.1, show (24 : Int32) = nI 24 by decide, nI_eq (by omega) (by decide)]
  by_cases hok : okA C W a b f l e
  · have k2 := k2 hok
    have k3 := k3 hok
    obtain ⟨c, k, f', l', e', h1, h2, h3, h4, h5, h6, h7, h8, h9, h10, h11, h12, h13⟩ := id hok
    subst h1 h3 h7 h9 h12
    rw [ky_3 (by omega), ky_4 (by omega)]
    refine ⟨fun z => absurd ⟨nI_pos' (by omega), nI_lt h2 (by omega)⟩ z, fun _ => ⟨fun z => absurd ⟨nI_pos' (by omega), nI_le (b := 6999) h4 (by decide)⟩ z, fun _ => ⟨fun z => absurd ⟨nI_pos' (by omega), nI_le (b := 1) h5 (by decide)⟩ z, fun _ => ⟨fun _ => ⟨v0 (k := 0) (by decide) rfl rfl, fun z => absurd ⟨nI_pos' (by omega), nI_lt h8 (by omega)⟩ z, fun _ => ⟨fun z => absurd ⟨nI_pos' (by omega), nI_lt h10 (by omega)⟩ z, fun _ => ⟨fun z => absurd z ?_, fun _ => ⟨fun _ => ⟨v0 (k := 3) (by decide) rfl rfl, fun z => ?_, fun z => k2 hok z⟩, fun z => absurd ⟨nI_pos' (by omega), nI_le (b := 9) h13 (by decide)⟩ z⟩⟩⟩⟩, fun z => absurd ⟨nI_pos' (by omega), nI_le (b := 23) h6 (by decide)⟩ z⟩⟩⟩⟩
    · rw [show nI f' + 4 = nI (f' + 4) from nI_add f' 4]
      exact nI_nlt h11 (by omega)
    · refine r.keeps (fun z f1 r1 => ⟨721, r1.1.2.2.2.2.1, 7, by decide, v0 (k := 0) (by decide) rfl rfl, v0 (k := 1) (by decide) rfl rfl, v0 (k := 2) (by decide) rfl rfl, v0 (k := 3) (by decide) rfl rfl, v0 (k := 4) (by decide) rfl rfl, v0 (k := 5) (by decide) rfl rfl, v0 (k := 6) (by decide) rfl rfl, ?_⟩)
      refine sp_X8_addsAsk (t := 718) (A := A) (f := askF (nI c) (nI k) (nI f') (nI l') (nI e')) (r1.1.keep rfl) km1 (by decide) ?_ (by omega) (fun j hj => ?_) (fun v v1 v2 v3 => ⟨(r1.1.keep v1).1, ?_⟩)
      · simp only [gi_ui, show ¬ (718 : Nat) = 721 by decide, false_and, if_false]
        rw [r1.2.1]; exact F.2.2.2.2.2.2.2.1
      · have e4 := ky_4 (k := k) (by omega)
        have e3 := ky_3 (k := k) (by omega)
        rcases lt7 hj with rfl | rfl | rfl | rfl | rfl | rfl | rfl <;> simp [gi_ui, askF, e3, e4]
      · have ez : gi (ui (ui (ui (ui (ui (ui (ui z 721 0 (nI c)) 721 1 (nI k / 1000)) 721 2 (nI (k / 10 % 100))) 721 3 (nI (k % 10))) 721 4 (nI f')) 721 5 (nI l')) 721 6 (nI e')) 718 = T := by
          rw [← r1.2.1]
          funext i
          simp only [gi_ui, show ¬ (718 : Nat) = 721 by decide, false_and, if_false]
        rw [ez] at v3
        obtain ⟨r2, f2⟩ := r1.mv (T' := askT T A (askF (nI c) (nI k) (nI f') (nI l') (nI e'))) v1 (fun b j b1 b2 b3 b4 b5 b6 => by rw [v2 b j b1]; simp only [gi_ui, b3, false_and, if_false]) v3
        rw [v3, show askT T A (askF (nI c) (nI k) (nI f') (nI l') (nI e')) 3 = nI (A + 1) from if_pos rfl]
        exact k3 (by omega) v (f1.tr f2) r2
  · refine ⟨fun _ => k1 hok, fun z1 => ⟨fun _ => k1 hok, fun z2 => ⟨fun _ => k1 hok, fun z3 => ⟨fun z4 => ⟨v0 (k := 0) (by decide) rfl rfl, fun _ => k1 hok, fun z5 => ⟨fun _ => k1 hok, fun z6 => ⟨fun _ => k1 hok, fun z7 => ⟨fun z8 => absurd ?_ hok, fun _ => k1 hok⟩⟩⟩⟩, fun _ => k1 hok⟩⟩⟩⟩
    obtain ⟨c, hc, rfl⟩ := inN (by omega) z1
    obtain ⟨k, hk, rfl⟩ := nI_of2 (M := 6999) (n := 6999) (by decide) (Int32.not_lt.mpr z2.1) z2.2
    obtain ⟨f', hf, rfl⟩ := inN (by omega) z5
    obtain ⟨l', hl, rfl⟩ := inN (by omega) z6
    obtain ⟨e', he, rfl⟩ := nI_of2 (M := 9) (n := 9) (by decide) (Int32.not_lt.mpr z8.1) z8.2
    rw [ky_3 (by omega)] at z3
    rw [ky_4 (by omega)] at z4
    rw [show nI f' + 4 = nI (f' + 4) from nI_add f' 4, nI_ltI (by omega) (by omega)] at z7
    exact ⟨c, k, f', l', e', rfl, hc, rfl, hk, (nI_leI (b := 1) (by omega) (by decide)).mp z3.2, (nI_leI (b := 23) (by omega) (by decide)).mp z4.2, rfl, hf, rfl, hl, by omega, rfl, he⟩
end
theorem eq_ask (a b f l e : Int32) : Both mX7_ask mX8_ask [.int a, .int b, .int f, .int l, .int e] := by
  intro x R
  obtain ⟨W, C, S, A, N, n, H, ac, rs, nm⟩ := R.ac
  have E := ac.2.2.2.2
  have hn := E.nums
  have hW : W ≤ 30 := hn.2.2.2.2.1
  have hC : C ≤ 8 := hn.2.2.2.2.2.1
  have hA : A ≤ 24 := hn.2.2.2.2.2.2.2.1
  refine v_X7_ask_0 k0 R.1.2.2.1 (by decide) R.1.2.1 (ks0 E.1) ?_
  rw [nm.1, hn.1, hn.2.2.2.1, show (24 : Int32) = nI 24 by decide, nI_ltI (a := A) (by omega) (by decide)]
  by_cases hok : okA C W a b f l e
  · obtain ⟨c, k, f', l', e', h1, h2, h3, h4, h5, h6, h7, h8, h9, h10, h11, h12, h13⟩ := id hok
    subst h1 h3 h7 h9 h12
    have hW0 : 0 < nI W := nI_lt (a := 0) (E.cw (by omega)) (by omega)
    have hway : nI (k % 10) = 0 ∨ nI (k % 10) = 1 := by
      have : k % 10 = 0 ∨ k % 10 = 1 := by omega
      rcases this with g | g
      · rw [g]; exact Or.inl rfl
      · rw [g]; exact Or.inr rfl
    rw [ky_3 (by omega), ky_2 (by omega), ky_1 (by omega)]
    refine ⟨fun z => absurd ⟨nI_pos' (by omega), nI_lt h2 (by omega)⟩ z, fun _ => ⟨fun z => absurd z (nI_pos (by omega)), fun _ => ⟨fun z => absurd ⟨hW0, nI_pos' (by omega), nI_lt (b := 7) (by omega) (by decide)⟩ z, fun _ => ⟨fun z => absurd ⟨hW0, nI_pos' (by omega), nI_lt (b := 24) (by omega) (by decide)⟩ z, fun _ => ⟨fun _ => ⟨fun z => absurd ⟨nI_pos' (by omega), nI_lt h8 (by omega)⟩ z, fun _ => ⟨fun z => absurd ⟨nI_pos' (by omega), nI_lt h10 (by omega)⟩ z, fun _ => ⟨fun z => absurd z ?_, fun _ => ⟨fun _ => ⟨fun z => ?_, fun z => ?_⟩, fun z => absurd ⟨nI_pos' (by omega), nI_le (b := 9) h13 (by decide)⟩ z⟩⟩⟩⟩, fun z => absurd hway z⟩⟩⟩⟩⟩
    · rw [pk_sub (by omega), nI_1]
      exact nI_nlt (b := 5) (by omega) (by omega)
    · refine ac.rem (fun _ _ => rfl) (fun y ay y1 y2 => ⟨ay.2.1.2.1, ?_⟩)
      have Ey := ay.2.2.2.2
      obtain ⟨j, hj, ej⟩ := Ey.2.1.2.2.2.2.2.2.2.1 A (by omega)
      have eA : gi y 2 4 = nI A := Ey.nums.2.2.2.1
      have mi : (if (23 : Int32) < nI A then 23 else nI A) = nI A := if_neg (fun g => absurd ((nI_ltI (a := 23) (b := A) (by decide) (by omega)).mp g) (by omega))
      refine v_X4_addAsk_0 (ks0 E.1) Ey.2.1.2.2.2.1 (ks4 E.1) ?_
      rw [eA, mi, nI_clamp (by omega), nI_1]
      refine ⟨vp_in_nI (by omega) (by decide), 2 + 30 + j, ej, ks30 E.1 hj, v_X0_placeAt_0 (ks30 E.1 hj) (v_X0_span_0 (ks30 E.1 hj) ⟨ay.2.1.2.1, ?_⟩)⟩
      have a2 : AC x (ui (ui (ui (ui (ui (ui (ui (ui y 2 4 (nI (A + 1))) (2 + 30 + j) 0 (nI c)) (2 + 30 + j) 1 (nI (k / 1000))) (2 + 30 + j) 2 (nI (k / 10 % 100))) (2 + 30 + j) 3 (nI (k % 10))) (2 + 30 + j) 4 (nI f')) (2 + 30 + j) 5 (nI l')) (2 + 30 + j) 6 (nI e')) W C S (A + 1) N (pn n) (askT (gi x 718) A (askF (nI c) (nI k) (nI f') (nI l') (nI e'))) (push H n (gi x 718)) := by
        have off : ∀ b i, b ≠ 2 + 30 + j → ¬ (b = 2 ∧ i = 4) → gi (ui (ui (ui (ui (ui (ui (ui (ui y 2 4 (nI (A + 1))) (2 + 30 + j) 0 (nI c)) (2 + 30 + j) 1 (nI (k / 1000))) (2 + 30 + j) 2 (nI (k / 10 % 100))) (2 + 30 + j) 3 (nI (k % 10))) (2 + 30 + j) 4 (nI f')) (2 + 30 + j) 5 (nI l')) (2 + 30 + j) 6 (nI e')) b i = gi y b i := fun b i b1 b2 => by
          simp only [gi_ui, b1, false_and, if_false]
          rw [if_neg b2]
        refine ay.up (fun b i hb => off b i (by omega) (by omega)) rfl (Ey.addA (p := 2 + 30 + j) (by omega) ej rfl (fun b i b1 b2 b3 b4 b5 => off b i b3 b4) ?_ (fun i hi => ?_) (fun i _ h3 h4 => askT_off h3 h4) (if_pos rfl) hok.was)
        · simp [gi_ui, show ¬ (2 : Nat) = 2 + 30 + j by omega]
        · rw [ao_askT hi]
          have e4 := ky_4 (k := k) (by omega)
          have e3 := ky_3 (k := k) (by omega)
          have e1 := ky_1 (k := k) (by omega)
          rcases lt7 hi with rfl | rfl | rfl | rfl | rfl | rfl | rfl <;> simp [gi_ui, askF, e3, e4, e1]
      have r4 : gi (ui (ui (ui (ui (ui (ui (ui (ui y 2 4 (nI (A + 1))) (2 + 30 + j) 0 (nI c)) (2 + 30 + j) 1 (nI (k / 1000))) (2 + 30 + j) 2 (nI (k / 10 % 100))) (2 + 30 + j) 3 (nI (k % 10))) (2 + 30 + j) 4 (nI f')) (2 + 30 + j) 5 (nI l')) (2 + 30 + j) 6 (nI e')) 2 4 = nI (A + 1) := a2.2.2.2.2.nums.2.2.2.1
      rw [r4]
      exact sq_X8_ask (a2.rs rs) E.2.2.2 (fun u => absurd hok u) (fun _ u => by omega) (fun _ _ v f2 r2 => ⟨rfl, a2.fin R nm (fun c hc => askT_off (by omega) (by omega)) f2 r2⟩)
    · exact sq_X8_ask rs E.2.2.2 (fun u => absurd hok u) (fun _ _ => ⟨rfl, R⟩) (fun _ u => absurd u z)
  · have no : mSI mX8_ask [.ref 717, .int a, .int b, .int f, .int l, .int e] KW x (fun r' z => -2 = r' ∧ Rel z) := sq_X8_ask rs E.2.2.2 (fun _ => ⟨rfl, R⟩) (fun u => absurd u hok) (fun u => absurd u hok)
    refine ⟨fun _ => no, fun z1 => ⟨fun _ => no, fun z2 => ⟨fun _ => no, fun z3 => ⟨fun _ => no, fun z4 => ⟨fun z5 => ⟨fun _ => no, fun z6 => ⟨fun _ => no, fun z7 => ⟨fun _ => no, fun z8 => ⟨fun z9 => absurd ?_ hok, fun _ => no⟩⟩⟩⟩, fun _ => no⟩⟩⟩⟩⟩
    obtain ⟨c, hc, rfl⟩ := inN (by omega) z1
    obtain ⟨k, hk, rfl⟩ := nI_of z2
    obtain ⟨f', hf, rfl⟩ := inN (by omega) z6
    obtain ⟨l', hl, rfl⟩ := inN (by omega) z7
    obtain ⟨e', he, rfl⟩ := nI_of2 (M := 9) (n := 9) (by decide) (Int32.not_lt.mpr z9.1) z9.2
    rw [ky_1 hk] at z3
    rw [ky_2 hk] at z4
    rw [ky_3 hk] at z5
    have g3 := (nI_ltI (b := 7) (by omega) (by decide)).mp z3.2.2
    have g4 := (nI_ltI (b := 24) (by omega) (by decide)).mp z4.2.2
    have g5 : k % 10 ≤ 1 := by
      rcases z5 with g | g
      · have := (nI_eq (b := 0) (by omega) (by decide)).mp g; omega
      · have := (nI_eq (b := 1) (by omega) (by decide)).mp g; omega
    have g8 : f' + 4 ≤ l' := by
      by_cases c9 : f' + 4 ≤ l'
      · exact c9
      · refine absurd ?_ z8
        by_cases cf : f' ≤ l'
        · rw [pk_sub cf, nI_1]
          exact nI_lt (b := 5) (by omega) (by decide)
        · have hneg : (nI l' - nI f' + 1).toInt = (l' : Int) - f' + 1 := by
            have h1 := pk_sub_toInt (a := l') (b := f') (by omega) (by omega)
            have e : nI l' - nI f' + 1 = nI (l' + 1) - nI f' := by
              rw [← nI_1]
              simp only [Int32.sub_eq_add_neg]
              rw [Int32.add_assoc, Int32.add_comm (-nI f') 1, ← Int32.add_assoc]
            rw [e, pk_sub_toInt (by omega) (by omega)]
            omega
          rw [Int32.lt_iff_toInt_lt, hneg, show (5 : Int32).toInt = 5 by decide]
          omega
    exact ⟨c, k, f', l', e', rfl, hc, rfl, by omega, g5, by omega, rfl, hf, rfl, hl, g8, rfl, he⟩
end

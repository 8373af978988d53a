set_option maxHeartbeats 2000000 in
theorem v_X8_fly_0 {K : Sh} {x : Cn} {Q : Int32 → Cn → Prop} {b0 : Nat} {l1 : Int32} {l2 : Int32} {b0_1 : Nat} {n_b0_1 : Nat} (k_b0 : kk K b0 = some (8, 0)) (g_b0_1 : gr x b0 1 = some b0_1) (k_b0_1 : kk K b0_1 = some (20, n_b0_1)) (K0 : vp_in 2 n_b0_1 ∧ ((¬ (0 ≤ l1 ∧ l1 ≤ gi x b0_1 2 - 1) → (Q (-2) x)) ∧ ((0 ≤ l1 ∧ l1 ≤ gi x b0_1 2 - 1) → (vp_in 0 n_b0_1 ∧ (((0 ≤ l2 ∧ l2 ≤ gi x b0_1 0 - 1) → (mSI mX8_stateOf [.ref b0, .int l1, .int l2] K x (fun r_6 y_5 => (r_6 = 2 → (gr y_5 b0 1 = some b0_1 ∧ (vp_in 4 n_b0_1 ∧ (((gi y_5 b0_1 4 ≤ l2) → (mSV mX8_keeps [.ref b0] K y_5 (fun y_11 => mSV mX8_goes [.ref b0, .int l1, .int (1 <<< (l2 &&& 31)), .int r_6, .int 0] K y_11 (fun y_12 => Q r_6 y_12)))) ∧ (¬ (gi y_5 b0_1 4 ≤ l2) → (Q (-6) y_5)))))) ∧ (¬ r_6 = 2 → ((¬ r_6 = 3 → (Q (-6) y_5)) ∧ (r_6 = 3 → (gr y_5 b0 1 = some b0_1 ∧ (vp_in 4 n_b0_1 ∧ (((gi y_5 b0_1 4 ≤ l2) → (mSV mX8_keeps [.ref b0] K y_5 (fun y_17 => mSV mX8_goes [.ref b0, .int l1, .int (1 <<< (l2 &&& 31)), .int r_6, .int 0] K y_17 (fun y_18 => Q r_6 y_18)))) ∧ (¬ (gi y_5 b0_1 4 ≤ l2) → (Q (-6) y_5))))))))))) ∧ (¬ (0 ≤ l2 ∧ l2 ≤ gi x b0_1 0 - 1) → (Q (-2) x))))))) : mSI mX8_fly [.ref b0, .int l1, .int l2] K x Q := by
  refine s_I (by decide) (by simp [Value.category]) (Nat.le_of_ble_eq_true rfl) ?_
  show mGM mX8_fly 0 [some (.ref b0), some (.int l1), some (.int l2), none] [] (hp K x) (PI K Q)
  refine r_aload_n (pc := 0) dX8_fly_0 rfl ?_
  refine r_iload_n (pc := 1) dX8_fly_1 rfl ?_
  obtain ⟨i_1, K0⟩ := K0
  refine s_VI (pc := 2) mX8_isSeries (ci := 8) (a := b0) (As := [.int l1]) dX8_fly_2 lk_X8_273 in_X8_isSeries mo_X8_isSeries ⟨by decide, rfl⟩ ⟨by decide, by decide⟩ (Nat.le_of_ble_eq_true rfl) k_b0 (sp_X8_isSeries k_b0 g_b0_1 k_b0_1 i_1 ?_)
  refine r_if_eq (pc := 5) (tgt := 16) dX8_fly_5 (by decide) (fun q => ?_) (fun q => ?_)
  · have q := (b2i_z _).mp q
    have K0 := K0.1 q
    refine r_bipush (pc := 16) (v := (-2)) dX8_fly_16 (by decide) ?_
    exact s_iret rfl dX8_fly_18 K0
  · have q := b2i_nz q
    have K0 := K0.2 q
    refine r_aload_n (pc := 8) dX8_fly_8 rfl ?_
    refine r_iload_n (pc := 9) dX8_fly_9 rfl ?_
    obtain ⟨i_3, K0⟩ := K0
    refine s_VI (pc := 10) mX8_isWeek (ci := 8) (a := b0) (As := [.int l2]) dX8_fly_10 lk_X8_57 in_X8_isWeek mo_X8_isWeek ⟨by decide, rfl⟩ ⟨by decide, by decide⟩ (Nat.le_of_ble_eq_true rfl) k_b0 (sp_X8_isWeek k_b0 g_b0_1 k_b0_1 i_3 ?_)
    refine r_if_ne (pc := 13) (tgt := 19) dX8_fly_13 (by decide) (fun q => ?_) (fun q => ?_)
    · have q := b2i_nz q
      have K0 := K0.1 q
      refine r_aload_n (pc := 19) dX8_fly_19 rfl ?_
      refine r_iload_n (pc := 20) dX8_fly_20 rfl ?_
      refine r_iload_n (pc := 21) dX8_fly_21 rfl ?_
      refine s_VI (pc := 22) mX8_stateOf (ci := 8) (a := b0) (As := [.int l1, .int l2]) dX8_fly_22 lk_X8_278 in_X8_stateOf mo_X8_stateOf ⟨by decide, rfl⟩ ⟨by decide, by decide⟩ (Nat.le_of_ble_eq_true rfl) k_b0 (mSI_mono K0 (fun r_6 y_5 K0 => ?_))
      refine r_istore_n (pc := 25) dX8_fly_25 (by decide) ?_
      refine r_iload_n (pc := 26) (L := [some (.ref b0), some (.int l1), some (.int l2), some (.int r_6)]) dX8_fly_26 rfl ?_
      refine r_iconst (pc := 27) (v := 2) dX8_fly_27 (by decide) ?_
      refine r_icmp_eq (pc := 28) (tgt := 36) dX8_fly_28 (by decide) (fun q => ?_) (fun q => ?_)
      · have K0 := K0.1 q
        refine r_aload_n (pc := 36) dX8_fly_36 rfl ?_
        refine r_iload_n (pc := 37) dX8_fly_37 rfl ?_
        obtain ⟨g_8, K0⟩ := K0
        obtain ⟨i_9, K0⟩ := K0
        refine s_VI (pc := 38) mX8_isComing (ci := 8) (a := b0) (As := [.int l2]) dX8_fly_38 lk_X8_363 in_X8_isComing mo_X8_isComing ⟨by decide, rfl⟩ ⟨by decide, by decide⟩ (Nat.le_of_ble_eq_true rfl) k_b0 (sp_X8_isComing k_b0 g_8 k_b0_1 i_9 ?_)
        refine r_if_ne (pc := 41) (tgt := 47) dX8_fly_41 (by decide) (fun q => ?_) (fun q => ?_)
        · have q := b2i_nz q
          have K0 := K0.1 q
          refine r_aload_n (pc := 47) dX8_fly_47 rfl ?_
          refine s_VV (pc := 48) mX8_keeps (ci := 8) (a := b0) (As := []) dX8_fly_48 lk_X8_366 in_X8_keeps mo_X8_keeps ⟨by decide, rfl⟩ ⟨by decide, by decide⟩ (Nat.le_of_ble_eq_true rfl) k_b0 (mSV_mono K0 (fun y_11 K0 => ?_))
          refine r_aload_n (pc := 51) dX8_fly_51 rfl ?_
          refine r_iload_n (pc := 52) dX8_fly_52 rfl ?_
          refine r_iconst (pc := 53) (v := 1) dX8_fly_53 (by decide) ?_
          refine r_iload_n (pc := 54) dX8_fly_54 rfl ?_
          refine r_ishl (pc := 55) dX8_fly_55 ?_
          refine r_iload_n (pc := 56) dX8_fly_56 rfl ?_
          refine r_iconst (pc := 57) (v := 0) dX8_fly_57 (by decide) ?_
          refine s_VV (pc := 58) mX8_goes (ci := 8) (a := b0) (As := [.int l1, .int (1 <<< (l2 &&& 31)), .int r_6, .int 0]) dX8_fly_58 lk_X8_369 in_X8_goes mo_X8_goes ⟨by decide, rfl⟩ ⟨by decide, by decide⟩ (Nat.le_of_ble_eq_true rfl) k_b0 (mSV_mono K0 (fun y_12 K0 => ?_))
          refine r_iload_n (pc := 61) dX8_fly_61 rfl ?_
          exact s_iret rfl dX8_fly_62 K0
        · have q := (b2i_z _).mp q
          have K0 := K0.2 q
          refine r_bipush (pc := 44) (v := (-6)) dX8_fly_44 (by decide) ?_
          exact s_iret rfl dX8_fly_46 K0
      · have K0 := K0.2 q
        refine r_iload_n (pc := 31) dX8_fly_31 rfl ?_
        refine r_iconst (pc := 32) (v := 3) dX8_fly_32 (by decide) ?_
        refine r_icmp_ne (pc := 33) (tgt := 44) dX8_fly_33 (by decide) (fun q => ?_) (fun q => ?_)
        · have K0 := K0.1 q
          refine r_bipush (pc := 44) (v := (-6)) dX8_fly_44 (by decide) ?_
          exact s_iret rfl dX8_fly_46 K0
        · have K0 := K0.2 q
          refine r_aload_n (pc := 36) dX8_fly_36 rfl ?_
          refine r_iload_n (pc := 37) dX8_fly_37 rfl ?_
          obtain ⟨g_14, K0⟩ := K0
          obtain ⟨i_15, K0⟩ := K0
          refine s_VI (pc := 38) mX8_isComing (ci := 8) (a := b0) (As := [.int l2]) dX8_fly_38 lk_X8_363 in_X8_isComing mo_X8_isComing ⟨by decide, rfl⟩ ⟨by decide, by decide⟩ (Nat.le_of_ble_eq_true rfl) k_b0 (sp_X8_isComing k_b0 g_14 k_b0_1 i_15 ?_)
          refine r_if_ne (pc := 41) (tgt := 47) dX8_fly_41 (by decide) (fun q => ?_) (fun q => ?_)
          · have q := b2i_nz q
            have K0 := K0.1 q
            refine r_aload_n (pc := 47) dX8_fly_47 rfl ?_
            refine s_VV (pc := 48) mX8_keeps (ci := 8) (a := b0) (As := []) dX8_fly_48 lk_X8_366 in_X8_keeps mo_X8_keeps ⟨by decide, rfl⟩ ⟨by decide, by decide⟩ (Nat.le_of_ble_eq_true rfl) k_b0 (mSV_mono K0 (fun y_17 K0 => ?_))
            refine r_aload_n (pc := 51) dX8_fly_51 rfl ?_
            refine r_iload_n (pc := 52) dX8_fly_52 rfl ?_
            refine r_iconst (pc := 53) (v := 1) dX8_fly_53 (by decide) ?_
            refine r_iload_n (pc := 54) dX8_fly_54 rfl ?_
            refine r_ishl (pc := 55) dX8_fly_55 ?_
            refine r_iload_n (pc := 56) dX8_fly_56 rfl ?_
            refine r_iconst (pc := 57) (v := 0) dX8_fly_57 (by decide) ?_
            refine s_VV (pc := 58) mX8_goes (ci := 8) (a := b0) (As := [.int l1, .int (1 <<< (l2 &&& 31)), .int r_6, .int 0]) dX8_fly_58 lk_X8_369 in_X8_goes mo_X8_goes ⟨by decide, rfl⟩ ⟨by decide, by decide⟩ (Nat.le_of_ble_eq_true rfl) k_b0 (mSV_mono K0 (fun y_18 K0 => ?_))
            refine r_iload_n (pc := 61) dX8_fly_61 rfl ?_
            exact s_iret rfl dX8_fly_62 K0
          · have q := (b2i_z _).mp q
            have K0 := K0.2 q
            refine r_bipush (pc := 44) (v := (-6)) dX8_fly_44 (by decide) ?_
            exact s_iret rfl dX8_fly_46 K0
    · have q := (b2i_z _).mp q
      have K0 := K0.2 q
      refine r_bipush (pc := 16) (v := (-2)) dX8_fly_16 (by decide) ?_
      exact s_iret rfl dX8_fly_18 K0
section
variable {y : Cn} {Q : Int32 → Cn → Prop} {T : TT} {W C S A N n : Nat} {H : Nat → TT}
theorem sq_X8_fly {a b : Int32} (r : RS y T n H) (F : WF T W C S A N) (k1 : ¬ ((0 ≤ a ∧ a < nI S) ∧ (0 ≤ b ∧ b < nI W)) → Q (-2) y) (k2 : (0 ≤ a ∧ a < nI S) → (0 ≤ b ∧ b < nI W) → ¬ ((stt T a.toNatClampNeg b.toNatClampNeg = 2 ∨ stt T a.toNatClampNeg b.toNatClampNeg = 3) ∧ nI N ≤ b) → Q (-6) y) (k3 : (0 ≤ a ∧ a < nI S) → (0 ≤ b ∧ b < nI W) → ∀ k, k = 2 ∨ k = 3 → stt T a.toNatClampNeg b.toNatClampNeg = nI k → nI N ≤ b → ∀ z, RFr y z → RS z (goT T a.toNatClampNeg (wb b) k 0) (pn n) (push H n T) → Q (nI k) z) : mSI mX8_fly [.ref 717, .int a, .int b] KW y Q := by
  have hS : S ≤ 24 := F.2.2.2.2.2.2.1
  have hW : W ≤ 30 := F.2.2.1
  have M := r.1
  refine v_X8_fly_0 km M.1 km1 ⟨v0 (k := 2) (by decide) rfl rfl, ?_⟩
  rw [r.2.1, F.2.2.2.2.2.1, F.1, inN' (by omega), inN' (by omega)]
  refine ⟨fun z => k1 (fun u => z u.1), fun z1 => ⟨v0 (k := 0) (by decide) rfl rfl, fun z2 => ?_, fun z => k1 (fun u => z u.2)⟩⟩
  have k2 := k2 z1 z2
  have k3 := k3 z1 z2
  obtain ⟨s, hs, rfl⟩ := inN (by omega) z1
  obtain ⟨w, hw, rfl⟩ := inN (by omega) z2
  rw [nI_clamp (by omega), nI_clamp (by omega)] at k2
  rw [nI_clamp (by omega), nI_clamp (by omega)] at k3
  refine sp_X8_stateOf (by omega) (by omega) M km1 ?_
  rw [r.2.1, F.2.2.2.2.2.2.2.2.2.1]
  have go : ∀ k, k = 2 ∨ k = 3 → stt T s w = nI k → nI N ≤ nI w → mSV mX8_keeps [.ref 717] KW y (fun y_8 => mSV mX8_goes [.ref 717, .int (nI s), .int (1 <<< (nI w &&& 31)), .int (stt T s w), .int 0] KW y_8 (fun y_9 => Q (stt T s w) y_9)) := by
    intro k hk e e2
    rw [e]
    exact r.keeps (fun z f1 r1 => sp_X8_goes (o := 0) r1 (by omega) (by omega) (by decide) (by omega) (fun v f2 r2 => k3 k hk e e2 v (f1.tr f2) r2))
  refine ⟨fun u => ⟨M.1, v0 (k := 4) (by decide) rfl rfl, fun u2 => go 2 (Or.inl rfl) u u2, fun u2 => k2 (fun v => u2 v.2)⟩, fun u => ⟨fun u2 => k2 (fun v => v.1.elim u u2), fun u2 => ⟨M.1, v0 (k := 4) (by decide) rfl rfl, fun u3 => go 3 (Or.inr rfl) u2 u3, fun u3 => k2 (fun v => u3 v.2)⟩⟩⟩
/-- open weeks from one on -/
def opf (T : TT) (W s w : Nat) : Int32 := if W ≤ w then 0 else so T s 7 &&& f_span (nI w) (nI W - 1)
end
set_option maxHeartbeats 2000000 in
theorem v_X8_openFrom_0 {K : Sh} {x : Cn} {Q : Int32 → Cn → Prop} {b0 : Nat} {l1 : Int32} {l2 : Int32} {b0_1 : Nat} {n_b0_1 : Nat} {b0_3 : Nat} {n_b0_3 : Nat} (k_b0 : kk K b0 = some (8, 0)) (g_b0_1 : gr x b0 1 = some b0_1) (k_b0_1 : kk K b0_1 = some (20, n_b0_1)) (g_b0_3 : gr x b0 3 = some b0_3) (k_b0_3 : kk K b0_3 = some (20, n_b0_3)) (K0 : vp_in 0 n_b0_1 ∧ (((gi x b0_1 0) ≤ l2 → (Q 0 x)) ∧ (¬ (gi x b0_1 0) ≤ l2 → ((l24 l1 n_b0_3) ∧ (Q ((so (gi x b0_3) (l1 : Int32).toNatClampNeg 7) &&& (f_span l2 ((gi x b0_1 0) - 1))) x))))) : mSI mX8_openFrom [.ref b0, .int l1, .int l2] K x Q := by
  refine s_I (by decide) (by simp [Value.category]) (Nat.le_of_ble_eq_true rfl) ?_
  show mGM mX8_openFrom 0 [some (.ref b0), some (.int l1), some (.int l2)] [] (hp K x) (PI K Q)
  refine r_iload_n (pc := 0) dX8_openFrom_0 rfl ?_
  refine r_aload_n (pc := 1) dX8_openFrom_1 rfl ?_
  refine s_getR (pc := 2) dX8_openFrom_2 fl_X8_9 rfl k_b0 g_b0_1 ?_
  refine r_iconst (pc := 5) (v := 0) dX8_openFrom_5 (by decide) ?_
  obtain ⟨i_1, K0⟩ := K0
  refine s_iald (pc := 6) dX8_openFrom_6 k_b0_1 i_1 ?_
  refine r_icmp_ge (pc := 7) (tgt := 33) dX8_openFrom_7 (by decide) (fun q => ?_) (fun q => ?_)
  · have K0 := K0.1 q
    refine r_iconst (pc := 33) (v := 0) dX8_openFrom_33 (by decide) ?_
    exact s_iret rfl dX8_openFrom_34 K0
  · have K0 := K0.2 q
    refine r_aload_n (pc := 10) dX8_openFrom_10 rfl ?_
    refine r_iload_n (pc := 11) dX8_openFrom_11 rfl ?_
    refine r_bipush (pc := 12) (v := 7) dX8_openFrom_12 (by decide) ?_
    obtain ⟨p_3, K0⟩ := K0
    refine s_VI (pc := 14) mX8_one (ci := 8) (a := b0) (As := [.int l1, .int 7]) dX8_openFrom_14 lk_X8_67 in_X8_one mo_X8_one ⟨by decide, rfl⟩ ⟨by decide, by decide⟩ (Nat.le_of_ble_eq_true rfl) k_b0 (sr_X8_one k_b0 g_b0_3 k_b0_3 p_3 ⟨by decide, by decide⟩ ?_)
    refine r_iload_n (pc := 17) dX8_openFrom_17 rfl ?_
    refine r_aload_n (pc := 18) dX8_openFrom_18 rfl ?_
    refine s_getR (pc := 19) dX8_openFrom_19 fl_X8_9 rfl k_b0 g_b0_1 ?_
    refine r_iconst (pc := 22) (v := 0) dX8_openFrom_22 (by decide) ?_
    refine s_iald (pc := 23) dX8_openFrom_23 k_b0_1 i_1 ?_
    refine r_iconst (pc := 24) (v := 1) dX8_openFrom_24 (by decide) ?_
    refine r_isub (pc := 25) dX8_openFrom_25 ?_
    refine s_SI (pc := 26) mX8_span (As := [.int l2, .int ((gi x b0_1 0) - 1)]) dX8_openFrom_26 lk_X8_79 st_X8_span mo_X8_span ⟨by decide, by decide⟩ (Nat.le_of_ble_eq_true rfl) (sp_X8_span  ?_)
    refine r_iand (pc := 29) dX8_openFrom_29 ?_
    refine r_goto (pc := 30) (tgt := 34) dX8_openFrom_30 (by decide) ?_
    exact s_iret rfl dX8_openFrom_34 K0
section
variable {y : Cn} {Q : Int32 → Cn → Prop} {T : TT} {W C S A N n : Nat} {H : Nat → TT}
theorem sp_X8_openFrom {s w : Nat} (r : RS y T n H) (F : WF T W C S A N) (hs : s < 24) (hw : w < 100) (k : Q (opf T W s w) y) : mSI mX8_openFrom [.ref 717, .int (nI s), .int (nI w)] KW y Q := by
  have hW : W ≤ 30 := F.2.2.1
  have M := r.1
  refine v_X8_openFrom_0 km M.1 km1 M.2.2.1 km1 ⟨v0 (k := 0) (by decide) rfl rfl, ?_⟩
  rw [r.2.1, F.1, nI_leI (by omega) (by omega), nI_clamp (by omega)]
  unfold opf at k
  exact ⟨fun z => by rwa [if_pos z] at k, fun z => ⟨l24_nI hs rfl, by rwa [if_neg z] at k⟩⟩
theorem opf_eq {s w : Nat} (g : Wse T C W s) (hW : W ≤ 30) (hw : w < 100) : opf T W s w = so T s 7 &&& f_bf (nI w) := by
  have g8 := g.2.2.2.2.2.2.2
  unfold opf
  by_cases c : W ≤ w
  · rw [if_pos c]
    by_cases d : w ≤ 30
    · apply tb_ext
      intro i hi
      rw [tb_0, tb_and, tb_bf0 w (by omega) i hi]
      cases e : tb (so T s 7) i with
      | false => rfl
      | true =>
        have := g8 i 0 (by decide) e
        rw [decide_eq_false (by omega)]; rfl
    · unfold f_bf
      rw [if_neg (show ¬ nI w ≤ 30 from nI_ge (a := 30) (b := w) (by omega) (by omega))]
      exact (Int32.and_zero).symm
  · rw [if_neg c]
    apply tb_ext
    intro i hi
    rw [tb_and, tb_and, tb_bf0 w (by omega) i hi, tb_fn hW (by omega) hi (by omega)]
    cases e : tb (so T s 7) i with
    | false => rfl
    | true =>
      have := g8 i 0 (by decide) e
      rw [Bool.true_and, Bool.true_and]
      apply decide_eq_decide.mpr
      omega
end
set_option maxHeartbeats 2000000 in
theorem v_X7_back_0 {K : Sh} {x : Cn} {Q : Int32 → Cn → Prop} {b0 : Nat} {l1 : Int32} {l2 : Int32} {b0_2 : Nat} {b0_2_7 : Nat} {n_b0_2_7 : Nat} (k_b0 : kk K b0 = some (7, 0)) (g_b0_2 : gr x b0 2 = some b0_2) (k_b0_2 : kk K b0_2 = some (4, 0)) (g_b0_2_7 : gr x b0_2 7 = some b0_2_7) (k_b0_2_7 : kk K b0_2_7 = some (23, n_b0_2_7)) (K0 : (¬ (0 ≤ l1 ∧ l1 < gi x b0_2 3) → (Q (-2) x)) ∧ ((0 ≤ l1 ∧ l1 < gi x b0_2 3) → (((0 ≤ l2 ∧ l2 < gi x b0_2 0) → ((((gi x b0_2 1) + 4) ≤ l2 → (vp_in l1 n_b0_2_7 ∧ (∃ c_5 : Nat, gr x b0_2_7 ((l1 : Int32).toNatClampNeg) = some c_5 ∧ (kk K c_5 = some (5, 0) ∧ ((((f_open x c_5) &&& (f_bf l2)) = 0 → (Q (nI (cpt ((f_open x c_5) &&& (f_bf l2)))) x)) ∧ (¬ ((f_open x c_5) &&& (f_bf l2)) = 0 → (mSV mX7_remember [.ref b0] K x (fun y_9 => Q (nI (cpt ((f_open x c_5) &&& (f_bf l2)))) (ui y_9 c_5 11 ((gi y_9 c_5 11) ||| ((f_open x c_5) &&& (f_bf l2)))))))))))) ∧ (¬ ((gi x b0_2 1) + 4) ≤ l2 → (Q (-6) x)))) ∧ (¬ (0 ≤ l2 ∧ l2 < gi x b0_2 0) → (Q (-2) x))))) : mSI mX7_back [.ref b0, .int l1, .int l2] K x Q := by
  refine s_I (by decide) (by simp [Value.category]) (Nat.le_of_ble_eq_true rfl) ?_
  show mGM mX7_back 0 [some (.ref b0), some (.int l1), some (.int l2), none, none] [] (hp K x) (PI K Q)
  refine r_aload_n (pc := 0) dX7_back_0 rfl ?_
  refine r_iload_n (pc := 1) dX7_back_1 rfl ?_
  refine s_VI (pc := 2) mX7_isSeries (ci := 7) (a := b0) (As := [.int l1]) dX7_back_2 lk_X7_132 in_X7_isSeries mo_X7_isSeries ⟨by decide, rfl⟩ ⟨by decide, by decide⟩ (Nat.le_of_ble_eq_true rfl) k_b0 (sp_X7_isSeries k_b0 g_b0_2 k_b0_2 ?_)
  refine r_if_eq (pc := 5) (tgt := 16) dX7_back_5 (by decide) (fun q => ?_) (fun q => ?_)
  · have q := (b2i_z _).mp q
    have K0 := K0.1 q
    refine r_bipush (pc := 16) (v := (-2)) dX7_back_16 (by decide) ?_
    exact s_iret rfl dX7_back_18 K0
  · have q := b2i_nz q
    have K0 := K0.2 q
    refine r_aload_n (pc := 8) dX7_back_8 rfl ?_
    refine r_iload_n (pc := 9) dX7_back_9 rfl ?_
    refine s_VI (pc := 10) mX7_isWeek (ci := 7) (a := b0) (As := [.int l2]) dX7_back_10 lk_X7_167 in_X7_isWeek mo_X7_isWeek ⟨by decide, rfl⟩ ⟨by decide, by decide⟩ (Nat.le_of_ble_eq_true rfl) k_b0 (sp_X7_isWeek k_b0 g_b0_2 k_b0_2 ?_)
    refine r_if_ne (pc := 13) (tgt := 19) dX7_back_13 (by decide) (fun q => ?_) (fun q => ?_)
    · have q := b2i_nz q
      have K0 := K0.1 q
      refine r_iload_n (pc := 19) dX7_back_19 rfl ?_
      refine r_aload_n (pc := 20) dX7_back_20 rfl ?_
      refine s_getR (pc := 21) dX7_back_21 fl_X7_20 rfl k_b0 g_b0_2 ?_
      refine s_getI (pc := 24) dX7_back_24 fl_X7_103 rfl k_b0_2 ?_
      refine r_iconst (pc := 27) (v := 4) dX7_back_27 (by decide) ?_
      refine r_iadd (pc := 28) dX7_back_28 ?_
      refine r_icmp_ge (pc := 29) (tgt := 35) dX7_back_29 (by decide) (fun q => ?_) (fun q => ?_)
      · have K0 := K0.1 q
        refine r_aload_n (pc := 35) dX7_back_35 rfl ?_
        refine s_getR (pc := 36) dX7_back_36 fl_X7_20 rfl k_b0 g_b0_2 ?_
        refine s_getR (pc := 39) dX7_back_39 fl_X7_135 rfl k_b0_2 g_b0_2_7 ?_
        refine r_iload_n (pc := 42) dX7_back_42 rfl ?_
        obtain ⟨i_4, K0⟩ := K0
        obtain ⟨c_5, g_6, K0⟩ := K0
        refine s_aald (pc := 43) dX7_back_43 (by decide) rfl k_b0_2_7 i_4 g_6 ?_
        refine r_astore_n (pc := 44) dX7_back_44 (by decide) ?_
        refine r_aload_n (pc := 45) (L := [some (.ref b0), some (.int l1), some (.int l2), some (.ref c_5), none]) dX7_back_45 rfl ?_
        obtain ⟨e_7, K0⟩ := K0
        refine s_VI (pc := 46) mX5_openBits (ci := 5) (a := c_5) (As := []) dX7_back_46 lk_X7_339 in_X5_openBits mo_X5_openBits ⟨by decide, rfl⟩ ⟨by decide, by decide⟩ (Nat.le_of_ble_eq_true rfl) e_7 (sp_X5_openBits e_7 ?_)
        refine r_iload_n (pc := 49) dX7_back_49 rfl ?_
        refine s_SI (pc := 50) mX7_bitsFrom (As := [.int l2]) dX7_back_50 lk_X7_342 st_X7_bitsFrom mo_X7_bitsFrom ⟨by decide, by decide⟩ (Nat.le_of_ble_eq_true rfl) (sp_X7_bitsFrom  ?_)
        refine r_iand (pc := 53) dX7_back_53 ?_
        refine r_istore (pc := 54) dX7_back_54 (by decide) ?_
        refine r_iload (pc := 56) (L := [some (.ref b0), some (.int l1), some (.int l2), some (.ref c_5), some (.int ((f_open x c_5) &&& (f_bf l2)))]) dX7_back_56 rfl ?_
        refine r_if_eq (pc := 58) (tgt := 76) dX7_back_58 (by decide) (fun q => ?_) (fun q => ?_)
        · have K0 := K0.1 q
          refine r_iload (pc := 76) dX7_back_76 rfl ?_
          refine s_SI (pc := 78) mJ6_bitCount_0f7a4 (As := [.int ((f_open x c_5) &&& (f_bf l2))]) dX7_back_78 lk_X7_255 st_J6_bitCount_0f7a4 mo_J6_bitCount_0f7a4 ⟨by decide, by decide⟩ (Nat.le_of_ble_eq_true rfl) (sp_bc  ?_)
          exact s_iret rfl dX7_back_81 K0
        · have K0 := K0.2 q
          refine r_aload_n (pc := 61) dX7_back_61 rfl ?_
          refine s_VV (pc := 62) mX7_remember (ci := 7) (a := b0) (As := []) dX7_back_62 lk_X7_333 in_X7_remember mo_X7_remember ⟨by decide, rfl⟩ ⟨by decide, by decide⟩ (Nat.le_of_ble_eq_true rfl) k_b0 (mSV_mono K0 (fun y_9 K0 => ?_))
          refine r_aload_n (pc := 65) dX7_back_65 rfl ?_
          refine r_dup (pc := 66) dX7_back_66 rfl ?_
          refine s_getI (pc := 67) dX7_back_67 fl_X7_345 rfl e_7 ?_
          refine r_iload (pc := 70) dX7_back_70 rfl ?_
          refine r_ior (pc := 72) dX7_back_72 ?_
          refine s_putI (pc := 73) dX7_back_73 fl_X7_345 rfl rfl e_7 ?_
          refine r_iload (pc := 76) dX7_back_76 rfl ?_
          refine s_SI (pc := 78) mJ6_bitCount_0f7a4 (As := [.int ((f_open x c_5) &&& (f_bf l2))]) dX7_back_78 lk_X7_255 st_J6_bitCount_0f7a4 mo_J6_bitCount_0f7a4 ⟨by decide, by decide⟩ (Nat.le_of_ble_eq_true rfl) (sp_bc  ?_)
          exact s_iret rfl dX7_back_81 K0
      · have K0 := K0.2 q
        refine r_bipush (pc := 32) (v := (-6)) dX7_back_32 (by decide) ?_
        exact s_iret rfl dX7_back_34 K0
    · have q := (b2i_z _).mp q
      have K0 := K0.2 q
      refine r_bipush (pc := 16) (v := (-2)) dX7_back_16 (by decide) ?_
      exact s_iret rfl dX7_back_18 K0

/-- the hour at which one is granted: c says where there is room -/
noncomputable def stH (c : Nat → Prop) (h : Nat) : Nat → Unit → Unit ⊕ Int32 := fun d _ => if d ≤ h ∧ ¬ bP (c (h - d)) = 0 then .inr (nI (h - d)) else if h + d < 24 ∧ ¬ bP (c (h + d)) = 0 then .inr (nI (h + d)) else .inl ()
noncomputable def hrF (T : TT) (S N a : Nat) : Int32 := if (ao T a 5).toNatClampNeg < N ∨ S = 24 then -1 else lpR (stH (fun h => fitA T S N a h 0) (ao T a 2).toNatClampNeg) (fun _ => -1) ((ao T a 6).toNatClampNeg + 1) 0 ()
set_option maxHeartbeats 2000000 in
theorem v_X4_hourFor_0 {K : Sh} {x : Cn} {Q : Int32 → Cn → Prop} {b0 : Nat} {b1 : Nat}  (k_b0 : kk K b0 = some (4, 0)) (k_b1 : kk K b1 = some (0, 0)) (K0 : (24 ≤ (gi x b0 3) → (Q (-1) x)) ∧ (¬ 24 ≤ (gi x b0 3) → (((gi x b0 1) ≤ (gi x b1 5) → (mSI mX4_hasPlace [.ref b0, .int (gi x b1 1), .int (gi x b1 2), .int (gi x b1 3), .int (f_sb (gi x b1 4) (gi x b1 5)), .int 0] K x (fun r_4 y_3 => (r_4 = 0 → (GI mX4_hourFor 55 [some (.ref b0), some (.ref b1), some (.int (f_sb (gi x b1 4) (gi x b1 5))), some (.int 1), none, none] [] K y_3 Q)) ∧ (¬ r_4 = 0 → (Q (gi y_3 b1 2) y_3))))) ∧ (¬ (gi x b0 1) ≤ (gi x b1 5) → (Q (-1) x))))) : mSI mX4_hourFor [.ref b0, .ref b1] K x Q := by
  refine s_I (by decide) (by simp [Value.category]) (Nat.le_of_ble_eq_true rfl) ?_
  show mGM mX4_hourFor 0 [some (.ref b0), some (.ref b1), none, none, none, none] [] (hp K x) (PI K Q)
  refine r_aload_n (pc := 0) dX4_hourFor_0 rfl ?_
  refine s_getI (pc := 1) dX4_hourFor_1 fl_X4_21 rfl k_b0 ?_
  refine r_bipush (pc := 4) (v := 24) dX4_hourFor_4 (by decide) ?_
  refine r_icmp_ge (pc := 6) (tgt := 20) dX4_hourFor_6 (by decide) (fun q => ?_) (fun q => ?_)
  · have K0 := K0.1 q
    refine r_iconst (pc := 20) (v := (-1)) dX4_hourFor_20 (by decide) ?_
    exact s_iret rfl dX4_hourFor_21 K0
  · have K0 := K0.2 q
    refine r_aload_n (pc := 9) dX4_hourFor_9 rfl ?_
    refine s_getI (pc := 10) dX4_hourFor_10 fl_X4_109 rfl k_b1 ?_
    refine r_aload_n (pc := 13) dX4_hourFor_13 rfl ?_
    refine s_getI (pc := 14) dX4_hourFor_14 fl_X4_15 rfl k_b0 ?_
    refine r_icmp_ge (pc := 17) (tgt := 22) dX4_hourFor_17 (by decide) (fun q => ?_) (fun q => ?_)
    · have K0 := K0.1 q
      refine r_aload_n (pc := 22) dX4_hourFor_22 rfl ?_
      refine s_VI (pc := 23) mX0_wantedBits (ci := 0) (a := b1) (As := []) dX4_hourFor_23 lk_X4_102 in_X0_wantedBits mo_X0_wantedBits ⟨by decide, rfl⟩ ⟨by decide, by decide⟩ (Nat.le_of_ble_eq_true rfl) k_b1 (sp_X0_wantedBits k_b1 ?_)
      refine r_istore_n (pc := 26) dX4_hourFor_26 (by decide) ?_
      refine r_aload_n (pc := 27) (L := [some (.ref b0), some (.ref b1), some (.int (f_sb (gi x b1 4) (gi x b1 5))), none, none, none]) dX4_hourFor_27 rfl ?_
      refine r_aload_n (pc := 28) dX4_hourFor_28 rfl ?_
      refine s_getI (pc := 29) dX4_hourFor_29 fl_X4_100 rfl k_b1 ?_
      refine r_aload_n (pc := 32) dX4_hourFor_32 rfl ?_
      refine s_getI (pc := 33) dX4_hourFor_33 fl_X4_112 rfl k_b1 ?_
      refine r_aload_n (pc := 36) dX4_hourFor_36 rfl ?_
      refine s_getI (pc := 37) dX4_hourFor_37 fl_X4_101 rfl k_b1 ?_
      refine r_iload_n (pc := 40) dX4_hourFor_40 rfl ?_
      refine r_iconst (pc := 41) (v := 0) dX4_hourFor_41 (by decide) ?_
      refine s_VI (pc := 42) mX4_hasPlace (ci := 4) (a := b0) (As := [.int (gi x b1 1), .int (gi x b1 2), .int (gi x b1 3), .int (f_sb (gi x b1 4) (gi x b1 5)), .int 0]) dX4_hourFor_42 lk_X4_105 in_X4_hasPlace mo_X4_hasPlace ⟨by decide, rfl⟩ ⟨by decide, by decide⟩ (Nat.le_of_ble_eq_true rfl) k_b0 (mSI_mono K0 (fun r_4 y_3 K0 => ?_))
      refine r_if_eq (pc := 45) (tgt := 53) dX4_hourFor_45 (by decide) (fun q => ?_) (fun q => ?_)
      · have K0 := K0.1 q
        refine r_iconst (pc := 53) (v := 1) dX4_hourFor_53 (by decide) ?_
        refine r_istore_n (pc := 54) dX4_hourFor_54 (by decide) ?_
        exact r_le (L' := [some (.ref b0), some (.ref b1), some (.int (f_sb (gi x b1 4) (gi x b1 5))), some (.int 1), none, none]) ⟨rfl, ⟨rfl, ⟨rfl, ⟨rfl, trivial⟩⟩⟩⟩ K0
      · have K0 := K0.2 q
        refine r_aload_n (pc := 48) dX4_hourFor_48 rfl ?_
        refine s_getI (pc := 49) dX4_hourFor_49 fl_X4_112 rfl k_b1 ?_
        exact s_iret rfl dX4_hourFor_52 K0
    · have K0 := K0.2 q
      refine r_iconst (pc := 20) (v := (-1)) dX4_hourFor_20 (by decide) ?_
      exact s_iret rfl dX4_hourFor_21 K0
set_option maxHeartbeats 2000000 in
theorem v_X4_hourFor_55 {K : Sh} {x : Cn} {Q : Int32 → Cn → Prop} {b0 : Nat} {b1 : Nat} {l2 : Int32} {l3 : Int32}  (k_b1 : kk K b1 = some (0, 0)) (k_b0 : kk K b0 = some (4, 0)) (K0 : ((gi x b1 6) < l3 → (Q (-1) x)) ∧ (¬ (gi x b1 6) < l3 → ((((gi x b1 2) - l3) < 0 → ((24 ≤ ((gi x b1 2) + l3) → (GI mX4_hourFor 55 [some (.ref b0), some (.ref b1), some (.int l2), some (.int (l3 + 1)), none, none] [] K x Q)) ∧ (¬ 24 ≤ ((gi x b1 2) + l3) → (mSI mX4_hasPlace [.ref b0, .int (gi x b1 1), .int ((gi x b1 2) + l3), .int (gi x b1 3), .int l2, .int 0] K x (fun r_5 y_4 => (r_5 = 0 → (GI mX4_hourFor 55 [some (.ref b0), some (.ref b1), some (.int l2), some (.int (l3 + 1)), none, none] [] K y_4 Q)) ∧ (¬ r_5 = 0 → (Q ((gi x b1 2) + l3) y_4))))))) ∧ (¬ ((gi x b1 2) - l3) < 0 → (mSI mX4_hasPlace [.ref b0, .int (gi x b1 1), .int ((gi x b1 2) - l3), .int (gi x b1 3), .int l2, .int 0] K x (fun r_8 y_7 => (r_8 = 0 → ((24 ≤ ((gi y_7 b1 2) + l3) → (GI mX4_hourFor 55 [some (.ref b0), some (.ref b1), some (.int l2), some (.int (l3 + 1)), none, none] [] K y_7 Q)) ∧ (¬ 24 ≤ ((gi y_7 b1 2) + l3) → (mSI mX4_hasPlace [.ref b0, .int (gi y_7 b1 1), .int ((gi y_7 b1 2) + l3), .int (gi y_7 b1 3), .int l2, .int 0] K y_7 (fun r_12 y_11 => (r_12 = 0 → (GI mX4_hourFor 55 [some (.ref b0), some (.ref b1), some (.int l2), some (.int (l3 + 1)), none, none] [] K y_11 Q)) ∧ (¬ r_12 = 0 → (Q ((gi y_7 b1 2) + l3) y_11))))))) ∧ (¬ r_8 = 0 → (Q ((gi x b1 2) - l3) y_7)))))))) : GI mX4_hourFor 55 [some (.ref b0), some (.ref b1), some (.int l2), some (.int l3), none, none] [] K x Q := by
  show mGM mX4_hourFor 55 [some (.ref b0), some (.ref b1), some (.int l2), some (.int l3), none, none] [] (hp K x) (PI K Q)
  refine r_iload_n (pc := 55) dX4_hourFor_55 rfl ?_
  refine r_aload_n (pc := 56) dX4_hourFor_56 rfl ?_
  refine s_getI (pc := 57) dX4_hourFor_57 fl_X4_113 rfl k_b1 ?_
  refine r_icmp_gt (pc := 60) (tgt := 141) dX4_hourFor_60 (by decide) (fun q => ?_) (fun q => ?_)
  · have K0 := K0.1 q
    refine r_iconst (pc := 141) (v := (-1)) dX4_hourFor_141 (by decide) ?_
    exact s_iret rfl dX4_hourFor_142 K0
  · have K0 := K0.2 q
    refine r_aload_n (pc := 63) dX4_hourFor_63 rfl ?_
    refine s_getI (pc := 64) dX4_hourFor_64 fl_X4_112 rfl k_b1 ?_
    refine r_iload_n (pc := 67) dX4_hourFor_67 rfl ?_
    refine r_isub (pc := 68) dX4_hourFor_68 ?_
    refine r_istore (pc := 69) dX4_hourFor_69 (by decide) ?_
    refine r_iload (pc := 71) (L := [some (.ref b0), some (.ref b1), some (.int l2), some (.int l3), some (.int ((gi x b1 2) - l3)), none]) dX4_hourFor_71 rfl ?_
    refine r_if_lt (pc := 73) (tgt := 98) dX4_hourFor_73 (by decide) (fun q => ?_) (fun q => ?_)
    · have K0 := K0.1 q
      refine r_aload_n (pc := 98) dX4_hourFor_98 rfl ?_
      refine s_getI (pc := 99) dX4_hourFor_99 fl_X4_112 rfl k_b1 ?_
      refine r_iload_n (pc := 102) dX4_hourFor_102 rfl ?_
      refine r_iadd (pc := 103) dX4_hourFor_103 ?_
      refine r_istore (pc := 104) dX4_hourFor_104 (by decide) ?_
      refine r_iload (pc := 106) (L := [some (.ref b0), some (.ref b1), some (.int l2), some (.int l3), some (.int ((gi x b1 2) - l3)), some (.int ((gi x b1 2) + l3))]) dX4_hourFor_106 rfl ?_
      refine r_bipush (pc := 108) (v := 24) dX4_hourFor_108 (by decide) ?_
      refine r_icmp_ge (pc := 110) (tgt := 135) dX4_hourFor_110 (by decide) (fun q => ?_) (fun q => ?_)
      · have K0 := K0.1 q
        refine r_iinc (pc := 135) (v := l3 + 1) dX4_hourFor_135 rfl rfl (by decide) ?_
        refine r_goto (pc := 138) (L := [some (.ref b0), some (.ref b1), some (.int l2), some (.int (l3 + 1)), some (.int ((gi x b1 2) - l3)), some (.int ((gi x b1 2) + l3))]) (tgt := 55) dX4_hourFor_138 (by decide) ?_
        exact r_le (L' := [some (.ref b0), some (.ref b1), some (.int l2), some (.int (l3 + 1)), none, none]) ⟨rfl, ⟨rfl, ⟨rfl, ⟨rfl, trivial⟩⟩⟩⟩ K0
      · have K0 := K0.2 q
        refine r_aload_n (pc := 113) dX4_hourFor_113 rfl ?_
        refine r_aload_n (pc := 114) dX4_hourFor_114 rfl ?_
        refine s_getI (pc := 115) dX4_hourFor_115 fl_X4_100 rfl k_b1 ?_
        refine r_iload (pc := 118) dX4_hourFor_118 rfl ?_
        refine r_aload_n (pc := 120) dX4_hourFor_120 rfl ?_
        refine s_getI (pc := 121) dX4_hourFor_121 fl_X4_101 rfl k_b1 ?_
        refine r_iload_n (pc := 124) dX4_hourFor_124 rfl ?_
        refine r_iconst (pc := 125) (v := 0) dX4_hourFor_125 (by decide) ?_
        refine s_VI (pc := 126) mX4_hasPlace (ci := 4) (a := b0) (As := [.int (gi x b1 1), .int ((gi x b1 2) + l3), .int (gi x b1 3), .int l2, .int 0]) dX4_hourFor_126 lk_X4_105 in_X4_hasPlace mo_X4_hasPlace ⟨by decide, rfl⟩ ⟨by decide, by decide⟩ (Nat.le_of_ble_eq_true rfl) k_b0 (mSI_mono K0 (fun r_5 y_4 K0 => ?_))
        refine r_if_eq (pc := 129) (tgt := 135) dX4_hourFor_129 (by decide) (fun q => ?_) (fun q => ?_)
        · have K0 := K0.1 q
          refine r_iinc (pc := 135) (v := l3 + 1) dX4_hourFor_135 rfl rfl (by decide) ?_
          refine r_goto (pc := 138) (L := [some (.ref b0), some (.ref b1), some (.int l2), some (.int (l3 + 1)), some (.int ((gi x b1 2) - l3)), some (.int ((gi x b1 2) + l3))]) (tgt := 55) dX4_hourFor_138 (by decide) ?_
          exact r_le (L' := [some (.ref b0), some (.ref b1), some (.int l2), some (.int (l3 + 1)), none, none]) ⟨rfl, ⟨rfl, ⟨rfl, ⟨rfl, trivial⟩⟩⟩⟩ K0
        · have K0 := K0.2 q
          refine r_iload (pc := 132) dX4_hourFor_132 rfl ?_
          exact s_iret rfl dX4_hourFor_134 K0
    · have K0 := K0.2 q
      refine r_aload_n (pc := 76) dX4_hourFor_76 rfl ?_
      refine r_aload_n (pc := 77) dX4_hourFor_77 rfl ?_
      refine s_getI (pc := 78) dX4_hourFor_78 fl_X4_100 rfl k_b1 ?_
      refine r_iload (pc := 81) dX4_hourFor_81 rfl ?_
      refine r_aload_n (pc := 83) dX4_hourFor_83 rfl ?_
      refine s_getI (pc := 84) dX4_hourFor_84 fl_X4_101 rfl k_b1 ?_
      refine r_iload_n (pc := 87) dX4_hourFor_87 rfl ?_
      refine r_iconst (pc := 88) (v := 0) dX4_hourFor_88 (by decide) ?_
      refine s_VI (pc := 89) mX4_hasPlace (ci := 4) (a := b0) (As := [.int (gi x b1 1), .int ((gi x b1 2) - l3), .int (gi x b1 3), .int l2, .int 0]) dX4_hourFor_89 lk_X4_105 in_X4_hasPlace mo_X4_hasPlace ⟨by decide, rfl⟩ ⟨by decide, by decide⟩ (Nat.le_of_ble_eq_true rfl) k_b0 (mSI_mono K0 (fun r_8 y_7 K0 => ?_))
      refine r_if_eq (pc := 92) (tgt := 98) dX4_hourFor_92 (by decide) (fun q => ?_) (fun q => ?_)
      · have K0 := K0.1 q
        refine r_aload_n (pc := 98) dX4_hourFor_98 rfl ?_
        refine s_getI (pc := 99) dX4_hourFor_99 fl_X4_112 rfl k_b1 ?_
        refine r_iload_n (pc := 102) dX4_hourFor_102 rfl ?_
        refine r_iadd (pc := 103) dX4_hourFor_103 ?_
        refine r_istore (pc := 104) dX4_hourFor_104 (by decide) ?_
        refine r_iload (pc := 106) (L := [some (.ref b0), some (.ref b1), some (.int l2), some (.int l3), some (.int ((gi x b1 2) - l3)), some (.int ((gi y_7 b1 2) + l3))]) dX4_hourFor_106 rfl ?_
        refine r_bipush (pc := 108) (v := 24) dX4_hourFor_108 (by decide) ?_
        refine r_icmp_ge (pc := 110) (tgt := 135) dX4_hourFor_110 (by decide) (fun q => ?_) (fun q => ?_)
        · have K0 := K0.1 q
          refine r_iinc (pc := 135) (v := l3 + 1) dX4_hourFor_135 rfl rfl (by decide) ?_
          refine r_goto (pc := 138) (L := [some (.ref b0), some (.ref b1), some (.int l2), some (.int (l3 + 1)), some (.int ((gi x b1 2) - l3)), some (.int ((gi y_7 b1 2) + l3))]) (tgt := 55) dX4_hourFor_138 (by decide) ?_
          exact r_le (L' := [some (.ref b0), some (.ref b1), some (.int l2), some (.int (l3 + 1)), none, none]) ⟨rfl, ⟨rfl, ⟨rfl, ⟨rfl, trivial⟩⟩⟩⟩ K0
        · have K0 := K0.2 q
          refine r_aload_n (pc := 113) dX4_hourFor_113 rfl ?_
          refine r_aload_n (pc := 114) dX4_hourFor_114 rfl ?_
          refine s_getI (pc := 115) dX4_hourFor_115 fl_X4_100 rfl k_b1 ?_
          refine r_iload (pc := 118) dX4_hourFor_118 rfl ?_
          refine r_aload_n (pc := 120) dX4_hourFor_120 rfl ?_
          refine s_getI (pc := 121) dX4_hourFor_121 fl_X4_101 rfl k_b1 ?_
          refine r_iload_n (pc := 124) dX4_hourFor_124 rfl ?_
          refine r_iconst (pc := 125) (v := 0) dX4_hourFor_125 (by decide) ?_
          refine s_VI (pc := 126) mX4_hasPlace (ci := 4) (a := b0) (As := [.int (gi y_7 b1 1), .int ((gi y_7 b1 2) + l3), .int (gi y_7 b1 3), .int l2, .int 0]) dX4_hourFor_126 lk_X4_105 in_X4_hasPlace mo_X4_hasPlace ⟨by decide, rfl⟩ ⟨by decide, by decide⟩ (Nat.le_of_ble_eq_true rfl) k_b0 (mSI_mono K0 (fun r_12 y_11 K0 => ?_))
          refine r_if_eq (pc := 129) (tgt := 135) dX4_hourFor_129 (by decide) (fun q => ?_) (fun q => ?_)
          · have K0 := K0.1 q
            refine r_iinc (pc := 135) (v := l3 + 1) dX4_hourFor_135 rfl rfl (by decide) ?_
            refine r_goto (pc := 138) (L := [some (.ref b0), some (.ref b1), some (.int l2), some (.int (l3 + 1)), some (.int ((gi x b1 2) - l3)), some (.int ((gi y_7 b1 2) + l3))]) (tgt := 55) dX4_hourFor_138 (by decide) ?_
            exact r_le (L' := [some (.ref b0), some (.ref b1), some (.int l2), some (.int (l3 + 1)), none, none]) ⟨rfl, ⟨rfl, ⟨rfl, ⟨rfl, trivial⟩⟩⟩⟩ K0
          · have K0 := K0.2 q
            refine r_iload (pc := 132) dX4_hourFor_132 rfl ?_
            exact s_iret rfl dX4_hourFor_134 K0
      · have K0 := K0.2 q
        refine r_iload (pc := 95) dX4_hourFor_95 rfl ?_
        exact s_iret rfl dX4_hourFor_97 K0
section
variable {x : Cn} {Q : Int32 → Cn → Prop}
theorem sp_X4_hourFor {q : Nat} {T : TT} {W C S A N : Nat} (E : SEA x q T W C S A N) {a p : Nat} (ha : a < A) (hg : gr x (q + 4) a = some p) (k : ∀ y, EQx x y (q + 5) → Q (hrF T S N a) y) : mSI mX4_hourFor [.ref q, .ref p] KW x Q := by
  have hn := E.nums
  have hA : A ≤ 24 := hn.2.2.2.2.2.2.2.1
  have hS : S ≤ 24 := hn.2.2.2.2.2.2.1
  obtain ⟨p', e1, e2, e3, ⟨-, -, ⟨h, h1, h2⟩, -, ⟨f, l, f1, f2, f3, f4⟩, ⟨b, b1, b2⟩⟩⟩ := E.ask ha
  have epp : p' = p := Option.some.inj (e1.symm.trans hg)
  subst epp
  have hW : W ≤ 30 := hn.2.2.2.2.1
  have hN : N ≤ W := hn.2.2.2.2.2.2.2.2
  have ep : ∀ y, EQx x y (q + 5) → ASR y p' T a := fun y hy => (E.eqx hy (Or.inl rfl)).2.2.1.2.2.2.2.2.2.2 a p' ha (by unfold gr; rw [hy.1]; exact hg)
  refine v_X4_hourFor_0 (ks0 E.1) e2 ?_
  rw [hn.2.2.1, hn.2.1, e3 5 (by decide), f4, e3 2 (by decide), h2]
  refine ⟨fun z => ?_, fun z => ⟨fun z2 => ?_, fun z2 => ?_⟩⟩
  · have hz : S = 24 := by
      have := (nI_leI (a := 24) (b := S) (by decide) (by omega)).mp z
      omega
    have := k x (EQx.rf _ _)
    unfold hrF at this
    rwa [if_pos (Or.inr hz)] at this
  · have z3 : N ≤ l := (nI_leI (by omega) (by omega)).mp z2
    have z4 : ¬ S = 24 := fun e => z (by rw [e]; exact Int32.le_refl _)
    have k2 : ∀ y, EQx x y (q + 5) → Q (lpR (stH (fun h => fitA T S N a h 0) h) (fun _ => -1) (b + 1) 0 ()) y := by
      intro y hy
      have := k y hy
      unfold hrF at this
      rwa [f4, nI_clamp (by omega), if_neg (by omega), h2, nI_clamp (by omega), b2, nI_clamp (by omega)] at this
    rw [e3 1 (by decide), e3 3 (by decide), e3 4 (by decide), f3]
    have fA : ∀ h, fitC T S N (ao T a 1) h (ao T a 3) (f_sb (nI f) (nI l)) 0 = fitA T S N a h 0 := fun h => by unfold fitA; rw [f3, f4]
    refine sp_X4_hasPlace E h1 (fun y hy => ?_)
    rw [fA]
    refine ⟨fun w => ?_, fun w => ?_⟩
    · have k3 : ∀ y, EQx x y (q + 5) → Q (lpR (stH (fun h => fitA T S N a h 0) h) (fun _ => -1) b 1 ()) y := by
        intro y hy
        have := k2 y hy
        simp only [lpR] at this
        have e0 : stH (fun h => fitA T S N a h 0) h 0 () = .inl () := by
          unfold stH
          rw [if_neg (fun u => u.2 (by simpa using w)), if_neg (fun u => u.2 (by simpa using w))]
        rw [e0] at this
        exact this
      refine lp_gen (stH (fun h => fitA T S N a h 0) h) (fun _ => -1) (fun d _ => ∀ y, EQx x y (q + 5) → GI mX4_hourFor 55 [some (.ref q), some (.ref p'), some (.int (f_sb (nI f) (nI l))), some (.int (nI d)), none, none] [] KW y Q) (fun r => ∀ y, EQx x y (q + 5) → Q r y) (b + 1) (fun _ k y hy => ?_) (fun d _ hd n1 n2 y hy => ?_) b 1 () (by omega) k3 y hy
      · refine v_X4_hourFor_55 e2 (ks0 E.1) ?_
        rw [ep y hy 6 (by decide), b2]
        exact ⟨fun _ => k y hy, fun z => absurd (nI_lt (by omega) (by omega)) z⟩
      · have E2 := E.eqx hy (Or.inl rfl)
        refine v_X4_hourFor_55 e2 (ks0 E.1) ?_
        rw [ep y hy 6 (by decide), b2, ep y hy 2 (by decide), h2, ep y hy 1 (by decide), ep y hy 3 (by decide), nI_add, nI_1]
        refine ⟨fun z => absurd z (nI_nlt (by omega) (by omega)), fun _ => ?_⟩
        have up : ∀ y, EQx x y (q + 5) → ¬ (d ≤ h ∧ ¬ bP (fitA T S N a (h - d) 0) = 0) → (nI 24 ≤ nI (h + d) → GI mX4_hourFor 55 [some (.ref q), some (.ref p'), some (.int (f_sb (nI f) (nI l))), some (.int (nI (d + 1))), none, none] [] KW y Q) ∧ (¬ nI 24 ≤ nI (h + d) → mSI mX4_hasPlace [.ref q, .int (ao T a 1), .int (nI (h + d)), .int (ao T a 3), .int (f_sb (nI f) (nI l)), .int 0] KW y (fun r y_4 => (r = 0 → GI mX4_hourFor 55 [some (.ref q), some (.ref p'), some (.int (f_sb (nI f) (nI l))), some (.int (nI (d + 1))), none, none] [] KW y_4 Q) ∧ (¬ r = 0 → Q (nI (h + d)) y_4))) := by
          intro y hy w
          refine ⟨fun z => n1 () ?_ y hy, fun z => ?_⟩
          · unfold stH
            rw [if_neg w, if_neg (fun u => nI_ge u.1 (by decide) z)]
          · have hd2 : h + d < 24 := by
              by_cases c : h + d < 24
              · exact c
              · exact absurd (nI_le (by omega) (by omega)) z
            refine sp_X4_hasPlace (E.eqx hy (Or.inl rfl)) hd2 (fun y2 hy2 => ?_)
            rw [fA]
            refine ⟨fun u => n1 () ?_ y2 (hy.tr hy2), fun u => n2 _ ?_ y2 (hy.tr hy2)⟩
            · unfold stH
              rw [if_neg w, if_neg (fun g => g.2 u)]
            · unfold stH
              rw [if_neg w, if_pos ⟨hd2, u⟩]
        refine ⟨fun z => up y hy (fun u => ?_), fun z => ?_⟩
        · rw [pk_sub u.1] at z
          exact nI_pos (by omega) z
        · have hd2 : d ≤ h := by
            by_cases c : d ≤ h
            · exact c
            · exact absurd (pk_sneg (by omega) (by omega)) z
          rw [pk_sub hd2]
          refine sp_X4_hasPlace E2 (by omega) (fun y2 hy2 => ?_)
          rw [fA]
          refine ⟨fun u => ?_, fun u => n2 _ ?_ y2 (hy.tr hy2)⟩
          · have hy3 := hy.tr hy2
            rw [ep y2 hy3 2 (by decide), h2, ep y2 hy3 1 (by decide), ep y2 hy3 3 (by decide), nI_add]
            exact up y2 hy3 (fun g => g.2 u)
          · unfold stH
            rw [if_pos ⟨hd2, u⟩]
    · have := k2 y hy
      simp only [lpR] at this
      have e0 : stH (fun h => fitA T S N a h 0) h 0 () = .inr (nI h) := by
        unfold stH
        rw [if_pos ⟨Nat.zero_le _, by simpa using w⟩]
        rfl
      rw [e0] at this
      rw [ep y hy 2 (by decide), h2]
      exact this
  · have z3 : l < N := by
      by_cases c : l < N
      · exact c
      · exact absurd (nI_le (by omega) (by omega)) z2
    have := k x (EQx.rf _ _)
    unfold hrF at this
    rw [f4, nI_clamp (by omega), if_pos (Or.inl z3)] at this
    exact this
end
set_option maxHeartbeats 2000000 in
theorem v_X8_hourFor_0 {K : Sh} {x : Cn} {Q : Int32 → Cn → Prop} {b0 : Nat} {l1 : Int32} {b0_3 : Nat} {n_b0_3 : Nat} (k_b0 : kk K b0 = some (8, 0)) (g_b0_3 : gr x b0 3 = some b0_3) (k_b0_3 : kk K b0_3 = some (20, n_b0_3)) (K0 : (l24 l1 n_b0_3) ∧ (((f_span (ao (gi x b0_3) (l1 : Int32).toNatClampNeg 4) (ao (gi x b0_3) (l1 : Int32).toNatClampNeg 5) &&& f_span (gi x b0_3 4) (gi x b0_3 0 - 1)) = 0 → (Q (-1) x)) ∧ (¬ (f_span (ao (gi x b0_3) (l1 : Int32).toNatClampNeg 4) (ao (gi x b0_3) (l1 : Int32).toNatClampNeg 5) &&& f_span (gi x b0_3 4) (gi x b0_3 0 - 1)) = 0 → (vp_in 2 n_b0_3 ∧ ((¬ (gi x b0_3 2) = 24 → (GI mX8_hourFor 30 [some (.ref b0), some (.int l1), some (.int (ao (gi x b0_3) (l1 : Int32).toNatClampNeg 2)), some (.int 0)] [] K x Q)) ∧ ((gi x b0_3 2) = 24 → (Q (-1) x))))))) : mSI mX8_hourFor [.ref b0, .int l1] K x Q := by
  refine s_I (by decide) (by simp [Value.category]) (Nat.le_of_ble_eq_true rfl) ?_
  show mGM mX8_hourFor 0 [some (.ref b0), some (.int l1), none, none] [] (hp K x) (PI K Q)
  refine r_aload_n (pc := 0) dX8_hourFor_0 rfl ?_
  refine r_iload_n (pc := 1) dX8_hourFor_1 rfl ?_
  obtain ⟨p_1, K0⟩ := K0
  refine s_VI (pc := 2) mX8_weeksOf (ci := 8) (a := b0) (As := [.int l1]) dX8_hourFor_2 lk_X8_326 in_X8_weeksOf mo_X8_weeksOf ⟨by decide, rfl⟩ ⟨by decide, by decide⟩ (Nat.le_of_ble_eq_true rfl) k_b0 (sr_X8_weeksOf k_b0 g_b0_3 k_b0_3 p_1 ?_)
  refine r_if_eq (pc := 5) (tgt := 19) dX8_hourFor_5 (by decide) (fun q => ?_) (fun q => ?_)
  · have K0 := K0.1 q
    refine r_iconst (pc := 19) (v := (-1)) dX8_hourFor_19 (by decide) ?_
    exact s_iret rfl dX8_hourFor_20 K0
  · have K0 := K0.2 q
    refine r_aload_n (pc := 8) dX8_hourFor_8 rfl ?_
    refine s_getR (pc := 9) dX8_hourFor_9 fl_X8_16 rfl k_b0 g_b0_3 ?_
    refine r_iconst (pc := 12) (v := 2) dX8_hourFor_12 (by decide) ?_
    obtain ⟨i_3, K0⟩ := K0
    refine s_iald (pc := 13) dX8_hourFor_13 k_b0_3 i_3 ?_
    refine r_bipush (pc := 14) (v := 24) dX8_hourFor_14 (by decide) ?_
    refine r_icmp_ne (pc := 16) (tgt := 21) dX8_hourFor_16 (by decide) (fun q => ?_) (fun q => ?_)
    · have K0 := K0.1 q
      refine r_aload_n (pc := 21) dX8_hourFor_21 rfl ?_
      refine r_iload_n (pc := 22) dX8_hourFor_22 rfl ?_
      refine r_iconst (pc := 23) (v := 2) dX8_hourFor_23 (by decide) ?_
      refine s_VI (pc := 24) mX8_ask0 (ci := 8) (a := b0) (As := [.int l1, .int 2]) dX8_hourFor_24 lk_X8_284 in_X8_ask0 mo_X8_ask0 ⟨by decide, rfl⟩ ⟨by decide, by decide⟩ (Nat.le_of_ble_eq_true rfl) k_b0 (sr_X8_ask0 k_b0 g_b0_3 k_b0_3 p_1 ⟨by decide, by decide⟩ ?_)
      refine r_istore_n (pc := 27) dX8_hourFor_27 (by decide) ?_
      refine r_iconst (pc := 28) (L := [some (.ref b0), some (.int l1), some (.int (ao (gi x b0_3) (l1 : Int32).toNatClampNeg 2)), none]) (v := 0) dX8_hourFor_28 (by decide) ?_
      refine r_istore_n (pc := 29) dX8_hourFor_29 (by decide) ?_
      exact r_le (L' := [some (.ref b0), some (.int l1), some (.int (ao (gi x b0_3) (l1 : Int32).toNatClampNeg 2)), some (.int 0)]) ⟨rfl, ⟨rfl, ⟨rfl, ⟨rfl, trivial⟩⟩⟩⟩ K0
    · have K0 := K0.2 q
      refine r_iconst (pc := 19) (v := (-1)) dX8_hourFor_19 (by decide) ?_
      exact s_iret rfl dX8_hourFor_20 K0
set_option maxHeartbeats 2000000 in
theorem v_X8_hourFor_30 {K : Sh} {x : Cn} {Q : Int32 → Cn → Prop} {b0 : Nat} {l1 : Int32} {l2 : Int32} {l3 : Int32} {b0_3 : Nat} {n_b0_3 : Nat} (k_b0 : kk K b0 = some (8, 0)) (g_b0_3 : gr x b0 3 = some b0_3) (k_b0_3 : kk K b0_3 = some (20, n_b0_3)) (K0 : (l24 l1 n_b0_3) ∧ (((ao (gi x b0_3) (l1 : Int32).toNatClampNeg 6) < l3 → (Q (-1) x)) ∧ (¬ (ao (gi x b0_3) (l1 : Int32).toNatClampNeg 6) < l3 → ((l2 < l3 → ((24 ≤ (l2 + l3) → (GI mX8_hourFor 30 [some (.ref b0), some (.int l1), some (.int l2), some (.int (l3 + 1))] [] K x Q)) ∧ (¬ 24 ≤ (l2 + l3) → (mSI mX8_canAsk [.ref b0, .int l1, .int (l2 + l3), .int (-1)] K x (fun r_6 y_5 => (r_6 = 0 → (GI mX8_hourFor 30 [some (.ref b0), some (.int l1), some (.int l2), some (.int (l3 + 1))] [] K y_5 Q)) ∧ (¬ r_6 = 0 → (Q (l2 + l3) y_5))))))) ∧ (¬ l2 < l3 → (mSI mX8_canAsk [.ref b0, .int l1, .int (l2 - l3), .int (-1)] K x (fun r_9 y_8 => (r_9 = 0 → ((24 ≤ (l2 + l3) → (GI mX8_hourFor 30 [some (.ref b0), some (.int l1), some (.int l2), some (.int (l3 + 1))] [] K y_8 Q)) ∧ (¬ 24 ≤ (l2 + l3) → (mSI mX8_canAsk [.ref b0, .int l1, .int (l2 + l3), .int (-1)] K y_8 (fun r_13 y_12 => (r_13 = 0 → (GI mX8_hourFor 30 [some (.ref b0), some (.int l1), some (.int l2), some (.int (l3 + 1))] [] K y_12 Q)) ∧ (¬ r_13 = 0 → (Q (l2 + l3) y_12))))))) ∧ (¬ r_9 = 0 → (Q (l2 - l3) y_8))))))))) : GI mX8_hourFor 30 [some (.ref b0), some (.int l1), some (.int l2), some (.int l3)] [] K x Q := by
  show mGM mX8_hourFor 30 [some (.ref b0), some (.int l1), some (.int l2), some (.int l3)] [] (hp K x) (PI K Q)
  refine r_iload_n (pc := 30) dX8_hourFor_30 rfl ?_
  refine r_aload_n (pc := 31) dX8_hourFor_31 rfl ?_
  refine r_iload_n (pc := 32) dX8_hourFor_32 rfl ?_
  refine r_bipush (pc := 33) (v := 6) dX8_hourFor_33 (by decide) ?_
  obtain ⟨p_1, K0⟩ := K0
  refine s_VI (pc := 35) mX8_ask0 (ci := 8) (a := b0) (As := [.int l1, .int 6]) dX8_hourFor_35 lk_X8_284 in_X8_ask0 mo_X8_ask0 ⟨by decide, rfl⟩ ⟨by decide, by decide⟩ (Nat.le_of_ble_eq_true rfl) k_b0 (sr_X8_ask0 k_b0 g_b0_3 k_b0_3 p_1 ⟨by decide, by decide⟩ ?_)
  refine r_icmp_gt (pc := 38) (tgt := 92) dX8_hourFor_38 (by decide) (fun q => ?_) (fun q => ?_)
  · have K0 := K0.1 q
    refine r_iconst (pc := 92) (v := (-1)) dX8_hourFor_92 (by decide) ?_
    exact s_iret rfl dX8_hourFor_93 K0
  · have K0 := K0.2 q
    refine r_iload_n (pc := 41) dX8_hourFor_41 rfl ?_
    refine r_iload_n (pc := 42) dX8_hourFor_42 rfl ?_
    refine r_icmp_lt (pc := 43) (tgt := 62) dX8_hourFor_43 (by decide) (fun q => ?_) (fun q => ?_)
    · have K0 := K0.1 q
      refine r_iload_n (pc := 62) dX8_hourFor_62 rfl ?_
      refine r_iload_n (pc := 63) dX8_hourFor_63 rfl ?_
      refine r_iadd (pc := 64) dX8_hourFor_64 ?_
      refine r_bipush (pc := 65) (v := 24) dX8_hourFor_65 (by decide) ?_
      refine r_icmp_ge (pc := 67) (tgt := 86) dX8_hourFor_67 (by decide) (fun q => ?_) (fun q => ?_)
      · have K0 := K0.1 q
        refine r_iinc (pc := 86) (v := l3 + 1) dX8_hourFor_86 rfl rfl (by decide) ?_
        refine r_goto (pc := 89) (L := [some (.ref b0), some (.int l1), some (.int l2), some (.int (l3 + 1))]) (tgt := 30) dX8_hourFor_89 (by decide) ?_
        exact r_le (L' := [some (.ref b0), some (.int l1), some (.int l2), some (.int (l3 + 1))]) ⟨rfl, ⟨rfl, ⟨rfl, ⟨rfl, trivial⟩⟩⟩⟩ K0
      · have K0 := K0.2 q
        refine r_aload_n (pc := 70) dX8_hourFor_70 rfl ?_
        refine r_iload_n (pc := 71) dX8_hourFor_71 rfl ?_
        refine r_iload_n (pc := 72) dX8_hourFor_72 rfl ?_
        refine r_iload_n (pc := 73) dX8_hourFor_73 rfl ?_
        refine r_iadd (pc := 74) dX8_hourFor_74 ?_
        refine r_iconst (pc := 75) (v := (-1)) dX8_hourFor_75 (by decide) ?_
        refine s_VI (pc := 76) mX8_canAsk (ci := 8) (a := b0) (As := [.int l1, .int (l2 + l3), .int (-1)]) dX8_hourFor_76 lk_X8_329 in_X8_canAsk mo_X8_canAsk ⟨by decide, rfl⟩ ⟨by decide, by decide⟩ (Nat.le_of_ble_eq_true rfl) k_b0 (mSI_mono K0 (fun r_6 y_5 K0 => ?_))
        refine r_if_eq (pc := 79) (tgt := 86) dX8_hourFor_79 (by decide) (fun q => ?_) (fun q => ?_)
        · have K0 := K0.1 q
          refine r_iinc (pc := 86) (v := l3 + 1) dX8_hourFor_86 rfl rfl (by decide) ?_
          refine r_goto (pc := 89) (L := [some (.ref b0), some (.int l1), some (.int l2), some (.int (l3 + 1))]) (tgt := 30) dX8_hourFor_89 (by decide) ?_
          exact r_le (L' := [some (.ref b0), some (.int l1), some (.int l2), some (.int (l3 + 1))]) ⟨rfl, ⟨rfl, ⟨rfl, ⟨rfl, trivial⟩⟩⟩⟩ K0
        · have K0 := K0.2 q
          refine r_iload_n (pc := 82) dX8_hourFor_82 rfl ?_
          refine r_iload_n (pc := 83) dX8_hourFor_83 rfl ?_
          refine r_iadd (pc := 84) dX8_hourFor_84 ?_
          exact s_iret rfl dX8_hourFor_85 K0
    · have K0 := K0.2 q
      refine r_aload_n (pc := 46) dX8_hourFor_46 rfl ?_
      refine r_iload_n (pc := 47) dX8_hourFor_47 rfl ?_
      refine r_iload_n (pc := 48) dX8_hourFor_48 rfl ?_
      refine r_iload_n (pc := 49) dX8_hourFor_49 rfl ?_
      refine r_isub (pc := 50) dX8_hourFor_50 ?_
      refine r_iconst (pc := 51) (v := (-1)) dX8_hourFor_51 (by decide) ?_
      refine s_VI (pc := 52) mX8_canAsk (ci := 8) (a := b0) (As := [.int l1, .int (l2 - l3), .int (-1)]) dX8_hourFor_52 lk_X8_329 in_X8_canAsk mo_X8_canAsk ⟨by decide, rfl⟩ ⟨by decide, by decide⟩ (Nat.le_of_ble_eq_true rfl) k_b0 (mSI_mono K0 (fun r_9 y_8 K0 => ?_))
      refine r_if_eq (pc := 55) (tgt := 62) dX8_hourFor_55 (by decide) (fun q => ?_) (fun q => ?_)
      · have K0 := K0.1 q
        refine r_iload_n (pc := 62) dX8_hourFor_62 rfl ?_
        refine r_iload_n (pc := 63) dX8_hourFor_63 rfl ?_
        refine r_iadd (pc := 64) dX8_hourFor_64 ?_
        refine r_bipush (pc := 65) (v := 24) dX8_hourFor_65 (by decide) ?_
        refine r_icmp_ge (pc := 67) (tgt := 86) dX8_hourFor_67 (by decide) (fun q => ?_) (fun q => ?_)
        · have K0 := K0.1 q
          refine r_iinc (pc := 86) (v := l3 + 1) dX8_hourFor_86 rfl rfl (by decide) ?_
          refine r_goto (pc := 89) (L := [some (.ref b0), some (.int l1), some (.int l2), some (.int (l3 + 1))]) (tgt := 30) dX8_hourFor_89 (by decide) ?_
          exact r_le (L' := [some (.ref b0), some (.int l1), some (.int l2), some (.int (l3 + 1))]) ⟨rfl, ⟨rfl, ⟨rfl, ⟨rfl, trivial⟩⟩⟩⟩ K0
        · have K0 := K0.2 q
          refine r_aload_n (pc := 70) dX8_hourFor_70 rfl ?_
          refine r_iload_n (pc := 71) dX8_hourFor_71 rfl ?_
          refine r_iload_n (pc := 72) dX8_hourFor_72 rfl ?_
          refine r_iload_n (pc := 73) dX8_hourFor_73 rfl ?_
          refine r_iadd (pc := 74) dX8_hourFor_74 ?_
          refine r_iconst (pc := 75) (v := (-1)) dX8_hourFor_75 (by decide) ?_
          refine s_VI (pc := 76) mX8_canAsk (ci := 8) (a := b0) (As := [.int l1, .int (l2 + l3), .int (-1)]) dX8_hourFor_76 lk_X8_329 in_X8_canAsk mo_X8_canAsk ⟨by decide, rfl⟩ ⟨by decide, by decide⟩ (Nat.le_of_ble_eq_true rfl) k_b0 (mSI_mono K0 (fun r_13 y_12 K0 => ?_))
          refine r_if_eq (pc := 79) (tgt := 86) dX8_hourFor_79 (by decide) (fun q => ?_) (fun q => ?_)
          · have K0 := K0.1 q
            refine r_iinc (pc := 86) (v := l3 + 1) dX8_hourFor_86 rfl rfl (by decide) ?_
            refine r_goto (pc := 89) (L := [some (.ref b0), some (.int l1), some (.int l2), some (.int (l3 + 1))]) (tgt := 30) dX8_hourFor_89 (by decide) ?_
            exact r_le (L' := [some (.ref b0), some (.int l1), some (.int l2), some (.int (l3 + 1))]) ⟨rfl, ⟨rfl, ⟨rfl, ⟨rfl, trivial⟩⟩⟩⟩ K0
          · have K0 := K0.2 q
            refine r_iload_n (pc := 82) dX8_hourFor_82 rfl ?_
            refine r_iload_n (pc := 83) dX8_hourFor_83 rfl ?_
            refine r_iadd (pc := 84) dX8_hourFor_84 ?_
            exact s_iret rfl dX8_hourFor_85 K0
      · have K0 := K0.2 q
        refine r_iload_n (pc := 58) dX8_hourFor_58 rfl ?_
        refine r_iload_n (pc := 59) dX8_hourFor_59 rfl ?_
        refine r_isub (pc := 60) dX8_hourFor_60 ?_
        exact s_iret rfl dX8_hourFor_61 K0
section
variable {x : Cn} {Q : Int32 → Cn → Prop}
theorem sp_X8_hourFor {t : Nat} (M : MRf x t) (ht : kk KW t = some (20, 518)) {W C S A N : Nat} (F : WF (gi x t) W C S A N) {a : Nat} (ha : a < A) (k : Q (hrF (gi x t) S N a) x) : mSI mX8_hourFor [.ref 717, .int (nI a)] KW x Q := by
  have hA : A ≤ 24 := F.2.2.2.2.2.2.2.2.1
  have hS : S ≤ 24 := F.2.2.2.2.2.2.1
  have hW : W ≤ 30 := F.2.2.1
  have hN : N ≤ W := F.2.2.2.2.2.2.2.2.2.2.1
  obtain ⟨-, -, ⟨h, h1, h2⟩, a3, ⟨f, l, f1, f2, f3, f4⟩, ⟨b, b1, b2⟩⟩ := F.2.2.2.2.2.2.2.2.2.2.2.2.2 a ha
  refine v_X8_hourFor_0 km M.2.2.1 ht ⟨l24_nI (by omega) rfl, ?_⟩
  rw [nI_clamp (by omega), F.1, F.2.2.2.2.2.2.2.2.2.1, f3, f4, span_and0 (by omega) f2 hW hN, F.2.2.2.2.2.1, h2]
  unfold hrF at k
  rw [f4, nI_clamp (by omega), h2, nI_clamp (by omega), b2, nI_clamp (by omega)] at k
  refine ⟨fun z => by rwa [if_pos (Or.inl z)] at k, fun z => ⟨v0 (k := 2) (by decide) rfl rfl, fun z2 => ?_, fun z2 => ?_⟩⟩
  · rw [if_neg (fun u => u.elim z (fun e => z2 (by rw [e]; rfl)))] at k
    refine lp_gen (stH (fun h => fitA (gi x t) S N a h 0) h) (fun _ => -1) (fun d _ => GI mX8_hourFor 30 [some (.ref 717), some (.int (nI a)), some (.int (nI h)), some (.int (nI d))] [] KW x Q) (fun r => Q r x) (b + 1) (fun _ k => ?_) (fun d _ hd n1 n2 => ?_) (b + 1) 0 () (by omega) k
    · refine v_X8_hourFor_30 km M.2.2.1 ht ⟨l24_nI (by omega) rfl, ?_⟩
      rw [nI_clamp (by omega), b2]
      exact ⟨fun _ => k, fun z => absurd (nI_lt (by omega) (by omega)) z⟩
    · refine v_X8_hourFor_30 km M.2.2.1 ht ⟨l24_nI (by omega) rfl, ?_⟩
      rw [nI_clamp (by omega), b2, nI_add, nI_1]
      refine ⟨fun z => absurd z (nI_nlt (by omega) (by omega)), fun _ => ?_⟩
      have up : ¬ (d ≤ h ∧ ¬ bP (fitA (gi x t) S N a (h - d) 0) = 0) → (nI 24 ≤ nI (h + d) → GI mX8_hourFor 30 [some (.ref 717), some (.int (nI a)), some (.int (nI h)), some (.int (nI (d + 1)))] [] KW x Q) ∧ (¬ nI 24 ≤ nI (h + d) → mSI mX8_canAsk [.ref 717, .int (nI a), .int (nI (h + d)), .int (-1)] KW x (fun r y_4 => (r = 0 → GI mX8_hourFor 30 [some (.ref 717), some (.int (nI a)), some (.int (nI h)), some (.int (nI (d + 1)))] [] KW y_4 Q) ∧ (¬ r = 0 → Q (nI (h + d)) y_4))) := by
        intro w
        refine ⟨fun z => n1 () ?_, fun z => ?_⟩
        · unfold stH
          rw [if_neg w, if_neg (fun u => nI_ge u.1 (by decide) z)]
        · have hd2 : h + d < 24 := by
            by_cases c : h + d < 24
            · exact c
            · exact absurd (nI_le (by omega) (by omega)) z
          refine sp_X8_canAsk M ht F ha hd2 wo_0 ⟨fun u => n1 () ?_, fun u => n2 _ ?_⟩
          · unfold stH
            rw [if_neg w, if_neg (fun g => g.2 u)]
          · unfold stH
            rw [if_neg w, if_pos ⟨hd2, u⟩]
      refine ⟨fun z => up (fun u => nI_nlt u.1 (by omega) z), fun z => ?_⟩
      have hd2 : d ≤ h := by
        by_cases c : d ≤ h
        · exact c
        · exact absurd (nI_lt (by omega) (by omega)) z
      rw [pk_sub hd2]
      refine sp_X8_canAsk M ht F ha (by omega) wo_0 ⟨fun u => up (fun g => g.2 u), fun u => n2 _ ?_⟩
      unfold stH
      rw [if_pos ⟨hd2, u⟩]
  · have hz : S = 24 := (nI_eq (b := 24) (by omega) (by decide)).mp z2
    rwa [if_pos (Or.inr hz)] at k
/-- a series can go to an hour -/
def crt (T : TT) (S W N s h : Nat) : Prop := N < W ∧ ¬ so T s 2 = nI h ∧ fitC T S N (so T s 1) h (so T s 3) (bas T s) (1 <<< (nI s &&& 31))
end
set_option maxHeartbeats 2000000 in
theorem v_X7_canRetime_0 {K : Sh} {x : Cn} {Q : Int32 → Cn → Prop} {b0 : Nat} {l1 : Int32} {l2 : Int32} {b0_2 : Nat} {b0_2_7 : Nat} {n_b0_2_7 : Nat} (k_b0 : kk K b0 = some (7, 0)) (g_b0_2 : gr x b0 2 = some b0_2) (k_b0_2 : kk K b0_2 = some (4, 0)) (g_b0_2_7 : gr x b0_2 7 = some b0_2_7) (k_b0_2_7 : kk K b0_2_7 = some (23, n_b0_2_7)) (K0 : vp_in l1 n_b0_2_7 ∧ (∃ c_2 : Nat, gr x b0_2_7 ((l1 : Int32).toNatClampNeg) = some c_2 ∧ (((gi x b0_2 0 ≤ gi x b0_2 1) → (Q 0 x)) ∧ (¬ (gi x b0_2 0 ≤ gi x b0_2 1) → (kk K c_2 = some (5, 0) ∧ (((gi x c_2 2) = l2 → (Q 0 x)) ∧ (¬ (gi x c_2 2) = l2 → (mSI mX4_hasPlace [.ref b0_2, .int (gi x c_2 1), .int l2, .int (gi x c_2 3), .int (f_held x c_2), .int (1 <<< (l1 &&& 31))] K x (fun r_8 y_7 => (r_8 = 0 → (Q 0 y_7)) ∧ (¬ r_8 = 0 → (Q 1 y_7))))))))))) : mSI mX7_canRetime [.ref b0, .int l1, .int l2] K x Q := by
  refine s_I (by decide) (by simp [Value.category]) (Nat.le_of_ble_eq_true rfl) ?_
  show mGM mX7_canRetime 0 [some (.ref b0), some (.int l1), some (.int l2), none] [] (hp K x) (PI K Q)
  refine r_aload_n (pc := 0) dX7_canRetime_0 rfl ?_
  refine s_getR (pc := 1) dX7_canRetime_1 fl_X7_20 rfl k_b0 g_b0_2 ?_
  refine s_getR (pc := 4) dX7_canRetime_4 fl_X7_135 rfl k_b0_2 g_b0_2_7 ?_
  refine r_iload_n (pc := 7) dX7_canRetime_7 rfl ?_
  obtain ⟨i_1, K0⟩ := K0
  obtain ⟨c_2, g_3, K0⟩ := K0
  refine s_aald (pc := 8) dX7_canRetime_8 (by decide) rfl k_b0_2_7 i_1 g_3 ?_
  refine r_astore_n (pc := 9) dX7_canRetime_9 (by decide) ?_
  refine r_aload_n (pc := 10) (L := [some (.ref b0), some (.int l1), some (.int l2), some (.ref c_2)]) dX7_canRetime_10 rfl ?_
  refine s_getR (pc := 11) dX7_canRetime_11 fl_X7_20 rfl k_b0 g_b0_2 ?_
  refine s_VI (pc := 14) mX4_isOver (ci := 4) (a := b0_2) (As := []) dX7_canRetime_14 lk_X7_279 in_X4_isOver mo_X4_isOver ⟨by decide, rfl⟩ ⟨by decide, by decide⟩ (Nat.le_of_ble_eq_true rfl) k_b0_2 (sp_X4_isOver k_b0_2 ?_)
  refine r_if_ne (pc := 17) (tgt := 58) dX7_canRetime_17 (by decide) (fun q => ?_) (fun q => ?_)
  · have q := b2i_nz q
    have K0 := K0.1 q
    refine r_iconst (pc := 58) (v := 0) dX7_canRetime_58 (by decide) ?_
    exact s_zret rfl (by decide) dX7_canRetime_59 K0
  · have q := (b2i_z _).mp q
    have K0 := K0.2 q
    refine r_aload_n (pc := 20) dX7_canRetime_20 rfl ?_
    obtain ⟨e_5, K0⟩ := K0
    refine s_getI (pc := 21) dX7_canRetime_21 fl_X7_147 rfl e_5 ?_
    refine r_iload_n (pc := 24) dX7_canRetime_24 rfl ?_
    refine r_icmp_eq (pc := 25) (tgt := 58) dX7_canRetime_25 (by decide) (fun q => ?_) (fun q => ?_)
    · have K0 := K0.1 q
      refine r_iconst (pc := 58) (v := 0) dX7_canRetime_58 (by decide) ?_
      exact s_zret rfl (by decide) dX7_canRetime_59 K0
    · have K0 := K0.2 q
      refine r_aload_n (pc := 28) dX7_canRetime_28 rfl ?_
      refine s_getR (pc := 29) dX7_canRetime_29 fl_X7_20 rfl k_b0 g_b0_2 ?_
      refine r_aload_n (pc := 32) dX7_canRetime_32 rfl ?_
      refine s_getI (pc := 33) dX7_canRetime_33 fl_X7_144 rfl e_5 ?_
      refine r_iload_n (pc := 36) dX7_canRetime_36 rfl ?_
      refine r_aload_n (pc := 37) dX7_canRetime_37 rfl ?_
      refine s_getI (pc := 38) dX7_canRetime_38 fl_X7_150 rfl e_5 ?_
      refine r_aload_n (pc := 41) dX7_canRetime_41 rfl ?_
      refine s_VI (pc := 42) mX5_heldBits (ci := 5) (a := c_2) (As := []) dX7_canRetime_42 lk_X7_272 in_X5_heldBits mo_X5_heldBits ⟨by decide, rfl⟩ ⟨by decide, by decide⟩ (Nat.le_of_ble_eq_true rfl) e_5 (sp_X5_heldBits e_5 ?_)
      refine r_iconst (pc := 45) (v := 1) dX7_canRetime_45 (by decide) ?_
      refine r_iload_n (pc := 46) dX7_canRetime_46 rfl ?_
      refine r_ishl (pc := 47) dX7_canRetime_47 ?_
      refine s_VI (pc := 48) mX4_hasPlace (ci := 4) (a := b0_2) (As := [.int (gi x c_2 1), .int l2, .int (gi x c_2 3), .int (f_held x c_2), .int (1 <<< (l1 &&& 31))]) dX7_canRetime_48 lk_X7_295 in_X4_hasPlace mo_X4_hasPlace ⟨by decide, rfl⟩ ⟨by decide, by decide⟩ (Nat.le_of_ble_eq_true rfl) k_b0_2 (mSI_mono K0 (fun r_8 y_7 K0 => ?_))
      refine r_if_eq (pc := 51) (tgt := 58) dX7_canRetime_51 (by decide) (fun q => ?_) (fun q => ?_)
      · have K0 := K0.1 q
        refine r_iconst (pc := 58) (v := 0) dX7_canRetime_58 (by decide) ?_
        exact s_zret rfl (by decide) dX7_canRetime_59 K0
      · have K0 := K0.2 q
        refine r_iconst (pc := 54) (v := 1) dX7_canRetime_54 (by decide) ?_
        refine r_goto (pc := 55) (tgt := 59) dX7_canRetime_55 (by decide) ?_
        exact s_zret rfl (by decide) dX7_canRetime_59 K0
section
variable {x : Cn} {Q : Int32 → Cn → Prop}
theorem sp_X7_canRetime {T : TT} {W C S A N : Nat} (c1 : CRf x) (E : SEA x 2 T W C S A N) {s h : Nat} (hs : s < S) (hh : h < 24) (k : ∀ y, EQx x y 7 → Q (bP (crt T S W N s h)) y) : mSI mX7_canRetime [.ref 0, .int (nI s), .int (nI h)] KW x Q := by
  have hn := E.nums
  have hS : S ≤ 24 := hn.2.2.2.2.2.2.1
  have hW : W ≤ 30 := hn.2.2.2.2.1
  have hN : N ≤ W := hn.2.2.2.2.2.2.2.2
  obtain ⟨p, e1, e2, e3, e4, -, e6⟩ := E.ser hs
  refine v_X7_canRetime_0 k0 c1.2.1 (ks0 E.1) E.2.1.2.2.1 (ks3 E.1) ⟨vp_in_nI (by omega) (by decide), p, by rw [nI_clamp (by omega)]; exact e1, ?_⟩
  rw [hn.1, hn.2.1, nI_leI (by omega) (by omega), e3.1 2 (by decide) (by decide), e3.1 1 (by decide) (by decide), e3.1 3 (by decide) (by decide), e4]
  have k2 := k x (EQx.rf _ _)
  refine ⟨fun z => (bP_k k2).2 (fun u => absurd u.1 (by omega)), fun z => ⟨e2, fun z2 => (bP_k k2).2 (fun u => u.2.1 z2), fun z2 => ?_⟩⟩
  refine sp_X4_hasPlace E hh (fun y hy => ⟨fun w => (bP_k (k y hy)).2 (fun u => bP_z.mp w u.2.2), fun w => (bP_k (k y hy)).1 ⟨by omega, z2, ?_⟩⟩)
  exact Classical.byContradiction (fun g => w (bP_z.mpr g))
theorem bas_W {T : TT} {C W s i : Nat} (w : Wse T C W s) (h : tb (bas T s) i = true) : i < W := by
  obtain ⟨-, -, -, -, -, -, -, w8⟩ := w
  rw [tb_bas] at h
  simp only [Bool.or_eq_true] at h
  rcases h with ((h | h) | h) | h
  · exact w8 i 0 (by decide) h
  · exact w8 i 1 (by decide) h
  · exact w8 i 2 (by decide) h
  · exact w8 i 3 (by decide) h
end
set_option maxHeartbeats 2000000 in
theorem v_X8_canBeAt_0 {K : Sh} {x : Cn} {Q : Int32 → Cn → Prop} {b0 : Nat} {l1 : Int32} {l2 : Int32} {b0_3 : Nat} {n_b0_3 : Nat} (k_b0 : kk K b0 = some (8, 0)) (g_b0_3 : gr x b0 3 = some b0_3) (k_b0_3 : kk K b0_3 = some (20, n_b0_3)) (K0 : (l24 l1 n_b0_3) ∧ (mSI mX8_canBe [.ref b0, .int (bas (gi x b0_3) (l1 : Int32).toNatClampNeg), .int (so (gi x b0_3) (l1 : Int32).toNatClampNeg 1), .int l2, .int (so (gi x b0_3) (l1 : Int32).toNatClampNeg 3), .int l1] K x (fun r_3 y_2 => (r_3 = 0 ∨ r_3 = 1) ∧ (Q r_3 y_2)))) : mSI mX8_canBeAt [.ref b0, .int l1, .int l2] K x Q := by
  refine s_I (by decide) (by simp [Value.category]) (Nat.le_of_ble_eq_true rfl) ?_
  show mGM mX8_canBeAt 0 [some (.ref b0), some (.int l1), some (.int l2)] [] (hp K x) (PI K Q)
  refine r_aload_n (pc := 0) dX8_canBeAt_0 rfl ?_
  refine r_aload_n (pc := 1) dX8_canBeAt_1 rfl ?_
  refine r_iload_n (pc := 2) dX8_canBeAt_2 rfl ?_
  obtain ⟨p_1, K0⟩ := K0
  refine s_VI (pc := 3) mX8_basisOf (ci := 8) (a := b0) (As := [.int l1]) dX8_canBeAt_3 lk_X8_71 in_X8_basisOf mo_X8_basisOf ⟨by decide, rfl⟩ ⟨by decide, by decide⟩ (Nat.le_of_ble_eq_true rfl) k_b0 (sr_X8_basisOf k_b0 g_b0_3 k_b0_3 p_1 ?_)
  refine r_aload_n (pc := 6) dX8_canBeAt_6 rfl ?_
  refine r_iload_n (pc := 7) dX8_canBeAt_7 rfl ?_
  refine r_iconst (pc := 8) (v := 1) dX8_canBeAt_8 (by decide) ?_
  refine s_VI (pc := 9) mX8_one (ci := 8) (a := b0) (As := [.int l1, .int 1]) dX8_canBeAt_9 lk_X8_67 in_X8_one mo_X8_one ⟨by decide, rfl⟩ ⟨by decide, by decide⟩ (Nat.le_of_ble_eq_true rfl) k_b0 (sr_X8_one k_b0 g_b0_3 k_b0_3 p_1 ⟨by decide, by decide⟩ ?_)
  refine r_iload_n (pc := 12) dX8_canBeAt_12 rfl ?_
  refine r_aload_n (pc := 13) dX8_canBeAt_13 rfl ?_
  refine r_iload_n (pc := 14) dX8_canBeAt_14 rfl ?_
  refine r_iconst (pc := 15) (v := 3) dX8_canBeAt_15 (by decide) ?_
  refine s_VI (pc := 16) mX8_one (ci := 8) (a := b0) (As := [.int l1, .int 3]) dX8_canBeAt_16 lk_X8_67 in_X8_one mo_X8_one ⟨by decide, rfl⟩ ⟨by decide, by decide⟩ (Nat.le_of_ble_eq_true rfl) k_b0 (sr_X8_one k_b0 g_b0_3 k_b0_3 p_1 ⟨by decide, by decide⟩ ?_)
  refine r_iload_n (pc := 19) dX8_canBeAt_19 rfl ?_
  refine s_VI (pc := 20) mX8_canBe (ci := 8) (a := b0) (As := [.int (bas (gi x b0_3) (l1 : Int32).toNatClampNeg), .int (so (gi x b0_3) (l1 : Int32).toNatClampNeg 1), .int l2, .int (so (gi x b0_3) (l1 : Int32).toNatClampNeg 3), .int l1]) dX8_canBeAt_20 lk_X8_90 in_X8_canBe mo_X8_canBe ⟨by decide, rfl⟩ ⟨by decide, by decide⟩ (Nat.le_of_ble_eq_true rfl) k_b0 (mSI_mono K0 (fun r_3 y_2 K0 => ?_))
  obtain ⟨p_4, K0⟩ := K0
  exact s_zret rfl p_4 dX8_canBeAt_23 K0
section
variable {x : Cn} {Q : Int32 → Cn → Prop}
theorem sp_X8_canBeAt {t : Nat} (M : MRf x t) (ht : kk KW t = some (20, 518)) {W C S A N : Nat} (F : WF (gi x t) W C S A N) {s h : Nat} (hs : s < S) (hh : h < 24) (k : Q (bP (fitC (gi x t) S N (so (gi x t) s 1) h (so (gi x t) s 3) (bas (gi x t) s) (1 <<< (nI s &&& 31)))) x) : mSI mX8_canBeAt [.ref 717, .int (nI s), .int (nI h)] KW x Q := by
  have hS : S ≤ 24 := F.2.2.2.2.2.2.1
  have w := F.2.2.2.2.2.2.2.2.2.2.2.2.1 s hs
  refine v_X8_canBeAt_0 km M.2.2.1 ht ⟨l24_nI (by omega) rfl, ?_⟩
  rw [nI_clamp (by omega)]
  exact sp_X8_canBe M ht F hh w.2.2.2.1 (fun i hi h1 h2 => bas_W w h1) (wo_1 (by omega)) ⟨bP_01 _, k⟩
end
set_option maxHeartbeats 2000000 in
theorem v_X8_canRetime_0 {K : Sh} {x : Cn} {Q : Int32 → Cn → Prop} {b0 : Nat} {l1 : Int32} {l2 : Int32} {b0_1 : Nat} {n_b0_1 : Nat} {b0_3 : Nat} {n_b0_3 : Nat} (k_b0 : kk K b0 = some (8, 0)) (g_b0_1 : gr x b0 1 = some b0_1) (k_b0_1 : kk K b0_1 = some (20, n_b0_1)) (g_b0_3 : gr x b0 3 = some b0_3) (k_b0_3 : kk K b0_3 = some (20, n_b0_3)) (K0 : vp_in 4 n_b0_1 ∧ (vp_in 0 n_b0_1 ∧ (((gi x b0_1 0) ≤ (gi x b0_1 4) → (Q 0 x)) ∧ (¬ (gi x b0_1 0) ≤ (gi x b0_1 4) → ((l24 l1 n_b0_3) ∧ (((so (gi x b0_3) (l1 : Int32).toNatClampNeg 2) = l2 → (Q 0 x)) ∧ (¬ (so (gi x b0_3) (l1 : Int32).toNatClampNeg 2) = l2 → (mSI mX8_canBeAt [.ref b0, .int l1, .int l2] K x (fun r_7 y_6 => (r_7 = 0 → (Q 0 y_6)) ∧ (¬ r_7 = 0 → (Q 1 y_6))))))))))) : mSI mX8_canRetime [.ref b0, .int l1, .int l2] K x Q := by
  refine s_I (by decide) (by simp [Value.category]) (Nat.le_of_ble_eq_true rfl) ?_
  show mGM mX8_canRetime 0 [some (.ref b0), some (.int l1), some (.int l2)] [] (hp K x) (PI K Q)
  refine r_aload_n (pc := 0) dX8_canRetime_0 rfl ?_
  refine s_getR (pc := 1) dX8_canRetime_1 fl_X8_9 rfl k_b0 g_b0_1 ?_
  refine r_iconst (pc := 4) (v := 4) dX8_canRetime_4 (by decide) ?_
  obtain ⟨i_1, K0⟩ := K0
  refine s_iald (pc := 5) dX8_canRetime_5 k_b0_1 i_1 ?_
  refine r_aload_n (pc := 6) dX8_canRetime_6 rfl ?_
  refine s_getR (pc := 7) dX8_canRetime_7 fl_X8_9 rfl k_b0 g_b0_1 ?_
  refine r_iconst (pc := 10) (v := 0) dX8_canRetime_10 (by decide) ?_
  obtain ⟨i_2, K0⟩ := K0
  refine s_iald (pc := 11) dX8_canRetime_11 k_b0_1 i_2 ?_
  refine r_icmp_ge (pc := 12) (tgt := 38) dX8_canRetime_12 (by decide) (fun q => ?_) (fun q => ?_)
  · have K0 := K0.1 q
    refine r_iconst (pc := 38) (v := 0) dX8_canRetime_38 (by decide) ?_
    exact s_zret rfl (by decide) dX8_canRetime_39 K0
  · have K0 := K0.2 q
    refine r_aload_n (pc := 15) dX8_canRetime_15 rfl ?_
    refine r_iload_n (pc := 16) dX8_canRetime_16 rfl ?_
    refine r_iconst (pc := 17) (v := 2) dX8_canRetime_17 (by decide) ?_
    obtain ⟨p_4, K0⟩ := K0
    refine s_VI (pc := 18) mX8_one (ci := 8) (a := b0) (As := [.int l1, .int 2]) dX8_canRetime_18 lk_X8_67 in_X8_one mo_X8_one ⟨by decide, rfl⟩ ⟨by decide, by decide⟩ (Nat.le_of_ble_eq_true rfl) k_b0 (sr_X8_one k_b0 g_b0_3 k_b0_3 p_4 ⟨by decide, by decide⟩ ?_)
    refine r_iload_n (pc := 21) dX8_canRetime_21 rfl ?_
    refine r_icmp_eq (pc := 22) (tgt := 38) dX8_canRetime_22 (by decide) (fun q => ?_) (fun q => ?_)
    · have K0 := K0.1 q
      refine r_iconst (pc := 38) (v := 0) dX8_canRetime_38 (by decide) ?_
      exact s_zret rfl (by decide) dX8_canRetime_39 K0
    · have K0 := K0.2 q
      refine r_aload_n (pc := 25) dX8_canRetime_25 rfl ?_
      refine r_iload_n (pc := 26) dX8_canRetime_26 rfl ?_
      refine r_iload_n (pc := 27) dX8_canRetime_27 rfl ?_
      refine s_VI (pc := 28) mX8_canBeAt (ci := 8) (a := b0) (As := [.int l1, .int l2]) dX8_canRetime_28 lk_X8_360 in_X8_canBeAt mo_X8_canBeAt ⟨by decide, rfl⟩ ⟨by decide, by decide⟩ (Nat.le_of_ble_eq_true rfl) k_b0 (mSI_mono K0 (fun r_7 y_6 K0 => ?_))
      refine r_if_eq (pc := 31) (tgt := 38) dX8_canRetime_31 (by decide) (fun q => ?_) (fun q => ?_)
      · have K0 := K0.1 q
        refine r_iconst (pc := 38) (v := 0) dX8_canRetime_38 (by decide) ?_
        exact s_zret rfl (by decide) dX8_canRetime_39 K0
      · have K0 := K0.2 q
        refine r_iconst (pc := 34) (v := 1) dX8_canRetime_34 (by decide) ?_
        refine r_goto (pc := 35) (tgt := 39) dX8_canRetime_35 (by decide) ?_
        exact s_zret rfl (by decide) dX8_canRetime_39 K0
section
variable {x : Cn} {Q : Int32 → Cn → Prop}
theorem sp_X8_canRetime (M : MRf x 718) {W C S A N : Nat} (F : WF (gi x 718) W C S A N) {s h : Nat} (hs : s < S) (hh : h < 24) (k : Q (bP (crt (gi x 718) S W N s h)) x) : mSI mX8_canRetime [.ref 717, .int (nI s), .int (nI h)] KW x Q := by
  have hS : S ≤ 24 := F.2.2.2.2.2.2.1
  have hW : W ≤ 30 := F.2.2.1
  have hN : N ≤ W := F.2.2.2.2.2.2.2.2.2.2.1
  refine v_X8_canRetime_0 km M.1 km1 M.2.2.1 km1 ⟨v0 (k := 4) (by decide) rfl rfl, v0 (k := 0) (by decide) rfl rfl, ?_⟩
  rw [F.1, F.2.2.2.2.2.2.2.2.2.1, nI_leI (by omega) (by omega), nI_clamp (show s < 2 ^ 31 by omega)]
  refine ⟨fun z => (bP_k k).2 (fun u => absurd u.1 (by omega)), fun z => ⟨l24_nI (by omega) rfl, fun z2 => (bP_k k).2 (fun u => u.2.1 z2), fun z2 => ?_⟩⟩
  refine sp_X8_canBeAt M km1 F hs hh ⟨fun w => (bP_k k).2 (fun u => bP_z.mp w u.2.2), fun w => (bP_k k).1 ⟨by omega, z2, ?_⟩⟩
  exact Classical.byContradiction (fun g => w (bP_z.mpr g))
end
set_option maxHeartbeats 2000000 in
theorem v_X7_where_0 {K : Sh} {x : Cn} {Q : Int32 → Cn → Prop} {b0 : Nat} {l1 : Int32} {b0_2 : Nat} {b0_2_8 : Nat} {n_b0_2_8 : Nat} (k_b0 : kk K b0 = some (7, 0)) (g_b0_2 : gr x b0 2 = some b0_2) (k_b0_2 : kk K b0_2 = some (4, 0)) (g_b0_2_8 : gr x b0_2 8 = some b0_2_8) (k_b0_2_8 : kk K b0_2_8 = some (24, n_b0_2_8)) (K0 : ((0 ≤ l1 ∧ l1 < gi x b0_2 4) → (vp_in l1 n_b0_2_8 ∧ (∃ c_3 : Nat, gr x b0_2_8 ((l1 : Int32).toNatClampNeg) = some c_3 ∧ (mSI mX4_hourFor [.ref b0_2, .ref c_3] K x (fun r_6 y_5 => Q r_6 y_5))))) ∧ (¬ (0 ≤ l1 ∧ l1 < gi x b0_2 4) → (Q (-2) x))) : mSI mX7_where [.ref b0, .int l1] K x Q := by
  refine s_I (by decide) (by simp [Value.category]) (Nat.le_of_ble_eq_true rfl) ?_
  show mGM mX7_where 0 [some (.ref b0), some (.int l1)] [] (hp K x) (PI K Q)
  refine r_aload_n (pc := 0) dX7_where_0 rfl ?_
  refine r_iload_n (pc := 1) dX7_where_1 rfl ?_
  refine s_VI (pc := 2) mX7_isAsk (ci := 7) (a := b0) (As := [.int l1]) dX7_where_2 lk_X7_173 in_X7_isAsk mo_X7_isAsk ⟨by decide, rfl⟩ ⟨by decide, by decide⟩ (Nat.le_of_ble_eq_true rfl) k_b0 (sp_X7_isAsk k_b0 g_b0_2 k_b0_2 ?_)
  refine r_if_ne (pc := 5) (tgt := 11) dX7_where_5 (by decide) (fun q => ?_) (fun q => ?_)
  · have q := b2i_nz q
    have K0 := K0.1 q
    refine r_aload_n (pc := 11) dX7_where_11 rfl ?_
    refine s_getR (pc := 12) dX7_where_12 fl_X7_20 rfl k_b0 g_b0_2 ?_
    refine r_aload_n (pc := 15) dX7_where_15 rfl ?_
    refine s_getR (pc := 16) dX7_where_16 fl_X7_20 rfl k_b0 g_b0_2 ?_
    refine s_getR (pc := 19) dX7_where_19 fl_X7_176 rfl k_b0_2 g_b0_2_8 ?_
    refine r_iload_n (pc := 22) dX7_where_22 rfl ?_
    obtain ⟨i_2, K0⟩ := K0
    obtain ⟨c_3, g_4, K0⟩ := K0
    refine s_aald (pc := 23) dX7_where_23 (by decide) rfl k_b0_2_8 i_2 g_4 ?_
    refine s_VI (pc := 24) mX4_hourFor (ci := 4) (a := b0_2) (As := [.ref c_3]) dX7_where_24 lk_X7_303 in_X4_hourFor mo_X4_hourFor ⟨by decide, rfl⟩ ⟨by decide, by decide⟩ (Nat.le_of_ble_eq_true rfl) k_b0_2 (mSI_mono K0 (fun r_6 y_5 K0 => ?_))
    exact s_iret rfl dX7_where_27 K0
  · have q := (b2i_z _).mp q
    have K0 := K0.2 q
    refine r_bipush (pc := 8) (v := (-2)) dX7_where_8 (by decide) ?_
    exact s_iret rfl dX7_where_10 K0
set_option maxHeartbeats 2000000 in
theorem v_X8_where_0 {K : Sh} {x : Cn} {Q : Int32 → Cn → Prop} {b0 : Nat} {l1 : Int32} {b0_1 : Nat} {n_b0_1 : Nat} (k_b0 : kk K b0 = some (8, 0)) (g_b0_1 : gr x b0 1 = some b0_1) (k_b0_1 : kk K b0_1 = some (20, n_b0_1)) (K0 : vp_in 3 n_b0_1 ∧ ((¬ (0 ≤ l1 ∧ l1 ≤ gi x b0_1 3 - 1) → (Q (-2) x)) ∧ ((0 ≤ l1 ∧ l1 ≤ gi x b0_1 3 - 1) → (mSI mX8_hourFor [.ref b0, .int l1] K x (fun r_4 y_3 => Q r_4 y_3))))) : mSI mX8_where [.ref b0, .int l1] K x Q := by
  refine s_I (by decide) (by simp [Value.category]) (Nat.le_of_ble_eq_true rfl) ?_
  show mGM mX8_where 0 [some (.ref b0), some (.int l1)] [] (hp K x) (PI K Q)
  refine r_aload_n (pc := 0) dX8_where_0 rfl ?_
  refine r_iload_n (pc := 1) dX8_where_1 rfl ?_
  obtain ⟨i_1, K0⟩ := K0
  refine s_VI (pc := 2) mX8_isAsk (ci := 8) (a := b0) (As := [.int l1]) dX8_where_2 lk_X8_281 in_X8_isAsk mo_X8_isAsk ⟨by decide, rfl⟩ ⟨by decide, by decide⟩ (Nat.le_of_ble_eq_true rfl) k_b0 (sp_X8_isAsk k_b0 g_b0_1 k_b0_1 i_1 ?_)
  refine r_if_eq (pc := 5) (tgt := 16) dX8_where_5 (by decide) (fun q => ?_) (fun q => ?_)
  · have q := (b2i_z _).mp q
    have K0 := K0.1 q
    refine r_bipush (pc := 16) (v := (-2)) dX8_where_16 (by decide) ?_
    exact s_iret rfl dX8_where_18 K0
  · have q := b2i_nz q
    have K0 := K0.2 q
    refine r_aload_n (pc := 8) dX8_where_8 rfl ?_
    refine r_iload_n (pc := 9) dX8_where_9 rfl ?_
    refine s_VI (pc := 10) mX8_hourFor (ci := 8) (a := b0) (As := [.int l1]) dX8_where_10 lk_X8_332 in_X8_hourFor mo_X8_hourFor ⟨by decide, rfl⟩ ⟨by decide, by decide⟩ (Nat.le_of_ble_eq_true rfl) k_b0 (mSI_mono K0 (fun r_4 y_3 K0 => ?_))
    refine r_goto (pc := 13) (tgt := 18) dX8_where_13 (by decide) ?_
    exact s_iret rfl dX8_where_18 K0
set_option maxHeartbeats 2000000 in
theorem v_X7_movable_0 {K : Sh} {x : Cn} {Q : Int32 → Cn → Prop} {b0 : Nat} {l1 : Int32} {b0_2 : Nat} (k_b0 : kk K b0 = some (7, 0)) (g_b0_2 : gr x b0 2 = some b0_2) (k_b0_2 : kk K b0_2 = some (4, 0)) (K0 : ((0 ≤ l1 ∧ l1 < gi x b0_2 3) → (GI mX7_movable 15 [some (.ref b0), some (.int l1), some (.int 0), some (.int 0)] [] K x Q)) ∧ (¬ (0 ≤ l1 ∧ l1 < gi x b0_2 3) → (Q (-2) x))) : mSI mX7_movable [.ref b0, .int l1] K x Q := by
  refine s_I (by decide) (by simp [Value.category]) (Nat.le_of_ble_eq_true rfl) ?_
  show mGM mX7_movable 0 [some (.ref b0), some (.int l1), none, none] [] (hp K x) (PI K Q)
  refine r_aload_n (pc := 0) dX7_movable_0 rfl ?_
  refine r_iload_n (pc := 1) dX7_movable_1 rfl ?_
  refine s_VI (pc := 2) mX7_isSeries (ci := 7) (a := b0) (As := [.int l1]) dX7_movable_2 lk_X7_132 in_X7_isSeries mo_X7_isSeries ⟨by decide, rfl⟩ ⟨by decide, by decide⟩ (Nat.le_of_ble_eq_true rfl) k_b0 (sp_X7_isSeries k_b0 g_b0_2 k_b0_2 ?_)
  refine r_if_ne (pc := 5) (tgt := 11) dX7_movable_5 (by decide) (fun q => ?_) (fun q => ?_)
  · have q := b2i_nz q
    have K0 := K0.1 q
    refine r_iconst (pc := 11) (v := 0) dX7_movable_11 (by decide) ?_
    refine r_istore_n (pc := 12) dX7_movable_12 (by decide) ?_
    refine r_iconst (pc := 13) (L := [some (.ref b0), some (.int l1), some (.int 0), none]) (v := 0) dX7_movable_13 (by decide) ?_
    refine r_istore_n (pc := 14) dX7_movable_14 (by decide) ?_
    exact r_le (L' := [some (.ref b0), some (.int l1), some (.int 0), some (.int 0)]) ⟨rfl, ⟨rfl, ⟨rfl, ⟨rfl, trivial⟩⟩⟩⟩ K0
  · have q := (b2i_z _).mp q
    have K0 := K0.2 q
    refine r_bipush (pc := 8) (v := (-2)) dX7_movable_8 (by decide) ?_
    exact s_iret rfl dX7_movable_10 K0
set_option maxHeartbeats 2000000 in
theorem v_X7_movable_15 {K : Sh} {x : Cn} {Q : Int32 → Cn → Prop} {b0 : Nat} {l1 : Int32} {l2 : Int32} {l3 : Int32}  (k_b0 : kk K b0 = some (7, 0)) (K0 : (24 ≤ l3 → (Q l2 x)) ∧ (¬ 24 ≤ l3 → (mSI mX7_canRetime [.ref b0, .int l1, .int l3] K x (fun r_3 y_2 => (r_3 = 0 → (GI mX7_movable 15 [some (.ref b0), some (.int l1), some (.int l2), some (.int (l3 + 1))] [] K y_2 Q)) ∧ (¬ r_3 = 0 → (GI mX7_movable 15 [some (.ref b0), some (.int l1), some (.int (l2 ||| (1 <<< (l3 &&& 31)))), some (.int (l3 + 1))] [] K y_2 Q)))))) : GI mX7_movable 15 [some (.ref b0), some (.int l1), some (.int l2), some (.int l3)] [] K x Q := by
  show mGM mX7_movable 15 [some (.ref b0), some (.int l1), some (.int l2), some (.int l3)] [] (hp K x) (PI K Q)
  refine r_iload_n (pc := 15) dX7_movable_15 rfl ?_
  refine r_bipush (pc := 16) (v := 24) dX7_movable_16 (by decide) ?_
  refine r_icmp_ge (pc := 18) (tgt := 42) dX7_movable_18 (by decide) (fun q => ?_) (fun q => ?_)
  · have K0 := K0.1 q
    refine r_iload_n (pc := 42) dX7_movable_42 rfl ?_
    exact s_iret rfl dX7_movable_43 K0
  · have K0 := K0.2 q
    refine r_aload_n (pc := 21) dX7_movable_21 rfl ?_
    refine r_iload_n (pc := 22) dX7_movable_22 rfl ?_
    refine r_iload_n (pc := 23) dX7_movable_23 rfl ?_
    refine s_VI (pc := 24) mX7_canRetime (ci := 7) (a := b0) (As := [.int l1, .int l3]) dX7_movable_24 lk_X7_327 in_X7_canRetime mo_X7_canRetime ⟨by decide, rfl⟩ ⟨by decide, by decide⟩ (Nat.le_of_ble_eq_true rfl) k_b0 (mSI_mono K0 (fun r_3 y_2 K0 => ?_))
    refine r_if_eq (pc := 27) (tgt := 36) dX7_movable_27 (by decide) (fun q => ?_) (fun q => ?_)
    · have K0 := K0.1 q
      refine r_iinc (pc := 36) (v := l3 + 1) dX7_movable_36 rfl rfl (by decide) ?_
      refine r_goto (pc := 39) (L := [some (.ref b0), some (.int l1), some (.int l2), some (.int (l3 + 1))]) (tgt := 15) dX7_movable_39 (by decide) ?_
      exact r_le (L' := [some (.ref b0), some (.int l1), some (.int l2), some (.int (l3 + 1))]) ⟨rfl, ⟨rfl, ⟨rfl, ⟨rfl, trivial⟩⟩⟩⟩ K0
    · have K0 := K0.2 q
      refine r_iload_n (pc := 30) dX7_movable_30 rfl ?_
      refine r_iconst (pc := 31) (v := 1) dX7_movable_31 (by decide) ?_
      refine r_iload_n (pc := 32) dX7_movable_32 rfl ?_
      refine r_ishl (pc := 33) dX7_movable_33 ?_
      refine r_ior (pc := 34) dX7_movable_34 ?_
      refine r_istore_n (pc := 35) dX7_movable_35 (by decide) ?_
      refine r_iinc (pc := 36) (L := [some (.ref b0), some (.int l1), some (.int (l2 ||| (1 <<< (l3 &&& 31)))), some (.int l3)]) (v := l3 + 1) dX7_movable_36 rfl rfl (by decide) ?_
      refine r_goto (pc := 39) (L := [some (.ref b0), some (.int l1), some (.int (l2 ||| (1 <<< (l3 &&& 31)))), some (.int (l3 + 1))]) (tgt := 15) dX7_movable_39 (by decide) ?_
      exact r_le (L' := [some (.ref b0), some (.int l1), some (.int (l2 ||| (1 <<< (l3 &&& 31)))), some (.int (l3 + 1))]) ⟨rfl, ⟨rfl, ⟨rfl, ⟨rfl, trivial⟩⟩⟩⟩ K0
set_option maxHeartbeats 2000000 in
theorem v_X8_movable_0 {K : Sh} {x : Cn} {Q : Int32 → Cn → Prop} {b0 : Nat} {l1 : Int32} {b0_1 : Nat} {n_b0_1 : Nat} (k_b0 : kk K b0 = some (8, 0)) (g_b0_1 : gr x b0 1 = some b0_1) (k_b0_1 : kk K b0_1 = some (20, n_b0_1)) (K0 : vp_in 2 n_b0_1 ∧ (((0 ≤ l1 ∧ l1 ≤ gi x b0_1 2 - 1) → (GI mX8_movable 15 [some (.ref b0), some (.int l1), some (.int 0), some (.int 0)] [] K x Q)) ∧ (¬ (0 ≤ l1 ∧ l1 ≤ gi x b0_1 2 - 1) → (Q (-2) x)))) : mSI mX8_movable [.ref b0, .int l1] K x Q := by
  refine s_I (by decide) (by simp [Value.category]) (Nat.le_of_ble_eq_true rfl) ?_
  show mGM mX8_movable 0 [some (.ref b0), some (.int l1), none, none] [] (hp K x) (PI K Q)
  refine r_aload_n (pc := 0) dX8_movable_0 rfl ?_
  refine r_iload_n (pc := 1) dX8_movable_1 rfl ?_
  obtain ⟨i_1, K0⟩ := K0
  refine s_VI (pc := 2) mX8_isSeries (ci := 8) (a := b0) (As := [.int l1]) dX8_movable_2 lk_X8_273 in_X8_isSeries mo_X8_isSeries ⟨by decide, rfl⟩ ⟨by decide, by decide⟩ (Nat.le_of_ble_eq_true rfl) k_b0 (sp_X8_isSeries k_b0 g_b0_1 k_b0_1 i_1 ?_)
  refine r_if_ne (pc := 5) (tgt := 11) dX8_movable_5 (by decide) (fun q => ?_) (fun q => ?_)
  · have q := b2i_nz q
    have K0 := K0.1 q
    refine r_iconst (pc := 11) (v := 0) dX8_movable_11 (by decide) ?_
    refine r_istore_n (pc := 12) dX8_movable_12 (by decide) ?_
    refine r_iconst (pc := 13) (L := [some (.ref b0), some (.int l1), some (.int 0), none]) (v := 0) dX8_movable_13 (by decide) ?_
    refine r_istore_n (pc := 14) dX8_movable_14 (by decide) ?_
    exact r_le (L' := [some (.ref b0), some (.int l1), some (.int 0), some (.int 0)]) ⟨rfl, ⟨rfl, ⟨rfl, ⟨rfl, trivial⟩⟩⟩⟩ K0
  · have q := (b2i_z _).mp q
    have K0 := K0.2 q
    refine r_bipush (pc := 8) (v := (-2)) dX8_movable_8 (by decide) ?_
    exact s_iret rfl dX8_movable_10 K0
set_option maxHeartbeats 2000000 in
theorem v_X8_movable_15 {K : Sh} {x : Cn} {Q : Int32 → Cn → Prop} {b0 : Nat} {l1 : Int32} {l2 : Int32} {l3 : Int32}  (k_b0 : kk K b0 = some (8, 0)) (K0 : (24 ≤ l3 → (Q l2 x)) ∧ (¬ 24 ≤ l3 → (mSI mX8_canRetime [.ref b0, .int l1, .int l3] K x (fun r_3 y_2 => (r_3 = 0 → (GI mX8_movable 15 [some (.ref b0), some (.int l1), some (.int (l2 ||| 0)), some (.int (l3 + 1))] [] K y_2 Q)) ∧ (¬ r_3 = 0 → (GI mX8_movable 15 [some (.ref b0), some (.int l1), some (.int (l2 ||| (1 <<< (l3 &&& 31)))), some (.int (l3 + 1))] [] K y_2 Q)))))) : GI mX8_movable 15 [some (.ref b0), some (.int l1), some (.int l2), some (.int l3)] [] K x Q := by
  show mGM mX8_movable 15 [some (.ref b0), some (.int l1), some (.int l2), some (.int l3)] [] (hp K x) (PI K Q)
  refine r_iload_n (pc := 15) dX8_movable_15 rfl ?_
  refine r_bipush (pc := 16) (v := 24) dX8_movable_16 (by decide) ?_
  refine r_icmp_ge (pc := 18) (tgt := 46) dX8_movable_18 (by decide) (fun q => ?_) (fun q => ?_)
  · have K0 := K0.1 q
    refine r_iload_n (pc := 46) dX8_movable_46 rfl ?_
    exact s_iret rfl dX8_movable_47 K0
  · have K0 := K0.2 q
    refine r_iload_n (pc := 21) dX8_movable_21 rfl ?_
    refine r_aload_n (pc := 22) dX8_movable_22 rfl ?_
    refine r_iload_n (pc := 23) dX8_movable_23 rfl ?_
    refine r_iload_n (pc := 24) dX8_movable_24 rfl ?_
    refine s_VI (pc := 25) mX8_canRetime (ci := 8) (a := b0) (As := [.int l1, .int l3]) dX8_movable_25 lk_X8_357 in_X8_canRetime mo_X8_canRetime ⟨by decide, rfl⟩ ⟨by decide, by decide⟩ (Nat.le_of_ble_eq_true rfl) k_b0 (mSI_mono K0 (fun r_3 y_2 K0 => ?_))
    refine r_if_eq (pc := 28) (tgt := 37) dX8_movable_28 (by decide) (fun q => ?_) (fun q => ?_)
    · have K0 := K0.1 q
      refine r_iconst (pc := 37) (v := 0) dX8_movable_37 (by decide) ?_
      refine r_ior (pc := 38) dX8_movable_38 ?_
      refine r_istore_n (pc := 39) dX8_movable_39 (by decide) ?_
      refine r_iinc (pc := 40) (L := [some (.ref b0), some (.int l1), some (.int (l2 ||| 0)), some (.int l3)]) (v := l3 + 1) dX8_movable_40 rfl rfl (by decide) ?_
      refine r_goto (pc := 43) (L := [some (.ref b0), some (.int l1), some (.int (l2 ||| 0)), some (.int (l3 + 1))]) (tgt := 15) dX8_movable_43 (by decide) ?_
      exact r_le (L' := [some (.ref b0), some (.int l1), some (.int (l2 ||| 0)), some (.int (l3 + 1))]) ⟨rfl, ⟨rfl, ⟨rfl, ⟨rfl, trivial⟩⟩⟩⟩ K0
    · have K0 := K0.2 q
      refine r_iconst (pc := 31) (v := 1) dX8_movable_31 (by decide) ?_
      refine r_iload_n (pc := 32) dX8_movable_32 rfl ?_
      refine r_ishl (pc := 33) dX8_movable_33 ?_
      refine r_goto (pc := 34) (tgt := 38) dX8_movable_34 (by decide) ?_
      refine r_ior (pc := 38) dX8_movable_38 ?_
      refine r_istore_n (pc := 39) dX8_movable_39 (by decide) ?_
      refine r_iinc (pc := 40) (L := [some (.ref b0), some (.int l1), some (.int (l2 ||| (1 <<< (l3 &&& 31)))), some (.int l3)]) (v := l3 + 1) dX8_movable_40 rfl rfl (by decide) ?_
      refine r_goto (pc := 43) (L := [some (.ref b0), some (.int l1), some (.int (l2 ||| (1 <<< (l3 &&& 31)))), some (.int (l3 + 1))]) (tgt := 15) dX8_movable_43 (by decide) ?_
      exact r_le (L' := [some (.ref b0), some (.int l1), some (.int (l2 ||| (1 <<< (l3 &&& 31)))), some (.int (l3 + 1))]) ⟨rfl, ⟨rfl, ⟨rfl, ⟨rfl, trivial⟩⟩⟩⟩ K0
theorem eq_where (a : Int32) : Both mX7_where mX8_where [.int a] := by
  intro x R
  obtain ⟨W, C, S, A, N, E, -, -⟩ := R.sea
  have hn := E.nums
  have hA : A ≤ 24 := hn.2.2.2.2.2.2.2.1
  have ia := inN' (v := a) (n := A) (by omega)
  have rf : ∀ y, EQx x y 7 → mSI mX8_where [.ref 717, .int a] KW y (fun r' z => (if 0 ≤ a ∧ a < nI A then hrF (gi x 718) S N a.toNatClampNeg else -2) = r' ∧ Rel z) := by
    intro y hy
    obtain ⟨R2, eT⟩ := R.e7 hy
    have E2 := E.eqx hy (Or.inl rfl)
    rw [← eT] at E2 ⊢
    have ht := Rel.t2 E2
    refine v_X8_where_0 km R2.2.1.1 km1 ⟨v0 (k := 3) (by decide) rfl rfl, ?_⟩
    rw [ht.2.2.2.1, ia]
    refine ⟨fun z => ⟨if_neg z, R2⟩, fun z => ?_⟩
    rw [if_pos z]
    obtain ⟨i, hi, rfl⟩ := inN (by omega) z
    rw [nI_clamp (show i < 2 ^ 31 by omega)]
    exact sp_X8_hourFor R2.2.1 km1 E2.2.2.2 hi ⟨rfl, R2⟩
  refine v_X7_where_0 k0 R.1.2.1 (ks0 E.1) E.2.1.2.2.2.1 (ks4 E.1) ?_
  rw [hn.2.2.2.1]
  refine ⟨fun z => ?_, fun z => by have := rf x (EQx.rf _ _); rwa [if_neg z] at this⟩
  rw [if_pos z] at rf
  obtain ⟨i, hi, rfl⟩ := inN (by omega) z
  rw [nI_clamp (show i < 2 ^ 31 by omega)] at rf ⊢
  obtain ⟨p, e1, e2, e3, e4⟩ := E.ask hi
  exact ⟨vp_in_nI (by omega) (by decide), p, e1, sp_X4_hourFor E hi e1 (fun y hy => rf y hy)⟩
theorem eq_movable (a : Int32) : Both mX7_movable mX8_movable [.int a] := by
  intro x R
  obtain ⟨W, C, S, A, N, E, -, -⟩ := R.sea
  have hn := E.nums
  have hS : S ≤ 24 := hn.2.2.2.2.2.2.1
  have iS := inN' (v := a) (n := S) (by omega)
  let g : TT → Nat → Nat → Int32 → Int32 := fun T s => orP (fun h => bP (crt T S W N s h))
  have rf : ∀ y, EQx x y 7 → mSI mX8_movable [.ref 717, .int a] KW y (fun r' z => (if 0 ≤ a ∧ a < nI S then accT (g (gi x 718) a.toNatClampNeg) 24 0 else -2) = r' ∧ Rel z) := by
    intro y hy
    obtain ⟨R2, eT⟩ := R.e7 hy
    have E2 := E.eqx hy (Or.inl rfl)
    rw [← eT] at E2 ⊢
    have ht := Rel.t2 E2
    refine v_X8_movable_0 km R2.2.1.1 km1 ⟨v0 (k := 2) (by decide) rfl rfl, ?_⟩
    rw [ht.2.2.1, iS]
    refine ⟨fun z => ?_, fun z => ⟨if_neg z, R2⟩⟩
    rw [if_pos z]
    obtain ⟨s, hs, rfl⟩ := inN (by omega) z
    rw [nI_clamp (show s < 2 ^ 31 by omega)]
    refine lp_acc (g (gi y 718) s) (fun h n => GI mX8_movable 15 [some (.ref 717), some (.int (nI s)), some (.int n), some (.int (nI h))] [] KW y _) 24 0 ?_ (fun h n hh n1 => ?_)
    · exact v_X8_movable_15 km ⟨fun _ => ⟨rfl, R2⟩, fun z => absurd (Int32.le_refl _) z⟩
    · refine v_X8_movable_15 km ⟨fun z => absurd z (nI_ge (b := 24) hh (by decide)), fun _ => ?_⟩
      rw [nI_1, Int32.or_zero]
      exact sp_X8_canRetime R2.2.1 E2.2.2.2 hs hh ⟨fun w => n1 _ (if_pos w), fun w => n1 _ (if_neg w)⟩
  refine v_X7_movable_0 k0 R.1.2.1 (ks0 E.1) ?_
  rw [hn.2.2.1]
  refine ⟨fun z => ?_, fun z => by have := rf x (EQx.rf _ _); rwa [if_neg z] at this⟩
  rw [if_pos z] at rf
  obtain ⟨s, hs, rfl⟩ := inN (by omega) z
  rw [nI_clamp (show s < 2 ^ 31 by omega)] at rf
  refine lp_acc (g (gi x 718) s) (fun h n => ∀ y, EQx x y 7 → GI mX7_movable 15 [some (.ref 0), some (.int (nI s)), some (.int n), some (.int (nI h))] [] KW y _) 24 0 ?_ (fun h n hh n1 => ?_) x (EQx.rf _ _)
  · intro y hy
    exact v_X7_movable_15 k0 ⟨fun _ => rf y hy, fun z => absurd (Int32.le_refl _) z⟩
  · intro y hy
    have E2 := E.eqx hy (Or.inl rfl)
    refine v_X7_movable_15 k0 ⟨fun z => absurd z (nI_ge (b := 24) hh (by decide)), fun _ => ?_⟩
    rw [nI_1]
    exact sp_X7_canRetime (R.1.keep hy.1) E2 hs hh (fun z hz => ⟨fun w => n1 _ (if_pos w) z (hy.tr hz), fun w => n1 _ (if_neg w) z (hy.tr hz)⟩)


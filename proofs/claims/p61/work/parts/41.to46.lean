/-! 41.hours.lean.txt -/
section
/-- the hour at which one is granted: c says where there is room -/
noncomputable def stH (c : Nat → Prop) (h : Nat) : Nat → Unit → Unit ⊕ Int32 := fun d _ => if d ≤ h ∧ ¬ bP (c (h - d)) = 0 then .inr (nI (h - d)) else if h + d < 24 ∧ ¬ bP (c (h + d)) = 0 then .inr (nI (h + d)) else .inl ()
noncomputable def hrF (T : TT) (S N a : Nat) : Int32 := if (ao T a 5).toNatClampNeg < N ∨ S = 24 then -1 else lpR (stH (fun h => fitA T S N a h 0) (ao T a 2).toNatClampNeg) (fun _ => -1) ((ao T a 6).toNatClampNeg + 1) 0 ()
set_option maxHeartbeats 2000000 in
theorem v_X4_hourFor_0 {K : Sh} {x : Cn} {Q : Int32 → Cn → Prop} {b0 : Nat} {b1 : Nat}  (k_b0 : kk K b0 = some (4, 0)) (k_b1 : kk K b1 = some (0, 0)) (K0 : (24 ≤ (gi x b0 3) → (Q (-1) x)) ∧ (¬ 24 ≤ (gi x b0 3) → (((gi x b0 1) ≤ (gi x b1 5) → (mSI mX4_hasPlace [.ref b0, .int (gi x b1 1), .int (gi x b1 2), .int (gi x b1 3), .int (f_sb (gi x b1 4) (gi x b1 5)), .int 0] K x (fun r_4 y_3 => (r_4 = 0 → (GI mX4_hourFor 55 [some (.ref b0), some (.ref b1), some (.int (f_sb (gi x b1 4) (gi x b1 5))), some (.int 1), none, none] [] K y_3 Q)) ∧ (¬ r_4 = 0 → (Q (gi y_3 b1 2) y_3))))) ∧ (¬ (gi x b0 1) ≤ (gi x b1 5) → (Q (-1) x))))) : mSI mX4_hourFor [.ref b0, .ref b1] K x Q := by
  refine s_I (by decide) (by simp [Value.category]) (Nat.le_of_ble_eq_true rfl) ?_
  show mGM mX4_hourFor 0 [some (.ref b0), some (.ref b1), none, none, none, none] [] (hp K x) (PI K Q)
  refine r_aload_n (pc := 0) dX4_hourFor_0 rfl ?_
  refine s_getI (pc := 1) dX4_hourFor_1 fl_X4_21 rfl k_b0 ?_
  refine r_bipush (pc := 4) (v := 24) dX4_hourFor_4 (by decide) ?_
  refine r_icmp_ge (pc := 6) (tgt := 20) dX4_hourFor_6 (by decide) (fun q => ?_) (fun q => ?_)
  · have K0 := K0.1 q
    refine r_iconst (pc := 20) (v := (-1)) dX4_hourFor_20 (by decide) ?_
    exact s_iret rfl dX4_hourFor_21 K0
  · have K0 := K0.2 q
    refine r_aload_n (pc := 9) dX4_hourFor_9 rfl ?_
    refine s_getI (pc := 10) dX4_hourFor_10 fl_X4_109 rfl k_b1 ?_
    refine r_aload_n (pc := 13) dX4_hourFor_13 rfl ?_
    refine s_getI (pc := 14) dX4_hourFor_14 fl_X4_15 rfl k_b0 ?_
    refine r_icmp_ge (pc := 17) (tgt := 22) dX4_hourFor_17 (by decide) (fun q => ?_) (fun q => ?_)
    · have K0 := K0.1 q
      refine r_aload_n (pc := 22) dX4_hourFor_22 rfl ?_
      refine s_VI (pc := 23) mX0_wantedBits (ci := 0) (a := b1) (As := []) dX4_hourFor_23 lk_X4_102 in_X0_wantedBits mo_X0_wantedBits ⟨by decide, rfl⟩ ⟨by decide, by decide⟩ (Nat.le_of_ble_eq_true rfl) k_b1 (sp_X0_wantedBits k_b1 ?_)
      refine r_istore_n (pc := 26) dX4_hourFor_26 (by decide) ?_
      refine r_aload_n (pc := 27) (L := [some (.ref b0), some (.ref b1), some (.int (f_sb (gi x b1 4) (gi x b1 5))), none, none, none]) dX4_hourFor_27 rfl ?_
      refine r_aload_n (pc := 28) dX4_hourFor_28 rfl ?_
      refine s_getI (pc := 29) dX4_hourFor_29 fl_X4_100 rfl k_b1 ?_
      refine r_aload_n (pc := 32) dX4_hourFor_32 rfl ?_
      refine s_getI (pc := 33) dX4_hourFor_33 fl_X4_112 rfl k_b1 ?_
      refine r_aload_n (pc := 36) dX4_hourFor_36 rfl ?_
      refine s_getI (pc := 37) dX4_hourFor_37 fl_X4_101 rfl k_b1 ?_
      refine r_iload_n (pc := 40) dX4_hourFor_40 rfl ?_
      refine r_iconst (pc := 41) (v := 0) dX4_hourFor_41 (by decide) ?_
      refine s_VI (pc := 42) mX4_hasPlace (ci := 4) (a := b0) (As := [.int (gi x b1 1), .int (gi x b1 2), .int (gi x b1 3), .int (f_sb (gi x b1 4) (gi x b1 5)), .int 0]) dX4_hourFor_42 lk_X4_105 in_X4_hasPlace mo_X4_hasPlace ⟨by decide, rfl⟩ ⟨by decide, by decide⟩ (Nat.le_of_ble_eq_true rfl) k_b0 (mSI_mono K0 (fun r_4 y_3 K0 => ?_))
      refine r_if_eq (pc := 45) (tgt := 53) dX4_hourFor_45 (by decide) (fun q => ?_) (fun q => ?_)
      · have K0 := K0.1 q
        refine r_iconst (pc := 53) (v := 1) dX4_hourFor_53 (by decide) ?_
        refine r_istore_n (pc := 54) dX4_hourFor_54 (by decide) ?_
        exact r_le (L' := [some (.ref b0), some (.ref b1), some (.int (f_sb (gi x b1 4) (gi x b1 5))), some (.int 1), none, none]) ⟨rfl, ⟨rfl, ⟨rfl, ⟨rfl, trivial⟩⟩⟩⟩ K0
      · have K0 := K0.2 q
        refine r_aload_n (pc := 48) dX4_hourFor_48 rfl ?_
        refine s_getI (pc := 49) dX4_hourFor_49 fl_X4_112 rfl k_b1 ?_
        exact s_iret rfl dX4_hourFor_52 K0
    · have K0 := K0.2 q
      refine r_iconst (pc := 20) (v := (-1)) dX4_hourFor_20 (by decide) ?_
      exact s_iret rfl dX4_hourFor_21 K0
set_option maxHeartbeats 2000000 in
theorem v_X4_hourFor_55 {K : Sh} {x : Cn} {Q : Int32 → Cn → Prop} {b0 : Nat} {b1 : Nat} {l2 : Int32} {l3 : Int32}  (k_b1 : kk K b1 = some (0, 0)) (k_b0 : kk K b0 = some (4, 0)) (K0 : ((gi x b1 6) < l3 → (Q (-1) x)) ∧ (¬ (gi x b1 6) < l3 → ((((gi x b1 2) - l3) < 0 → ((24 ≤ ((gi x b1 2) + l3) → (GI mX4_hourFor 55 [some (.ref b0), some (.ref b1), some (.int l2), some (.int (l3 + 1)), none, none] [] K x Q)) ∧ (¬ 24 ≤ ((gi x b1 2) + l3) → (mSI mX4_hasPlace [.ref b0, .int (gi x b1 1), .int ((gi x b1 2) + l3), .int (gi x b1 3), .int l2, .int 0] K x (fun r_5 y_4 => (r_5 = 0 → (GI mX4_hourFor 55 [some (.ref b0), some (.ref b1), some (.int l2), some (.int (l3 + 1)), none, none] [] K y_4 Q)) ∧ (¬ r_5 = 0 → (Q ((gi x b1 2) + l3) y_4))))))) ∧ (¬ ((gi x b1 2) - l3) < 0 → (mSI mX4_hasPlace [.ref b0, .int (gi x b1 1), .int ((gi x b1 2) - l3), .int (gi x b1 3), .int l2, .int 0] K x (fun r_8 y_7 => (r_8 = 0 → ((24 ≤ ((gi y_7 b1 2) + l3) → (GI mX4_hourFor 55 [some (.ref b0), some (.ref b1), some (.int l2), some (.int (l3 + 1)), none, none] [] K y_7 Q)) ∧ (¬ 24 ≤ ((gi y_7 b1 2) + l3) → (mSI mX4_hasPlace [.ref b0, .int (gi y_7 b1 1), .int ((gi y_7 b1 2) + l3), .int (gi y_7 b1 3), .int l2, .int 0] K y_7 (fun r_12 y_11 => (r_12 = 0 → (GI mX4_hourFor 55 [some (.ref b0), some (.ref b1), some (.int l2), some (.int (l3 + 1)), none, none] [] K y_11 Q)) ∧ (¬ r_12 = 0 → (Q ((gi y_7 b1 2) + l3) y_11))))))) ∧ (¬ r_8 = 0 → (Q ((gi x b1 2) - l3) y_7)))))))) : GI mX4_hourFor 55 [some (.ref b0), some (.ref b1), some (.int l2), some (.int l3), none, none] [] K x Q := by
  show mGM mX4_hourFor 55 [some (.ref b0), some (.ref b1), some (.int l2), some (.int l3), none, none] [] (hp K x) (PI K Q)
  refine r_iload_n (pc := 55) dX4_hourFor_55 rfl ?_
  refine r_aload_n (pc := 56) dX4_hourFor_56 rfl ?_
  refine s_getI (pc := 57) dX4_hourFor_57 fl_X4_113 rfl k_b1 ?_
  refine r_icmp_gt (pc := 60) (tgt := 141) dX4_hourFor_60 (by decide) (fun q => ?_) (fun q => ?_)
  · have K0 := K0.1 q
    refine r_iconst (pc := 141) (v := (-1)) dX4_hourFor_141 (by decide) ?_
    exact s_iret rfl dX4_hourFor_142 K0
  · have K0 := K0.2 q
    refine r_aload_n (pc := 63) dX4_hourFor_63 rfl ?_
    refine s_getI (pc := 64) dX4_hourFor_64 fl_X4_112 rfl k_b1 ?_
    refine r_iload_n (pc := 67) dX4_hourFor_67 rfl ?_
    refine r_isub (pc := 68) dX4_hourFor_68 ?_
    refine r_istore (pc := 69) dX4_hourFor_69 (by decide) ?_
    refine r_iload (pc := 71) (L := [some (.ref b0), some (.ref b1), some (.int l2), some (.int l3), some (.int ((gi x b1 2) - l3)), none]) dX4_hourFor_71 rfl ?_
    refine r_if_lt (pc := 73) (tgt := 98) dX4_hourFor_73 (by decide) (fun q => ?_) (fun q => ?_)
    · have K0 := K0.1 q
      refine r_aload_n (pc := 98) dX4_hourFor_98 rfl ?_
      refine s_getI (pc := 99) dX4_hourFor_99 fl_X4_112 rfl k_b1 ?_
      refine r_iload_n (pc := 102) dX4_hourFor_102 rfl ?_
      refine r_iadd (pc := 103) dX4_hourFor_103 ?_
      refine r_istore (pc := 104) dX4_hourFor_104 (by decide) ?_
      refine r_iload (pc := 106) (L := [some (.ref b0), some (.ref b1), some (.int l2), some (.int l3), some (.int ((gi x b1 2) - l3)), some (.int ((gi x b1 2) + l3))]) dX4_hourFor_106 rfl ?_
      refine r_bipush (pc := 108) (v := 24) dX4_hourFor_108 (by decide) ?_
      refine r_icmp_ge (pc := 110) (tgt := 135) dX4_hourFor_110 (by decide) (fun q => ?_) (fun q => ?_)
      · have K0 := K0.1 q
        refine r_iinc (pc := 135) (v := l3 + 1) dX4_hourFor_135 rfl rfl (by decide) ?_
        refine r_goto (pc := 138) (L := [some (.ref b0), some (.ref b1), some (.int l2), some (.int (l3 + 1)), some (.int ((gi x b1 2) - l3)), some (.int ((gi x b1 2) + l3))]) (tgt := 55) dX4_hourFor_138 (by decide) ?_
        exact r_le (L' := [some (.ref b0), some (.ref b1), some (.int l2), some (.int (l3 + 1)), none, none]) ⟨rfl, ⟨rfl, ⟨rfl, ⟨rfl, trivial⟩⟩⟩⟩ K0
      · have K0 := K0.2 q
        refine r_aload_n (pc := 113) dX4_hourFor_113 rfl ?_
        refine r_aload_n (pc := 114) dX4_hourFor_114 rfl ?_
        refine s_getI (pc := 115) dX4_hourFor_115 fl_X4_100 rfl k_b1 ?_
        refine r_iload (pc := 118) dX4_hourFor_118 rfl ?_
        refine r_aload_n (pc := 120) dX4_hourFor_120 rfl ?_
        refine s_getI (pc := 121) dX4_hourFor_121 fl_X4_101 rfl k_b1 ?_
        refine r_iload_n (pc := 124) dX4_hourFor_124 rfl ?_
        refine r_iconst (pc := 125) (v := 0) dX4_hourFor_125 (by decide) ?_
        refine s_VI (pc := 126) mX4_hasPlace (ci := 4) (a := b0) (As := [.int (gi x b1 1), .int ((gi x b1 2) + l3), .int (gi x b1 3), .int l2, .int 0]) dX4_hourFor_126 lk_X4_105 in_X4_hasPlace mo_X4_hasPlace ⟨by decide, rfl⟩ ⟨by decide, by decide⟩ (Nat.le_of_ble_eq_true rfl) k_b0 (mSI_mono K0 (fun r_5 y_4 K0 => ?_))
        refine r_if_eq (pc := 129) (tgt := 135) dX4_hourFor_129 (by decide) (fun q => ?_) (fun q => ?_)
        · have K0 := K0.1 q
          refine r_iinc (pc := 135) (v := l3 + 1) dX4_hourFor_135 rfl rfl (by decide) ?_
          refine r_goto (pc := 138) (L := [some (.ref b0), some (.ref b1), some (.int l2), some (.int (l3 + 1)), some (.int ((gi x b1 2) - l3)), some (.int ((gi x b1 2) + l3))]) (tgt := 55) dX4_hourFor_138 (by decide) ?_
          exact r_le (L' := [some (.ref b0), some (.ref b1), some (.int l2), some (.int (l3 + 1)), none, none]) ⟨rfl, ⟨rfl, ⟨rfl, ⟨rfl, trivial⟩⟩⟩⟩ K0
        · have K0 := K0.2 q
          refine r_iload (pc := 132) dX4_hourFor_132 rfl ?_
          exact s_iret rfl dX4_hourFor_134 K0
    · have K0 := K0.2 q
      refine r_aload_n (pc := 76) dX4_hourFor_76 rfl ?_
      refine r_aload_n (pc := 77) dX4_hourFor_77 rfl ?_
      refine s_getI (pc := 78) dX4_hourFor_78 fl_X4_100 rfl k_b1 ?_
      refine r_iload (pc := 81) dX4_hourFor_81 rfl ?_
      refine r_aload_n (pc := 83) dX4_hourFor_83 rfl ?_
      refine s_getI (pc := 84) dX4_hourFor_84 fl_X4_101 rfl k_b1 ?_
      refine r_iload_n (pc := 87) dX4_hourFor_87 rfl ?_
      refine r_iconst (pc := 88) (v := 0) dX4_hourFor_88 (by decide) ?_
      refine s_VI (pc := 89) mX4_hasPlace (ci := 4) (a := b0) (As := [.int (gi x b1 1), .int ((gi x b1 2) - l3), .int (gi x b1 3), .int l2, .int 0]) dX4_hourFor_89 lk_X4_105 in_X4_hasPlace mo_X4_hasPlace ⟨by decide, rfl⟩ ⟨by decide, by decide⟩ (Nat.le_of_ble_eq_true rfl) k_b0 (mSI_mono K0 (fun r_8 y_7 K0 => ?_))
      refine r_if_eq (pc := 92) (tgt := 98) dX4_hourFor_92 (by decide) (fun q => ?_) (fun q => ?_)
      · have K0 := K0.1 q
        refine r_aload_n (pc := 98) dX4_hourFor_98 rfl ?_
        refine s_getI (pc := 99) dX4_hourFor_99 fl_X4_112 rfl k_b1 ?_
        refine r_iload_n (pc := 102) dX4_hourFor_102 rfl ?_
        refine r_iadd (pc := 103) dX4_hourFor_103 ?_
        refine r_istore (pc := 104) dX4_hourFor_104 (by decide) ?_
        refine r_iload (pc := 106) (L := [some (.ref b0), some (.ref b1), some (.int l2), some (.int l3), some (.int ((gi x b1 2) - l3)), some (.int ((gi y_7 b1 2) + l3))]) dX4_hourFor_106 rfl ?_
        refine r_bipush (pc := 108) (v := 24) dX4_hourFor_108 (by decide) ?_
        refine r_icmp_ge (pc := 110) (tgt := 135) dX4_hourFor_110 (by decide) (fun q => ?_) (fun q => ?_)
        · have K0 := K0.1 q
          refine r_iinc (pc := 135) (v := l3 + 1) dX4_hourFor_135 rfl rfl (by decide) ?_
          refine r_goto (pc := 138) (L := [some (.ref b0), some (.ref b1), some (.int l2), some (.int (l3 + 1)), some (.int ((gi x b1 2) - l3)), some (.int ((gi y_7 b1 2) + l3))]) (tgt := 55) dX4_hourFor_138 (by decide) ?_
          exact r_le (L' := [some (.ref b0), some (.ref b1), some (.int l2), some (.int (l3 + 1)), none, none]) ⟨rfl, ⟨rfl, ⟨rfl, ⟨rfl, trivial⟩⟩⟩⟩ K0
        · have K0 := K0.2 q
          refine r_aload_n (pc := 113) dX4_hourFor_113 rfl ?_
          refine r_aload_n (pc := 114) dX4_hourFor_114 rfl ?_
          refine s_getI (pc := 115) dX4_hourFor_115 fl_X4_100 rfl k_b1 ?_
          refine r_iload (pc := 118) dX4_hourFor_118 rfl ?_
          refine r_aload_n (pc := 120) dX4_hourFor_120 rfl ?_
          refine s_getI (pc := 121) dX4_hourFor_121 fl_X4_101 rfl k_b1 ?_
          refine r_iload_n (pc := 124) dX4_hourFor_124 rfl ?_
          refine r_iconst (pc := 125) (v := 0) dX4_hourFor_125 (by decide) ?_
          refine s_VI (pc := 126) mX4_hasPlace (ci := 4) (a := b0) (As := [.int (gi y_7 b1 1), .int ((gi y_7 b1 2) + l3), .int (gi y_7 b1 3), .int l2, .int 0]) dX4_hourFor_126 lk_X4_105 in_X4_hasPlace mo_X4_hasPlace ⟨by decide, rfl⟩ ⟨by decide, by decide⟩ (Nat.le_of_ble_eq_true rfl) k_b0 (mSI_mono K0 (fun r_12 y_11 K0 => ?_))
          refine r_if_eq (pc := 129) (tgt := 135) dX4_hourFor_129 (by decide) (fun q => ?_) (fun q => ?_)
          · have K0 := K0.1 q
            refine r_iinc (pc := 135) (v := l3 + 1) dX4_hourFor_135 rfl rfl (by decide) ?_
            refine r_goto (pc := 138) (L := [some (.ref b0), some (.ref b1), some (.int l2), some (.int (l3 + 1)), some (.int ((gi x b1 2) - l3)), some (.int ((gi y_7 b1 2) + l3))]) (tgt := 55) dX4_hourFor_138 (by decide) ?_
            exact r_le (L' := [some (.ref b0), some (.ref b1), some (.int l2), some (.int (l3 + 1)), none, none]) ⟨rfl, ⟨rfl, ⟨rfl, ⟨rfl, trivial⟩⟩⟩⟩ K0
          · have K0 := K0.2 q
            refine r_iload (pc := 132) dX4_hourFor_132 rfl ?_
            exact s_iret rfl dX4_hourFor_134 K0
      · have K0 := K0.2 q
        refine r_iload (pc := 95) dX4_hourFor_95 rfl ?_
        exact s_iret rfl dX4_hourFor_97 K0
section
variable {x : Cn} {Q : Int32 → Cn → Prop}
theorem sp_X4_hourFor {q : Nat} {T : TT} {W C S A N : Nat} (E : SEA x q T W C S A N) {a p : Nat} (ha : a < A) (hg : gr x (q + 4) a = some p) (k : ∀ y, EQx x y (q + 5) → Q (hrF T S N a) y) : mSI mX4_hourFor [.ref q, .ref p] KW x Q := by
  have hn := E.nums
  have hA : A ≤ 24 := hn.2.2.2.2.2.2.2.1
  have hS : S ≤ 24 := hn.2.2.2.2.2.2.1
  obtain ⟨p', e1, e2, e3, ⟨-, -, ⟨h, h1, h2⟩, -, ⟨f, l, f1, f2, f3, f4⟩, ⟨b, b1, b2⟩⟩⟩ := E.ask ha
  have epp : p' = p := Option.some.inj (e1.symm.trans hg)
  subst epp
  have hW : W ≤ 30 := hn.2.2.2.2.1
  have hN : N ≤ W := hn.2.2.2.2.2.2.2.2
  have ep : ∀ y, EQx x y (q + 5) → ASR y p' T a := fun y hy => (E.eqx hy (Or.inl rfl)).2.2.1.2.2.2.2.2.2.2 a p' ha (by unfold gr; rw [hy.1]; exact hg)
  refine v_X4_hourFor_0 (ks0 E.1) e2 ?_
  rw [hn.2.2.1, hn.2.1, e3 5 (by decide), f4, e3 2 (by decide), h2]
  refine ⟨fun z => ?_, fun z => ⟨fun z2 => ?_, fun z2 => ?_⟩⟩
  · have hz : S = 24 := by
      have := (nI_leI (a := 24) (b := S) (by decide) (by omega)).mp z
      omega
    have := k x (EQx.rf _ _)
    unfold hrF at this
    rwa [if_pos (Or.inr hz)] at this
  · have z3 : N ≤ l := (nI_leI (by omega) (by omega)).mp z2
    have z4 : ¬ S = 24 := fun e => z (by rw [e]; exact Int32.le_refl _)
    have k2 : ∀ y, EQx x y (q + 5) → Q (lpR (stH (fun h => fitA T S N a h 0) h) (fun _ => -1) (b + 1) 0 ()) y := by
      intro y hy
      have := k y hy
      unfold hrF at this
      rwa [f4, nI_clamp (by omega), if_neg (by omega), h2, nI_clamp (by omega), b2, nI_clamp (by omega)] at this
    rw [e3 1 (by decide), e3 3 (by decide), e3 4 (by decide), f3]
    have fA : ∀ h, fitC T S N (ao T a 1) h (ao T a 3) (f_sb (nI f) (nI l)) 0 = fitA T S N a h 0 := fun h => by unfold fitA; rw [f3, f4]
    refine sp_X4_hasPlace E h1 (fun y hy => ?_)
    rw [fA]
    refine ⟨fun w => ?_, fun w => ?_⟩
    · have k3 : ∀ y, EQx x y (q + 5) → Q (lpR (stH (fun h => fitA T S N a h 0) h) (fun _ => -1) b 1 ()) y := by
        intro y hy
        have := k2 y hy
        simp only [lpR] at this
        have e0 : stH (fun h => fitA T S N a h 0) h 0 () = .inl () := by
          unfold stH
          rw [if_neg (fun u => u.2 (by simpa using w)), if_neg (fun u => u.2 (by simpa using w))]
        rw [e0] at this
        exact this
      refine lp_gen (stH (fun h => fitA T S N a h 0) h) (fun _ => -1) (fun d _ => ∀ y, EQx x y (q + 5) → GI mX4_hourFor 55 [some (.ref q), some (.ref p'), some (.int (f_sb (nI f) (nI l))), some (.int (nI d)), none, none] [] KW y Q) (fun r => ∀ y, EQx x y (q + 5) → Q r y) (b + 1) (fun _ k y hy => ?_) (fun d _ hd n1 n2 y hy => ?_) b 1 () (by omega) k3 y hy
      · refine v_X4_hourFor_55 e2 (ks0 E.1) ?_
        rw [ep y hy 6 (by decide), b2]
        exact ⟨fun _ => k y hy, fun z => absurd (nI_lt (by omega) (by omega)) z⟩
      · have E2 := E.eqx hy (Or.inl rfl)
        refine v_X4_hourFor_55 e2 (ks0 E.1) ?_
        rw [ep y hy 6 (by decide), b2, ep y hy 2 (by decide), h2, ep y hy 1 (by decide), ep y hy 3 (by decide), nI_add, nI_1]
        refine ⟨fun z => absurd z (nI_nlt (by omega) (by omega)), fun _ => ?_⟩
        have up : ∀ y, EQx x y (q + 5) → ¬ (d ≤ h ∧ ¬ bP (fitA T S N a (h - d) 0) = 0) → (nI 24 ≤ nI (h + d) → GI mX4_hourFor 55 [some (.ref q), some (.ref p'), some (.int (f_sb (nI f) (nI l))), some (.int (nI (d + 1))), none, none] [] KW y Q) ∧ (¬ nI 24 ≤ nI (h + d) → mSI mX4_hasPlace [.ref q, .int (ao T a 1), .int (nI (h + d)), .int (ao T a 3), .int (f_sb (nI f) (nI l)), .int 0] KW y (fun r y_4 => (r = 0 → GI mX4_hourFor 55 [some (.ref q), some (.ref p'), some (.int (f_sb (nI f) (nI l))), some (.int (nI (d + 1))), none, none] [] KW y_4 Q) ∧ (¬ r = 0 → Q (nI (h + d)) y_4))) := by
          intro y hy w
          refine ⟨fun z => n1 () ?_ y hy, fun z => ?_⟩
          · unfold stH
            rw [if_neg w, if_neg (fun u => nI_ge u.1 (by decide) z)]
          · have hd2 : h + d < 24 := by
              by_cases c : h + d < 24
              · exact c
              · exact absurd (nI_le (by omega) (by omega)) z
            refine sp_X4_hasPlace (E.eqx hy (Or.inl rfl)) hd2 (fun y2 hy2 => ?_)
            rw [fA]
            refine ⟨fun u => n1 () ?_ y2 (hy.tr hy2), fun u => n2 _ ?_ y2 (hy.tr hy2)⟩
            · unfold stH
              rw [if_neg w, if_neg (fun g => g.2 u)]
            · unfold stH
              rw [if_neg w, if_pos ⟨hd2, u⟩]
        refine ⟨fun z => up y hy (fun u => ?_), fun z => ?_⟩
        · rw [pk_sub u.1] at z
          exact nI_pos (by omega) z
        · have hd2 : d ≤ h := by
            by_cases c : d ≤ h
            · exact c
            · exact absurd (pk_sneg (by omega) (by omega)) z
          rw [pk_sub hd2]
          refine sp_X4_hasPlace E2 (by omega) (fun y2 hy2 => ?_)
          rw [fA]
          refine ⟨fun u => ?_, fun u => n2 _ ?_ y2 (hy.tr hy2)⟩
          · have hy3 := hy.tr hy2
            rw [ep y2 hy3 2 (by decide), h2, ep y2 hy3 1 (by decide), ep y2 hy3 3 (by decide), nI_add]
            exact up y2 hy3 (fun g => g.2 u)
          · unfold stH
            rw [if_pos ⟨hd2, u⟩]
    · have := k2 y hy
      simp only [lpR] at this
      have e0 : stH (fun h => fitA T S N a h 0) h 0 () = .inr (nI h) := by
        unfold stH
        rw [if_pos ⟨Nat.zero_le _, by simpa using w⟩]
        rfl
      rw [e0] at this
      rw [ep y hy 2 (by decide), h2]
      exact this
  · have z3 : l < N := by
      by_cases c : l < N
      · exact c
      · exact absurd (nI_le (by omega) (by omega)) z2
    have := k x (EQx.rf _ _)
    unfold hrF at this
    rw [f4, nI_clamp (by omega), if_pos (Or.inl z3)] at this
    exact this
end
set_option maxHeartbeats 2000000 in
theorem v_X8_hourFor_0 {K : Sh} {x : Cn} {Q : Int32 → Cn → Prop} {b0 : Nat} {l1 : Int32} {b0_3 : Nat} {n_b0_3 : Nat} (k_b0 : kk K b0 = some (8, 0)) (g_b0_3 : gr x b0 3 = some b0_3) (k_b0_3 : kk K b0_3 = some (20, n_b0_3)) (K0 : (l24 l1 n_b0_3) ∧ (((f_span (ao (gi x b0_3) (l1 : Int32).toNatClampNeg 4) (ao (gi x b0_3) (l1 : Int32).toNatClampNeg 5) &&& f_span (gi x b0_3 4) (gi x b0_3 0 - 1)) = 0 → (Q (-1) x)) ∧ (¬ (f_span (ao (gi x b0_3) (l1 : Int32).toNatClampNeg 4) (ao (gi x b0_3) (l1 : Int32).toNatClampNeg 5) &&& f_span (gi x b0_3 4) (gi x b0_3 0 - 1)) = 0 → (vp_in 2 n_b0_3 ∧ ((¬ (gi x b0_3 2) = 24 → (GI mX8_hourFor 30 [some (.ref b0), some (.int l1), some (.int (ao (gi x b0_3) (l1 : Int32).toNatClampNeg 2)), some (.int 0)] [] K x Q)) ∧ ((gi x b0_3 2) = 24 → (Q (-1) x))))))) : mSI mX8_hourFor [.ref b0, .int l1] K x Q := by
  refine s_I (by decide) (by simp [Value.category]) (Nat.le_of_ble_eq_true rfl) ?_
  show mGM mX8_hourFor 0 [some (.ref b0), some (.int l1), none, none] [] (hp K x) (PI K Q)
  refine r_aload_n (pc := 0) dX8_hourFor_0 rfl ?_
  refine r_iload_n (pc := 1) dX8_hourFor_1 rfl ?_
  obtain ⟨p_1, K0⟩ := K0
  refine s_VI (pc := 2) mX8_weeksOf (ci := 8) (a := b0) (As := [.int l1]) dX8_hourFor_2 lk_X8_326 in_X8_weeksOf mo_X8_weeksOf ⟨by decide, rfl⟩ ⟨by decide, by decide⟩ (Nat.le_of_ble_eq_true rfl) k_b0 (sr_X8_weeksOf k_b0 g_b0_3 k_b0_3 p_1 ?_)
  refine r_if_eq (pc := 5) (tgt := 19) dX8_hourFor_5 (by decide) (fun q => ?_) (fun q => ?_)
  · have K0 := K0.1 q
    refine r_iconst (pc := 19) (v := (-1)) dX8_hourFor_19 (by decide) ?_
    exact s_iret rfl dX8_hourFor_20 K0
  · have K0 := K0.2 q
    refine r_aload_n (pc := 8) dX8_hourFor_8 rfl ?_
    refine s_getR (pc := 9) dX8_hourFor_9 fl_X8_16 rfl k_b0 g_b0_3 ?_
    refine r_iconst (pc := 12) (v := 2) dX8_hourFor_12 (by decide) ?_
    obtain ⟨i_3, K0⟩ := K0
    refine s_iald (pc := 13) dX8_hourFor_13 k_b0_3 i_3 ?_
    refine r_bipush (pc := 14) (v := 24) dX8_hourFor_14 (by decide) ?_
    refine r_icmp_ne (pc := 16) (tgt := 21) dX8_hourFor_16 (by decide) (fun q => ?_) (fun q => ?_)
    · have K0 := K0.1 q
      refine r_aload_n (pc := 21) dX8_hourFor_21 rfl ?_
      refine r_iload_n (pc := 22) dX8_hourFor_22 rfl ?_
      refine r_iconst (pc := 23) (v := 2) dX8_hourFor_23 (by decide) ?_
      refine s_VI (pc := 24) mX8_ask0 (ci := 8) (a := b0) (As := [.int l1, .int 2]) dX8_hourFor_24 lk_X8_284 in_X8_ask0 mo_X8_ask0 ⟨by decide, rfl⟩ ⟨by decide, by decide⟩ (Nat.le_of_ble_eq_true rfl) k_b0 (sr_X8_ask0 k_b0 g_b0_3 k_b0_3 p_1 ⟨by decide, by decide⟩ ?_)
      refine r_istore_n (pc := 27) dX8_hourFor_27 (by decide) ?_
      refine r_iconst (pc := 28) (L := [some (.ref b0), some (.int l1), some (.int (ao (gi x b0_3) (l1 : Int32).toNatClampNeg 2)), none]) (v := 0) dX8_hourFor_28 (by decide) ?_
      refine r_istore_n (pc := 29) dX8_hourFor_29 (by decide) ?_
      exact r_le (L' := [some (.ref b0), some (.int l1), some (.int (ao (gi x b0_3) (l1 : Int32).toNatClampNeg 2)), some (.int 0)]) ⟨rfl, ⟨rfl, ⟨rfl, ⟨rfl, trivial⟩⟩⟩⟩ K0
    · have K0 := K0.2 q
      refine r_iconst (pc := 19) (v := (-1)) dX8_hourFor_19 (by decide) ?_
      exact s_iret rfl dX8_hourFor_20 K0
set_option maxHeartbeats 2000000 in
theorem v_X8_hourFor_30 {K : Sh} {x : Cn} {Q : Int32 → Cn → Prop} {b0 : Nat} {l1 : Int32} {l2 : Int32} {l3 : Int32} {b0_3 : Nat} {n_b0_3 : Nat} (k_b0 : kk K b0 = some (8, 0)) (g_b0_3 : gr x b0 3 = some b0_3) (k_b0_3 : kk K b0_3 = some (20, n_b0_3)) (K0 : (l24 l1 n_b0_3) ∧ (((ao (gi x b0_3) (l1 : Int32).toNatClampNeg 6) < l3 → (Q (-1) x)) ∧ (¬ (ao (gi x b0_3) (l1 : Int32).toNatClampNeg 6) < l3 → ((l2 < l3 → ((24 ≤ (l2 + l3) → (GI mX8_hourFor 30 [some (.ref b0), some (.int l1), some (.int l2), some (.int (l3 + 1))] [] K x Q)) ∧ (¬ 24 ≤ (l2 + l3) → (mSI mX8_canAsk [.ref b0, .int l1, .int (l2 + l3), .int (-1)] K x (fun r_6 y_5 => (r_6 = 0 → (GI mX8_hourFor 30 [some (.ref b0), some (.int l1), some (.int l2), some (.int (l3 + 1))] [] K y_5 Q)) ∧ (¬ r_6 = 0 → (Q (l2 + l3) y_5))))))) ∧ (¬ l2 < l3 → (mSI mX8_canAsk [.ref b0, .int l1, .int (l2 - l3), .int (-1)] K x (fun r_9 y_8 => (r_9 = 0 → ((24 ≤ (l2 + l3) → (GI mX8_hourFor 30 [some (.ref b0), some (.int l1), some (.int l2), some (.int (l3 + 1))] [] K y_8 Q)) ∧ (¬ 24 ≤ (l2 + l3) → (mSI mX8_canAsk [.ref b0, .int l1, .int (l2 + l3), .int (-1)] K y_8 (fun r_13 y_12 => (r_13 = 0 → (GI mX8_hourFor 30 [some (.ref b0), some (.int l1), some (.int l2), some (.int (l3 + 1))] [] K y_12 Q)) ∧ (¬ r_13 = 0 → (Q (l2 + l3) y_12))))))) ∧ (¬ r_9 = 0 → (Q (l2 - l3) y_8))))))))) : GI mX8_hourFor 30 [some (.ref b0), some (.int l1), some (.int l2), some (.int l3)] [] K x Q := by
  show mGM mX8_hourFor 30 [some (.ref b0), some (.int l1), some (.int l2), some (.int l3)] [] (hp K x) (PI K Q)
  refine r_iload_n (pc := 30) dX8_hourFor_30 rfl ?_
  refine r_aload_n (pc := 31) dX8_hourFor_31 rfl ?_
  refine r_iload_n (pc := 32) dX8_hourFor_32 rfl ?_
  refine r_bipush (pc := 33) (v := 6) dX8_hourFor_33 (by decide) ?_
  obtain ⟨p_1, K0⟩ := K0
  refine s_VI (pc := 35) mX8_ask0 (ci := 8) (a := b0) (As := [.int l1, .int 6]) dX8_hourFor_35 lk_X8_284 in_X8_ask0 mo_X8_ask0 ⟨by decide, rfl⟩ ⟨by decide, by decide⟩ (Nat.le_of_ble_eq_true rfl) k_b0 (sr_X8_ask0 k_b0 g_b0_3 k_b0_3 p_1 ⟨by decide, by decide⟩ ?_)
  refine r_icmp_gt (pc := 38) (tgt := 92) dX8_hourFor_38 (by decide) (fun q => ?_) (fun q => ?_)
  · have K0 := K0.1 q
    refine r_iconst (pc := 92) (v := (-1)) dX8_hourFor_92 (by decide) ?_
    exact s_iret rfl dX8_hourFor_93 K0
  · have K0 := K0.2 q
    refine r_iload_n (pc := 41) dX8_hourFor_41 rfl ?_
    refine r_iload_n (pc := 42) dX8_hourFor_42 rfl ?_
    refine r_icmp_lt (pc := 43) (tgt := 62) dX8_hourFor_43 (by decide) (fun q => ?_) (fun q => ?_)
    · have K0 := K0.1 q
      refine r_iload_n (pc := 62) dX8_hourFor_62 rfl ?_
      refine r_iload_n (pc := 63) dX8_hourFor_63 rfl ?_
      refine r_iadd (pc := 64) dX8_hourFor_64 ?_
      refine r_bipush (pc := 65) (v := 24) dX8_hourFor_65 (by decide) ?_
      refine r_icmp_ge (pc := 67) (tgt := 86) dX8_hourFor_67 (by decide) (fun q => ?_) (fun q => ?_)
      · have K0 := K0.1 q
        refine r_iinc (pc := 86) (v := l3 + 1) dX8_hourFor_86 rfl rfl (by decide) ?_
        refine r_goto (pc := 89) (L := [some (.ref b0), some (.int l1), some (.int l2), some (.int (l3 + 1))]) (tgt := 30) dX8_hourFor_89 (by decide) ?_
        exact r_le (L' := [some (.ref b0), some (.int l1), some (.int l2), some (.int (l3 + 1))]) ⟨rfl, ⟨rfl, ⟨rfl, ⟨rfl, trivial⟩⟩⟩⟩ K0
      · have K0 := K0.2 q
        refine r_aload_n (pc := 70) dX8_hourFor_70 rfl ?_
        refine r_iload_n (pc := 71) dX8_hourFor_71 rfl ?_
        refine r_iload_n (pc := 72) dX8_hourFor_72 rfl ?_
        refine r_iload_n (pc := 73) dX8_hourFor_73 rfl ?_
        refine r_iadd (pc := 74) dX8_hourFor_74 ?_
        refine r_iconst (pc := 75) (v := (-1)) dX8_hourFor_75 (by decide) ?_
        refine s_VI (pc := 76) mX8_canAsk (ci := 8) (a := b0) (As := [.int l1, .int (l2 + l3), .int (-1)]) dX8_hourFor_76 lk_X8_329 in_X8_canAsk mo_X8_canAsk ⟨by decide, rfl⟩ ⟨by decide, by decide⟩ (Nat.le_of_ble_eq_true rfl) k_b0 (mSI_mono K0 (fun r_6 y_5 K0 => ?_))
        refine r_if_eq (pc := 79) (tgt := 86) dX8_hourFor_79 (by decide) (fun q => ?_) (fun q => ?_)
        · have K0 := K0.1 q
          refine r_iinc (pc := 86) (v := l3 + 1) dX8_hourFor_86 rfl rfl (by decide) ?_
          refine r_goto (pc := 89) (L := [some (.ref b0), some (.int l1), some (.int l2), some (.int (l3 + 1))]) (tgt := 30) dX8_hourFor_89 (by decide) ?_
          exact r_le (L' := [some (.ref b0), some (.int l1), some (.int l2), some (.int (l3 + 1))]) ⟨rfl, ⟨rfl, ⟨rfl, ⟨rfl, trivial⟩⟩⟩⟩ K0
        · have K0 := K0.2 q
          refine r_iload_n (pc := 82) dX8_hourFor_82 rfl ?_
          refine r_iload_n (pc := 83) dX8_hourFor_83 rfl ?_
          refine r_iadd (pc := 84) dX8_hourFor_84 ?_
          exact s_iret rfl dX8_hourFor_85 K0
    · have K0 := K0.2 q
      refine r_aload_n (pc := 46) dX8_hourFor_46 rfl ?_
      refine r_iload_n (pc := 47) dX8_hourFor_47 rfl ?_
      refine r_iload_n (pc := 48) dX8_hourFor_48 rfl ?_
      refine r_iload_n (pc := 49) dX8_hourFor_49 rfl ?_
      refine r_isub (pc := 50) dX8_hourFor_50 ?_
      refine r_iconst (pc := 51) (v := (-1)) dX8_hourFor_51 (by decide) ?_
      refine s_VI (pc := 52) mX8_canAsk (ci := 8) (a := b0) (As := [.int l1, .int (l2 - l3), .int (-1)]) dX8_hourFor_52 lk_X8_329 in_X8_canAsk mo_X8_canAsk ⟨by decide, rfl⟩ ⟨by decide, by decide⟩ (Nat.le_of_ble_eq_true rfl) k_b0 (mSI_mono K0 (fun r_9 y_8 K0 => ?_))
      refine r_if_eq (pc := 55) (tgt := 62) dX8_hourFor_55 (by decide) (fun q => ?_) (fun q => ?_)
      · have K0 := K0.1 q
        refine r_iload_n (pc := 62) dX8_hourFor_62 rfl ?_
        refine r_iload_n (pc := 63) dX8_hourFor_63 rfl ?_
        refine r_iadd (pc := 64) dX8_hourFor_64 ?_
        refine r_bipush (pc := 65) (v := 24) dX8_hourFor_65 (by decide) ?_
        refine r_icmp_ge (pc := 67) (tgt := 86) dX8_hourFor_67 (by decide) (fun q => ?_) (fun q => ?_)
        · have K0 := K0.1 q
          refine r_iinc (pc := 86) (v := l3 + 1) dX8_hourFor_86 rfl rfl (by decide) ?_
          refine r_goto (pc := 89) (L := [some (.ref b0), some (.int l1), some (.int l2), some (.int (l3 + 1))]) (tgt := 30) dX8_hourFor_89 (by decide) ?_
          exact r_le (L' := [some (.ref b0), some (.int l1), some (.int l2), some (.int (l3 + 1))]) ⟨rfl, ⟨rfl, ⟨rfl, ⟨rfl, trivial⟩⟩⟩⟩ K0
        · have K0 := K0.2 q
          refine r_aload_n (pc := 70) dX8_hourFor_70 rfl ?_
          refine r_iload_n (pc := 71) dX8_hourFor_71 rfl ?_
          refine r_iload_n (pc := 72) dX8_hourFor_72 rfl ?_
          refine r_iload_n (pc := 73) dX8_hourFor_73 rfl ?_
          refine r_iadd (pc := 74) dX8_hourFor_74 ?_
          refine r_iconst (pc := 75) (v := (-1)) dX8_hourFor_75 (by decide) ?_
          refine s_VI (pc := 76) mX8_canAsk (ci := 8) (a := b0) (As := [.int l1, .int (l2 + l3), .int (-1)]) dX8_hourFor_76 lk_X8_329 in_X8_canAsk mo_X8_canAsk ⟨by decide, rfl⟩ ⟨by decide, by decide⟩ (Nat.le_of_ble_eq_true rfl) k_b0 (mSI_mono K0 (fun r_13 y_12 K0 => ?_))
          refine r_if_eq (pc := 79) (tgt := 86) dX8_hourFor_79 (by decide) (fun q => ?_) (fun q => ?_)
          · have K0 := K0.1 q
            refine r_iinc (pc := 86) (v := l3 + 1) dX8_hourFor_86 rfl rfl (by decide) ?_
            refine r_goto (pc := 89) (L := [some (.ref b0), some (.int l1), some (.int l2), some (.int (l3 + 1))]) (tgt := 30) dX8_hourFor_89 (by decide) ?_
            exact r_le (L' := [some (.ref b0), some (.int l1), some (.int l2), some (.int (l3 + 1))]) ⟨rfl, ⟨rfl, ⟨rfl, ⟨rfl, trivial⟩⟩⟩⟩ K0
          · have K0 := K0.2 q
            refine r_iload_n (pc := 82) dX8_hourFor_82 rfl ?_
            refine r_iload_n (pc := 83) dX8_hourFor_83 rfl ?_
            refine r_iadd (pc := 84) dX8_hourFor_84 ?_
            exact s_iret rfl dX8_hourFor_85 K0
      · have K0 := K0.2 q
        refine r_iload_n (pc := 58) dX8_hourFor_58 rfl ?_
        refine r_iload_n (pc := 59) dX8_hourFor_59 rfl ?_
        refine r_isub (pc := 60) dX8_hourFor_60 ?_
        exact s_iret rfl dX8_hourFor_61 K0
section
variable {x : Cn} {Q : Int32 → Cn → Prop}
theorem sp_X8_hourFor {t : Nat} (M : MRf x t) (ht : kk KW t = some (20, 518)) {W C S A N : Nat} (F : WF (gi x t) W C S A N) {a : Nat} (ha : a < A) (k : Q (hrF (gi x t) S N a) x) : mSI mX8_hourFor [.ref 717, .int (nI a)] KW x Q := by
  have hA : A ≤ 24 := F.2.2.2.2.2.2.2.2.1
  have hS : S ≤ 24 := F.2.2.2.2.2.2.1
  have hW : W ≤ 30 := F.2.2.1
  have hN : N ≤ W := F.2.2.2.2.2.2.2.2.2.2.1
  obtain ⟨-, -, ⟨h, h1, h2⟩, a3, ⟨f, l, f1, f2, f3, f4⟩, ⟨b, b1, b2⟩⟩ := F.2.2.2.2.2.2.2.2.2.2.2.2.2 a ha
  refine v_X8_hourFor_0 km M.2.2.1 ht ⟨l24_nI (by omega) rfl, ?_⟩
  rw [nI_clamp (by omega), F.1, F.2.2.2.2.2.2.2.2.2.1, f3, f4, span_and0 (by omega) f2 hW hN, F.2.2.2.2.2.1, h2]
  unfold hrF at k
  rw [f4, nI_clamp (by omega), h2, nI_clamp (by omega), b2, nI_clamp (by omega)] at k
  refine ⟨fun z => by rwa [if_pos (Or.inl z)] at k, fun z => ⟨v0 (k := 2) (by decide) rfl rfl, fun z2 => ?_, fun z2 => ?_⟩⟩
  · rw [if_neg (fun u => u.elim z (fun e => z2 (by rw [e]; rfl)))] at k
    refine lp_gen (stH (fun h => fitA (gi x t) S N a h 0) h) (fun _ => -1) (fun d _ => GI mX8_hourFor 30 [some (.ref 717), some (.int (nI a)), some (.int (nI h)), some (.int (nI d))] [] KW x Q) (fun r => Q r x) (b + 1) (fun _ k => ?_) (fun d _ hd n1 n2 => ?_) (b + 1) 0 () (by omega) k
    · refine v_X8_hourFor_30 km M.2.2.1 ht ⟨l24_nI (by omega) rfl, ?_⟩
      rw [nI_clamp (by omega), b2]
      exact ⟨fun _ => k, fun z => absurd (nI_lt (by omega) (by omega)) z⟩
    · refine v_X8_hourFor_30 km M.2.2.1 ht ⟨l24_nI (by omega) rfl, ?_⟩
      rw [nI_clamp (by omega), b2, nI_add, nI_1]
      refine ⟨fun z => absurd z (nI_nlt (by omega) (by omega)), fun _ => ?_⟩
      have up : ¬ (d ≤ h ∧ ¬ bP (fitA (gi x t) S N a (h - d) 0) = 0) → (nI 24 ≤ nI (h + d) → GI mX8_hourFor 30 [some (.ref 717), some (.int (nI a)), some (.int (nI h)), some (.int (nI (d + 1)))] [] KW x Q) ∧ (¬ nI 24 ≤ nI (h + d) → mSI mX8_canAsk [.ref 717, .int (nI a), .int (nI (h + d)), .int (-1)] KW x (fun r y_4 => (r = 0 → GI mX8_hourFor 30 [some (.ref 717), some (.int (nI a)), some (.int (nI h)), some (.int (nI (d + 1)))] [] KW y_4 Q) ∧ (¬ r = 0 → Q (nI (h + d)) y_4))) := by
        intro w
        refine ⟨fun z => n1 () ?_, fun z => ?_⟩
        · unfold stH
          rw [if_neg w, if_neg (fun u => nI_ge u.1 (by decide) z)]
        · have hd2 : h + d < 24 := by
            by_cases c : h + d < 24
            · exact c
            · exact absurd (nI_le (by omega) (by omega)) z
          refine sp_X8_canAsk M ht F ha hd2 wo_0 ⟨fun u => n1 () ?_, fun u => n2 _ ?_⟩
          · unfold stH
            rw [if_neg w, if_neg (fun g => g.2 u)]
          · unfold stH
            rw [if_neg w, if_pos ⟨hd2, u⟩]
      refine ⟨fun z => up (fun u => nI_nlt u.1 (by omega) z), fun z => ?_⟩
      have hd2 : d ≤ h := by
        by_cases c : d ≤ h
        · exact c
        · exact absurd (nI_lt (by omega) (by omega)) z
      rw [pk_sub hd2]
      refine sp_X8_canAsk M ht F ha (by omega) wo_0 ⟨fun u => up (fun g => g.2 u), fun u => n2 _ ?_⟩
      unfold stH
      rw [if_pos ⟨hd2, u⟩]
  · have hz : S = 24 := (nI_eq (b := 24) (by omega) (by decide)).mp z2
    rwa [if_pos (Or.inr hz)] at k
/-- a series can go to an hour -/
def crt (T : TT) (S W N s h : Nat) : Prop := N < W ∧ ¬ so T s 2 = nI h ∧ fitC T S N (so T s 1) h (so T s 3) (bas T s) (1 <<< (nI s &&& 31))
end
set_option maxHeartbeats 2000000 in
theorem v_X7_canRetime_0 {K : Sh} {x : Cn} {Q : Int32 → Cn → Prop} {b0 : Nat} {l1 : Int32} {l2 : Int32} {b0_2 : Nat} {b0_2_7 : Nat} {n_b0_2_7 : Nat} (k_b0 : kk K b0 = some (7, 0)) (g_b0_2 : gr x b0 2 = some b0_2) (k_b0_2 : kk K b0_2 = some (4, 0)) (g_b0_2_7 : gr x b0_2 7 = some b0_2_7) (k_b0_2_7 : kk K b0_2_7 = some (23, n_b0_2_7)) (K0 : vp_in l1 n_b0_2_7 ∧ (∃ c_2 : Nat, gr x b0_2_7 ((l1 : Int32).toNatClampNeg) = some c_2 ∧ (((gi x b0_2 0 ≤ gi x b0_2 1) → (Q 0 x)) ∧ (¬ (gi x b0_2 0 ≤ gi x b0_2 1) → (kk K c_2 = some (5, 0) ∧ (((gi x c_2 2) = l2 → (Q 0 x)) ∧ (¬ (gi x c_2 2) = l2 → (mSI mX4_hasPlace [.ref b0_2, .int (gi x c_2 1), .int l2, .int (gi x c_2 3), .int (f_held x c_2), .int (1 <<< (l1 &&& 31))] K x (fun r_8 y_7 => (r_8 = 0 → (Q 0 y_7)) ∧ (¬ r_8 = 0 → (Q 1 y_7))))))))))) : mSI mX7_canRetime [.ref b0, .int l1, .int l2] K x Q := by
  refine s_I (by decide) (by simp [Value.category]) (Nat.le_of_ble_eq_true rfl) ?_
  show mGM mX7_canRetime 0 [some (.ref b0), some (.int l1), some (.int l2), none] [] (hp K x) (PI K Q)
  refine r_aload_n (pc := 0) dX7_canRetime_0 rfl ?_
  refine s_getR (pc := 1) dX7_canRetime_1 fl_X7_20 rfl k_b0 g_b0_2 ?_
  refine s_getR (pc := 4) dX7_canRetime_4 fl_X7_135 rfl k_b0_2 g_b0_2_7 ?_
  refine r_iload_n (pc := 7) dX7_canRetime_7 rfl ?_
  obtain ⟨i_1, K0⟩ := K0
  obtain ⟨c_2, g_3, K0⟩ := K0
  refine s_aald (pc := 8) dX7_canRetime_8 (by decide) rfl k_b0_2_7 i_1 g_3 ?_
  refine r_astore_n (pc := 9) dX7_canRetime_9 (by decide) ?_
  refine r_aload_n (pc := 10) (L := [some (.ref b0), some (.int l1), some (.int l2), some (.ref c_2)]) dX7_canRetime_10 rfl ?_
  refine s_getR (pc := 11) dX7_canRetime_11 fl_X7_20 rfl k_b0 g_b0_2 ?_
  refine s_VI (pc := 14) mX4_isOver (ci := 4) (a := b0_2) (As := []) dX7_canRetime_14 lk_X7_279 in_X4_isOver mo_X4_isOver ⟨by decide, rfl⟩ ⟨by decide, by decide⟩ (Nat.le_of_ble_eq_true rfl) k_b0_2 (sp_X4_isOver k_b0_2 ?_)
  refine r_if_ne (pc := 17) (tgt := 58) dX7_canRetime_17 (by decide) (fun q => ?_) (fun q => ?_)
  · have q := b2i_nz q
    have K0 := K0.1 q
    refine r_iconst (pc := 58) (v := 0) dX7_canRetime_58 (by decide) ?_
    exact s_zret rfl (by decide) dX7_canRetime_59 K0
  · have q := (b2i_z _).mp q
    have K0 := K0.2 q
    refine r_aload_n (pc := 20) dX7_canRetime_20 rfl ?_
    obtain ⟨e_5, K0⟩ := K0
    refine s_getI (pc := 21) dX7_canRetime_21 fl_X7_147 rfl e_5 ?_
    refine r_iload_n (pc := 24) dX7_canRetime_24 rfl ?_
    refine r_icmp_eq (pc := 25) (tgt := 58) dX7_canRetime_25 (by decide) (fun q => ?_) (fun q => ?_)
    · have K0 := K0.1 q
      refine r_iconst (pc := 58) (v := 0) dX7_canRetime_58 (by decide) ?_
      exact s_zret rfl (by decide) dX7_canRetime_59 K0
    · have K0 := K0.2 q
      refine r_aload_n (pc := 28) dX7_canRetime_28 rfl ?_
      refine s_getR (pc := 29) dX7_canRetime_29 fl_X7_20 rfl k_b0 g_b0_2 ?_
      refine r_aload_n (pc := 32) dX7_canRetime_32 rfl ?_
      refine s_getI (pc := 33) dX7_canRetime_33 fl_X7_144 rfl e_5 ?_
      refine r_iload_n (pc := 36) dX7_canRetime_36 rfl ?_
      refine r_aload_n (pc := 37) dX7_canRetime_37 rfl ?_
      refine s_getI (pc := 38) dX7_canRetime_38 fl_X7_150 rfl e_5 ?_
      refine r_aload_n (pc := 41) dX7_canRetime_41 rfl ?_
      refine s_VI (pc := 42) mX5_heldBits (ci := 5) (a := c_2) (As := []) dX7_canRetime_42 lk_X7_272 in_X5_heldBits mo_X5_heldBits ⟨by decide, rfl⟩ ⟨by decide, by decide⟩ (Nat.le_of_ble_eq_true rfl) e_5 (sp_X5_heldBits e_5 ?_)
      refine r_iconst (pc := 45) (v := 1) dX7_canRetime_45 (by decide) ?_
      refine r_iload_n (pc := 46) dX7_canRetime_46 rfl ?_
      refine r_ishl (pc := 47) dX7_canRetime_47 ?_
      refine s_VI (pc := 48) mX4_hasPlace (ci := 4) (a := b0_2) (As := [.int (gi x c_2 1), .int l2, .int (gi x c_2 3), .int (f_held x c_2), .int (1 <<< (l1 &&& 31))]) dX7_canRetime_48 lk_X7_295 in_X4_hasPlace mo_X4_hasPlace ⟨by decide, rfl⟩ ⟨by decide, by decide⟩ (Nat.le_of_ble_eq_true rfl) k_b0_2 (mSI_mono K0 (fun r_8 y_7 K0 => ?_))
      refine r_if_eq (pc := 51) (tgt := 58) dX7_canRetime_51 (by decide) (fun q => ?_) (fun q => ?_)
      · have K0 := K0.1 q
        refine r_iconst (pc := 58) (v := 0) dX7_canRetime_58 (by decide) ?_
        exact s_zret rfl (by decide) dX7_canRetime_59 K0
      · have K0 := K0.2 q
        refine r_iconst (pc := 54) (v := 1) dX7_canRetime_54 (by decide) ?_
        refine r_goto (pc := 55) (tgt := 59) dX7_canRetime_55 (by decide) ?_
        exact s_zret rfl (by decide) dX7_canRetime_59 K0
section
variable {x : Cn} {Q : Int32 → Cn → Prop}
theorem sp_X7_canRetime {T : TT} {W C S A N : Nat} (c1 : CRf x) (E : SEA x 2 T W C S A N) {s h : Nat} (hs : s < S) (hh : h < 24) (k : ∀ y, EQx x y 7 → Q (bP (crt T S W N s h)) y) : mSI mX7_canRetime [.ref 0, .int (nI s), .int (nI h)] KW x Q := by
  have hn := E.nums
  have hS : S ≤ 24 := hn.2.2.2.2.2.2.1
  have hW : W ≤ 30 := hn.2.2.2.2.1
  have hN : N ≤ W := hn.2.2.2.2.2.2.2.2
  obtain ⟨p, e1, e2, e3, e4, -, e6⟩ := E.ser hs
  refine v_X7_canRetime_0 k0 c1.2.1 (ks0 E.1) E.2.1.2.2.1 (ks3 E.1) ⟨vp_in_nI (by omega) (by decide), p, by rw [nI_clamp (by omega)]; exact e1, ?_⟩
  rw [hn.1, hn.2.1, nI_leI (by omega) (by omega), e3.1 2 (by decide) (by decide), e3.1 1 (by decide) (by decide), e3.1 3 (by decide) (by decide), e4]
  have k2 := k x (EQx.rf _ _)
  refine ⟨fun z => (bP_k k2).2 (fun u => absurd u.1 (by omega)), fun z => ⟨e2, fun z2 => (bP_k k2).2 (fun u => u.2.1 z2), fun z2 => ?_⟩⟩
  refine sp_X4_hasPlace E hh (fun y hy => ⟨fun w => (bP_k (k y hy)).2 (fun u => bP_z.mp w u.2.2), fun w => (bP_k (k y hy)).1 ⟨by omega, z2, ?_⟩⟩)
  exact Classical.byContradiction (fun g => w (bP_z.mpr g))
theorem bas_W {T : TT} {C W s i : Nat} (w : Wse T C W s) (h : tb (bas T s) i = true) : i < W := by
  obtain ⟨-, -, -, -, -, -, -, w8⟩ := w
  rw [tb_bas] at h
  simp only [Bool.or_eq_true] at h
  rcases h with ((h | h) | h) | h
  · exact w8 i 0 (by decide) h
  · exact w8 i 1 (by decide) h
  · exact w8 i 2 (by decide) h
  · exact w8 i 3 (by decide) h
end
set_option maxHeartbeats 2000000 in
theorem v_X8_canBeAt_0 {K : Sh} {x : Cn} {Q : Int32 → Cn → Prop} {b0 : Nat} {l1 : Int32} {l2 : Int32} {b0_3 : Nat} {n_b0_3 : Nat} (k_b0 : kk K b0 = some (8, 0)) (g_b0_3 : gr x b0 3 = some b0_3) (k_b0_3 : kk K b0_3 = some (20, n_b0_3)) (K0 : (l24 l1 n_b0_3) ∧ (mSI mX8_canBe [.ref b0, .int (bas (gi x b0_3) (l1 : Int32).toNatClampNeg), .int (so (gi x b0_3) (l1 : Int32).toNatClampNeg 1), .int l2, .int (so (gi x b0_3) (l1 : Int32).toNatClampNeg 3), .int l1] K x (fun r_3 y_2 => (r_3 = 0 ∨ r_3 = 1) ∧ (Q r_3 y_2)))) : mSI mX8_canBeAt [.ref b0, .int l1, .int l2] K x Q := by
  refine s_I (by decide) (by simp [Value.category]) (Nat.le_of_ble_eq_true rfl) ?_
  show mGM mX8_canBeAt 0 [some (.ref b0), some (.int l1), some (.int l2)] [] (hp K x) (PI K Q)
  refine r_aload_n (pc := 0) dX8_canBeAt_0 rfl ?_
  refine r_aload_n (pc := 1) dX8_canBeAt_1 rfl ?_
  refine r_iload_n (pc := 2) dX8_canBeAt_2 rfl ?_
  obtain ⟨p_1, K0⟩ := K0
  refine s_VI (pc := 3) mX8_basisOf (ci := 8) (a := b0) (As := [.int l1]) dX8_canBeAt_3 lk_X8_71 in_X8_basisOf mo_X8_basisOf ⟨by decide, rfl⟩ ⟨by decide, by decide⟩ (Nat.le_of_ble_eq_true rfl) k_b0 (sr_X8_basisOf k_b0 g_b0_3 k_b0_3 p_1 ?_)
  refine r_aload_n (pc := 6) dX8_canBeAt_6 rfl ?_
  refine r_iload_n (pc := 7) dX8_canBeAt_7 rfl ?_
  refine r_iconst (pc := 8) (v := 1) dX8_canBeAt_8 (by decide) ?_
  refine s_VI (pc := 9) mX8_one (ci := 8) (a := b0) (As := [.int l1, .int 1]) dX8_canBeAt_9 lk_X8_67 in_X8_one mo_X8_one ⟨by decide, rfl⟩ ⟨by decide, by decide⟩ (Nat.le_of_ble_eq_true rfl) k_b0 (sr_X8_one k_b0 g_b0_3 k_b0_3 p_1 ⟨by decide, by decide⟩ ?_)
  refine r_iload_n (pc := 12) dX8_canBeAt_12 rfl ?_
  refine r_aload_n (pc := 13) dX8_canBeAt_13 rfl ?_
  refine r_iload_n (pc := 14) dX8_canBeAt_14 rfl ?_
  refine r_iconst (pc := 15) (v := 3) dX8_canBeAt_15 (by decide) ?_
  refine s_VI (pc := 16) mX8_one (ci := 8) (a := b0) (As := [.int l1, .int 3]) dX8_canBeAt_16 lk_X8_67 in_X8_one mo_X8_one ⟨by decide, rfl⟩ ⟨by decide, by decide⟩ (Nat.le_of_ble_eq_true rfl) k_b0 (sr_X8_one k_b0 g_b0_3 k_b0_3 p_1 ⟨by decide, by decide⟩ ?_)
  refine r_iload_n (pc := 19) dX8_canBeAt_19 rfl ?_
  refine s_VI (pc := 20) mX8_canBe (ci := 8) (a := b0) (As := [.int (bas (gi x b0_3) (l1 : Int32).toNatClampNeg), .int (so (gi x b0_3) (l1 : Int32).toNatClampNeg 1), .int l2, .int (so (gi x b0_3) (l1 : Int32).toNatClampNeg 3), .int l1]) dX8_canBeAt_20 lk_X8_90 in_X8_canBe mo_X8_canBe ⟨by decide, rfl⟩ ⟨by decide, by decide⟩ (Nat.le_of_ble_eq_true rfl) k_b0 (mSI_mono K0 (fun r_3 y_2 K0 => ?_))
  obtain ⟨p_4, K0⟩ := K0
  exact s_zret rfl p_4 dX8_canBeAt_23 K0
section
variable {x : Cn} {Q : Int32 → Cn → Prop}
theorem sp_X8_canBeAt {t : Nat} (M : MRf x t) (ht : kk KW t = some (20, 518)) {W C S A N : Nat} (F : WF (gi x t) W C S A N) {s h : Nat} (hs : s < S) (hh : h < 24) (k : Q (bP (fitC (gi x t) S N (so (gi x t) s 1) h (so (gi x t) s 3) (bas (gi x t) s) (1 <<< (nI s &&& 31)))) x) : mSI mX8_canBeAt [.ref 717, .int (nI s), .int (nI h)] KW x Q := by
  have hS : S ≤ 24 := F.2.2.2.2.2.2.1
  have w := F.2.2.2.2.2.2.2.2.2.2.2.2.1 s hs
  refine v_X8_canBeAt_0 km M.2.2.1 ht ⟨l24_nI (by omega) rfl, ?_⟩
  rw [nI_clamp (by omega)]
  exact sp_X8_canBe M ht F hh w.2.2.2.1 (fun i hi h1 h2 => bas_W w h1) (wo_1 (by omega)) ⟨bP_01 _, k⟩
end
set_option maxHeartbeats 2000000 in
theorem v_X8_canRetime_0 {K : Sh} {x : Cn} {Q : Int32 → Cn → Prop} {b0 : Nat} {l1 : Int32} {l2 : Int32} {b0_1 : Nat} {n_b0_1 : Nat} {b0_3 : Nat} {n_b0_3 : Nat} (k_b0 : kk K b0 = some (8, 0)) (g_b0_1 : gr x b0 1 = some b0_1) (k_b0_1 : kk K b0_1 = some (20, n_b0_1)) (g_b0_3 : gr x b0 3 = some b0_3) (k_b0_3 : kk K b0_3 = some (20, n_b0_3)) (K0 : vp_in 4 n_b0_1 ∧ (vp_in 0 n_b0_1 ∧ (((gi x b0_1 0) ≤ (gi x b0_1 4) → (Q 0 x)) ∧ (¬ (gi x b0_1 0) ≤ (gi x b0_1 4) → ((l24 l1 n_b0_3) ∧ (((so (gi x b0_3) (l1 : Int32).toNatClampNeg 2) = l2 → (Q 0 x)) ∧ (¬ (so (gi x b0_3) (l1 : Int32).toNatClampNeg 2) = l2 → (mSI mX8_canBeAt [.ref b0, .int l1, .int l2] K x (fun r_7 y_6 => (r_7 = 0 → (Q 0 y_6)) ∧ (¬ r_7 = 0 → (Q 1 y_6))))))))))) : mSI mX8_canRetime [.ref b0, .int l1, .int l2] K x Q := by
  refine s_I (by decide) (by simp [Value.category]) (Nat.le_of_ble_eq_true rfl) ?_
  show mGM mX8_canRetime 0 [some (.ref b0), some (.int l1), some (.int l2)] [] (hp K x) (PI K Q)
  refine r_aload_n (pc := 0) dX8_canRetime_0 rfl ?_
  refine s_getR (pc := 1) dX8_canRetime_1 fl_X8_9 rfl k_b0 g_b0_1 ?_
  refine r_iconst (pc := 4) (v := 4) dX8_canRetime_4 (by decide) ?_
  obtain ⟨i_1, K0⟩ := K0
  refine s_iald (pc := 5) dX8_canRetime_5 k_b0_1 i_1 ?_
  refine r_aload_n (pc := 6) dX8_canRetime_6 rfl ?_
  refine s_getR (pc := 7) dX8_canRetime_7 fl_X8_9 rfl k_b0 g_b0_1 ?_
  refine r_iconst (pc := 10) (v := 0) dX8_canRetime_10 (by decide) ?_
  obtain ⟨i_2, K0⟩ := K0
  refine s_iald (pc := 11) dX8_canRetime_11 k_b0_1 i_2 ?_
  refine r_icmp_ge (pc := 12) (tgt := 38) dX8_canRetime_12 (by decide) (fun q => ?_) (fun q => ?_)
  · have K0 := K0.1 q
    refine r_iconst (pc := 38) (v := 0) dX8_canRetime_38 (by decide) ?_
    exact s_zret rfl (by decide) dX8_canRetime_39 K0
  · have K0 := K0.2 q
    refine r_aload_n (pc := 15) dX8_canRetime_15 rfl ?_
    refine r_iload_n (pc := 16) dX8_canRetime_16 rfl ?_
    refine r_iconst (pc := 17) (v := 2) dX8_canRetime_17 (by decide) ?_
    obtain ⟨p_4, K0⟩ := K0
    refine s_VI (pc := 18) mX8_one (ci := 8) (a := b0) (As := [.int l1, .int 2]) dX8_canRetime_18 lk_X8_67 in_X8_one mo_X8_one ⟨by decide, rfl⟩ ⟨by decide, by decide⟩ (Nat.le_of_ble_eq_true rfl) k_b0 (sr_X8_one k_b0 g_b0_3 k_b0_3 p_4 ⟨by decide, by decide⟩ ?_)
    refine r_iload_n (pc := 21) dX8_canRetime_21 rfl ?_
    refine r_icmp_eq (pc := 22) (tgt := 38) dX8_canRetime_22 (by decide) (fun q => ?_) (fun q => ?_)
    · have K0 := K0.1 q
      refine r_iconst (pc := 38) (v := 0) dX8_canRetime_38 (by decide) ?_
      exact s_zret rfl (by decide) dX8_canRetime_39 K0
    · have K0 := K0.2 q
      refine r_aload_n (pc := 25) dX8_canRetime_25 rfl ?_
      refine r_iload_n (pc := 26) dX8_canRetime_26 rfl ?_
      refine r_iload_n (pc := 27) dX8_canRetime_27 rfl ?_
      refine s_VI (pc := 28) mX8_canBeAt (ci := 8) (a := b0) (As := [.int l1, .int l2]) dX8_canRetime_28 lk_X8_360 in_X8_canBeAt mo_X8_canBeAt ⟨by decide, rfl⟩ ⟨by decide, by decide⟩ (Nat.le_of_ble_eq_true rfl) k_b0 (mSI_mono K0 (fun r_7 y_6 K0 => ?_))
      refine r_if_eq (pc := 31) (tgt := 38) dX8_canRetime_31 (by decide) (fun q => ?_) (fun q => ?_)
      · have K0 := K0.1 q
        refine r_iconst (pc := 38) (v := 0) dX8_canRetime_38 (by decide) ?_
        exact s_zret rfl (by decide) dX8_canRetime_39 K0
      · have K0 := K0.2 q
        refine r_iconst (pc := 34) (v := 1) dX8_canRetime_34 (by decide) ?_
        refine r_goto (pc := 35) (tgt := 39) dX8_canRetime_35 (by decide) ?_
        exact s_zret rfl (by decide) dX8_canRetime_39 K0
section
variable {x : Cn} {Q : Int32 → Cn → Prop}
theorem sp_X8_canRetime (M : MRf x 718) {W C S A N : Nat} (F : WF (gi x 718) W C S A N) {s h : Nat} (hs : s < S) (hh : h < 24) (k : Q (bP (crt (gi x 718) S W N s h)) x) : mSI mX8_canRetime [.ref 717, .int (nI s), .int (nI h)] KW x Q := by
  have hS : S ≤ 24 := F.2.2.2.2.2.2.1
  have hW : W ≤ 30 := F.2.2.1
  have hN : N ≤ W := F.2.2.2.2.2.2.2.2.2.2.1
  refine v_X8_canRetime_0 km M.1 km1 M.2.2.1 km1 ⟨v0 (k := 4) (by decide) rfl rfl, v0 (k := 0) (by decide) rfl rfl, ?_⟩
  rw [F.1, F.2.2.2.2.2.2.2.2.2.1, nI_leI (by omega) (by omega), nI_clamp (show s < 2 ^ 31 by omega)]
  refine ⟨fun z => (bP_k k).2 (fun u => absurd u.1 (by omega)), fun z => ⟨l24_nI (by omega) rfl, fun z2 => (bP_k k).2 (fun u => u.2.1 z2), fun z2 => ?_⟩⟩
  refine sp_X8_canBeAt M km1 F hs hh ⟨fun w => (bP_k k).2 (fun u => bP_z.mp w u.2.2), fun w => (bP_k k).1 ⟨by omega, z2, ?_⟩⟩
  exact Classical.byContradiction (fun g => w (bP_z.mpr g))
end
set_option maxHeartbeats 2000000 in
theorem v_X7_where_0 {K : Sh} {x : Cn} {Q : Int32 → Cn → Prop} {b0 : Nat} {l1 : Int32} {b0_2 : Nat} {b0_2_8 : Nat} {n_b0_2_8 : Nat} (k_b0 : kk K b0 = some (7, 0)) (g_b0_2 : gr x b0 2 = some b0_2) (k_b0_2 : kk K b0_2 = some (4, 0)) (g_b0_2_8 : gr x b0_2 8 = some b0_2_8) (k_b0_2_8 : kk K b0_2_8 = some (24, n_b0_2_8)) (K0 : ((0 ≤ l1 ∧ l1 < gi x b0_2 4) → (vp_in l1 n_b0_2_8 ∧ (∃ c_3 : Nat, gr x b0_2_8 ((l1 : Int32).toNatClampNeg) = some c_3 ∧ (mSI mX4_hourFor [.ref b0_2, .ref c_3] K x (fun r_6 y_5 => Q r_6 y_5))))) ∧ (¬ (0 ≤ l1 ∧ l1 < gi x b0_2 4) → (Q (-2) x))) : mSI mX7_where [.ref b0, .int l1] K x Q := by
  refine s_I (by decide) (by simp [Value.category]) (Nat.le_of_ble_eq_true rfl) ?_
  show mGM mX7_where 0 [some (.ref b0), some (.int l1)] [] (hp K x) (PI K Q)
  refine r_aload_n (pc := 0) dX7_where_0 rfl ?_
  refine r_iload_n (pc := 1) dX7_where_1 rfl ?_
  refine s_VI (pc := 2) mX7_isAsk (ci := 7) (a := b0) (As := [.int l1]) dX7_where_2 lk_X7_173 in_X7_isAsk mo_X7_isAsk ⟨by decide, rfl⟩ ⟨by decide, by decide⟩ (Nat.le_of_ble_eq_true rfl) k_b0 (sp_X7_isAsk k_b0 g_b0_2 k_b0_2 ?_)
  refine r_if_ne (pc := 5) (tgt := 11) dX7_where_5 (by decide) (fun q => ?_) (fun q => ?_)
  · have q := b2i_nz q
    have K0 := K0.1 q
    refine r_aload_n (pc := 11) dX7_where_11 rfl ?_
    refine s_getR (pc := 12) dX7_where_12 fl_X7_20 rfl k_b0 g_b0_2 ?_
    refine r_aload_n (pc := 15) dX7_where_15 rfl ?_
    refine s_getR (pc := 16) dX7_where_16 fl_X7_20 rfl k_b0 g_b0_2 ?_
    refine s_getR (pc := 19) dX7_where_19 fl_X7_176 rfl k_b0_2 g_b0_2_8 ?_
    refine r_iload_n (pc := 22) dX7_where_22 rfl ?_
    obtain ⟨i_2, K0⟩ := K0
    obtain ⟨c_3, g_4, K0⟩ := K0
    refine s_aald (pc := 23) dX7_where_23 (by decide) rfl k_b0_2_8 i_2 g_4 ?_
    refine s_VI (pc := 24) mX4_hourFor (ci := 4) (a := b0_2) (As := [.ref c_3]) dX7_where_24 lk_X7_303 in_X4_hourFor mo_X4_hourFor ⟨by decide, rfl⟩ ⟨by decide, by decide⟩ (Nat.le_of_ble_eq_true rfl) k_b0_2 (mSI_mono K0 (fun r_6 y_5 K0 => ?_))
    exact s_iret rfl dX7_where_27 K0
  · have q := (b2i_z _).mp q
    have K0 := K0.2 q
    refine r_bipush (pc := 8) (v := (-2)) dX7_where_8 (by decide) ?_
    exact s_iret rfl dX7_where_10 K0
set_option maxHeartbeats 2000000 in
theorem v_X8_where_0 {K : Sh} {x : Cn} {Q : Int32 → Cn → Prop} {b0 : Nat} {l1 : Int32} {b0_1 : Nat} {n_b0_1 : Nat} (k_b0 : kk K b0 = some (8, 0)) (g_b0_1 : gr x b0 1 = some b0_1) (k_b0_1 : kk K b0_1 = some (20, n_b0_1)) (K0 : vp_in 3 n_b0_1 ∧ ((¬ (0 ≤ l1 ∧ l1 ≤ gi x b0_1 3 - 1) → (Q (-2) x)) ∧ ((0 ≤ l1 ∧ l1 ≤ gi x b0_1 3 - 1) → (mSI mX8_hourFor [.ref b0, .int l1] K x (fun r_4 y_3 => Q r_4 y_3))))) : mSI mX8_where [.ref b0, .int l1] K x Q := by
  refine s_I (by decide) (by simp [Value.category]) (Nat.le_of_ble_eq_true rfl) ?_
  show mGM mX8_where 0 [some (.ref b0), some (.int l1)] [] (hp K x) (PI K Q)
  refine r_aload_n (pc := 0) dX8_where_0 rfl ?_
  refine r_iload_n (pc := 1) dX8_where_1 rfl ?_
  obtain ⟨i_1, K0⟩ := K0
  refine s_VI (pc := 2) mX8_isAsk (ci := 8) (a := b0) (As := [.int l1]) dX8_where_2 lk_X8_281 in_X8_isAsk mo_X8_isAsk ⟨by decide, rfl⟩ ⟨by decide, by decide⟩ (Nat.le_of_ble_eq_true rfl) k_b0 (sp_X8_isAsk k_b0 g_b0_1 k_b0_1 i_1 ?_)
  refine r_if_eq (pc := 5) (tgt := 16) dX8_where_5 (by decide) (fun q => ?_) (fun q => ?_)
  · have q := (b2i_z _).mp q
    have K0 := K0.1 q
    refine r_bipush (pc := 16) (v := (-2)) dX8_where_16 (by decide) ?_
    exact s_iret rfl dX8_where_18 K0
  · have q := b2i_nz q
    have K0 := K0.2 q
    refine r_aload_n (pc := 8) dX8_where_8 rfl ?_
    refine r_iload_n (pc := 9) dX8_where_9 rfl ?_
    refine s_VI (pc := 10) mX8_hourFor (ci := 8) (a := b0) (As := [.int l1]) dX8_where_10 lk_X8_332 in_X8_hourFor mo_X8_hourFor ⟨by decide, rfl⟩ ⟨by decide, by decide⟩ (Nat.le_of_ble_eq_true rfl) k_b0 (mSI_mono K0 (fun r_4 y_3 K0 => ?_))
    refine r_goto (pc := 13) (tgt := 18) dX8_where_13 (by decide) ?_
    exact s_iret rfl dX8_where_18 K0
set_option maxHeartbeats 2000000 in
theorem v_X7_movable_0 {K : Sh} {x : Cn} {Q : Int32 → Cn → Prop} {b0 : Nat} {l1 : Int32} {b0_2 : Nat} (k_b0 : kk K b0 = some (7, 0)) (g_b0_2 : gr x b0 2 = some b0_2) (k_b0_2 : kk K b0_2 = some (4, 0)) (K0 : ((0 ≤ l1 ∧ l1 < gi x b0_2 3) → (GI mX7_movable 15 [some (.ref b0), some (.int l1), some (.int 0), some (.int 0)] [] K x Q)) ∧ (¬ (0 ≤ l1 ∧ l1 < gi x b0_2 3) → (Q (-2) x))) : mSI mX7_movable [.ref b0, .int l1] K x Q := by
  refine s_I (by decide) (by simp [Value.category]) (Nat.le_of_ble_eq_true rfl) ?_
  show mGM mX7_movable 0 [some (.ref b0), some (.int l1), none, none] [] (hp K x) (PI K Q)
  refine r_aload_n (pc := 0) dX7_movable_0 rfl ?_
  refine r_iload_n (pc := 1) dX7_movable_1 rfl ?_
  refine s_VI (pc := 2) mX7_isSeries (ci := 7) (a := b0) (As := [.int l1]) dX7_movable_2 lk_X7_132 in_X7_isSeries mo_X7_isSeries ⟨by decide, rfl⟩ ⟨by decide, by decide⟩ (Nat.le_of_ble_eq_true rfl) k_b0 (sp_X7_isSeries k_b0 g_b0_2 k_b0_2 ?_)
  refine r_if_ne (pc := 5) (tgt := 11) dX7_movable_5 (by decide) (fun q => ?_) (fun q => ?_)
  · have q := b2i_nz q
    have K0 := K0.1 q
    refine r_iconst (pc := 11) (v := 0) dX7_movable_11 (by decide) ?_
    refine r_istore_n (pc := 12) dX7_movable_12 (by decide) ?_
    refine r_iconst (pc := 13) (L := [some (.ref b0), some (.int l1), some (.int 0), none]) (v := 0) dX7_movable_13 (by decide) ?_
    refine r_istore_n (pc := 14) dX7_movable_14 (by decide) ?_
    exact r_le (L' := [some (.ref b0), some (.int l1), some (.int 0), some (.int 0)]) ⟨rfl, ⟨rfl, ⟨rfl, ⟨rfl, trivial⟩⟩⟩⟩ K0
  · have q := (b2i_z _).mp q
    have K0 := K0.2 q
    refine r_bipush (pc := 8) (v := (-2)) dX7_movable_8 (by decide) ?_
    exact s_iret rfl dX7_movable_10 K0
set_option maxHeartbeats 2000000 in
theorem v_X7_movable_15 {K : Sh} {x : Cn} {Q : Int32 → Cn → Prop} {b0 : Nat} {l1 : Int32} {l2 : Int32} {l3 : Int32}  (k_b0 : kk K b0 = some (7, 0)) (K0 : (24 ≤ l3 → (Q l2 x)) ∧ (¬ 24 ≤ l3 → (mSI mX7_canRetime [.ref b0, .int l1, .int l3] K x (fun r_3 y_2 => (r_3 = 0 → (GI mX7_movable 15 [some (.ref b0), some (.int l1), some (.int l2), some (.int (l3 + 1))] [] K y_2 Q)) ∧ (¬ r_3 = 0 → (GI mX7_movable 15 [some (.ref b0), some (.int l1), some (.int (l2 ||| (1 <<< (l3 &&& 31)))), some (.int (l3 + 1))] [] K y_2 Q)))))) : GI mX7_movable 15 [some (.ref b0), some (.int l1), some (.int l2), some (.int l3)] [] K x Q := by
  show mGM mX7_movable 15 [some (.ref b0), some (.int l1), some (.int l2), some (.int l3)] [] (hp K x) (PI K Q)
  refine r_iload_n (pc := 15) dX7_movable_15 rfl ?_
  refine r_bipush (pc := 16) (v := 24) dX7_movable_16 (by decide) ?_
  refine r_icmp_ge (pc := 18) (tgt := 42) dX7_movable_18 (by decide) (fun q => ?_) (fun q => ?_)
  · have K0 := K0.1 q
    refine r_iload_n (pc := 42) dX7_movable_42 rfl ?_
    exact s_iret rfl dX7_movable_43 K0
  · have K0 := K0.2 q
    refine r_aload_n (pc := 21) dX7_movable_21 rfl ?_
    refine r_iload_n (pc := 22) dX7_movable_22 rfl ?_
    refine r_iload_n (pc := 23) dX7_movable_23 rfl ?_
    refine s_VI (pc := 24) mX7_canRetime (ci := 7) (a := b0) (As := [.int l1, .int l3]) dX7_movable_24 lk_X7_327 in_X7_canRetime mo_X7_canRetime ⟨by decide, rfl⟩ ⟨by decide, by decide⟩ (Nat.le_of_ble_eq_true rfl) k_b0 (mSI_mono K0 (fun r_3 y_2 K0 => ?_))
    refine r_if_eq (pc := 27) (tgt := 36) dX7_movable_27 (by decide) (fun q => ?_) (fun q => ?_)
    · have K0 := K0.1 q
      refine r_iinc (pc := 36) (v := l3 + 1) dX7_movable_36 rfl rfl (by decide) ?_
      refine r_goto (pc := 39) (L := [some (.ref b0), some (.int l1), some (.int l2), some (.int (l3 + 1))]) (tgt := 15) dX7_movable_39 (by decide) ?_
      exact r_le (L' := [some (.ref b0), some (.int l1), some (.int l2), some (.int (l3 + 1))]) ⟨rfl, ⟨rfl, ⟨rfl, ⟨rfl, trivial⟩⟩⟩⟩ K0
    · have K0 := K0.2 q
      refine r_iload_n (pc := 30) dX7_movable_30 rfl ?_
      refine r_iconst (pc := 31) (v := 1) dX7_movable_31 (by decide) ?_
      refine r_iload_n (pc := 32) dX7_movable_32 rfl ?_
      refine r_ishl (pc := 33) dX7_movable_33 ?_
      refine r_ior (pc := 34) dX7_movable_34 ?_
      refine r_istore_n (pc := 35) dX7_movable_35 (by decide) ?_
      refine r_iinc (pc := 36) (L := [some (.ref b0), some (.int l1), some (.int (l2 ||| (1 <<< (l3 &&& 31)))), some (.int l3)]) (v := l3 + 1) dX7_movable_36 rfl rfl (by decide) ?_
      refine r_goto (pc := 39) (L := [some (.ref b0), some (.int l1), some (.int (l2 ||| (1 <<< (l3 &&& 31)))), some (.int (l3 + 1))]) (tgt := 15) dX7_movable_39 (by decide) ?_
      exact r_le (L' := [some (.ref b0), some (.int l1), some (.int (l2 ||| (1 <<< (l3 &&& 31)))), some (.int (l3 + 1))]) ⟨rfl, ⟨rfl, ⟨rfl, ⟨rfl, trivial⟩⟩⟩⟩ K0
set_option maxHeartbeats 2000000 in
theorem v_X8_movable_0 {K : Sh} {x : Cn} {Q : Int32 → Cn → Prop} {b0 : Nat} {l1 : Int32} {b0_1 : Nat} {n_b0_1 : Nat} (k_b0 : kk K b0 = some (8, 0)) (g_b0_1 : gr x b0 1 = some b0_1) (k_b0_1 : kk K b0_1 = some (20, n_b0_1)) (K0 : vp_in 2 n_b0_1 ∧ (((0 ≤ l1 ∧ l1 ≤ gi x b0_1 2 - 1) → (GI mX8_movable 15 [some (.ref b0), some (.int l1), some (.int 0), some (.int 0)] [] K x Q)) ∧ (¬ (0 ≤ l1 ∧ l1 ≤ gi x b0_1 2 - 1) → (Q (-2) x)))) : mSI mX8_movable [.ref b0, .int l1] K x Q := by
  refine s_I (by decide) (by simp [Value.category]) (Nat.le_of_ble_eq_true rfl) ?_
  show mGM mX8_movable 0 [some (.ref b0), some (.int l1), none, none] [] (hp K x) (PI K Q)
  refine r_aload_n (pc := 0) dX8_movable_0 rfl ?_
  refine r_iload_n (pc := 1) dX8_movable_1 rfl ?_
  obtain ⟨i_1, K0⟩ := K0
  refine s_VI (pc := 2) mX8_isSeries (ci := 8) (a := b0) (As := [.int l1]) dX8_movable_2 lk_X8_273 in_X8_isSeries mo_X8_isSeries ⟨by decide, rfl⟩ ⟨by decide, by decide⟩ (Nat.le_of_ble_eq_true rfl) k_b0 (sp_X8_isSeries k_b0 g_b0_1 k_b0_1 i_1 ?_)
  refine r_if_ne (pc := 5) (tgt := 11) dX8_movable_5 (by decide) (fun q => ?_) (fun q => ?_)
  · have q := b2i_nz q
    have K0 := K0.1 q
    refine r_iconst (pc := 11) (v := 0) dX8_movable_11 (by decide) ?_
    refine r_istore_n (pc := 12) dX8_movable_12 (by decide) ?_
    refine r_iconst (pc := 13) (L := [some (.ref b0), some (.int l1), some (.int 0), none]) (v := 0) dX8_movable_13 (by decide) ?_
    refine r_istore_n (pc := 14) dX8_movable_14 (by decide) ?_
    exact r_le (L' := [some (.ref b0), some (.int l1), some (.int 0), some (.int 0)]) ⟨rfl, ⟨rfl, ⟨rfl, ⟨rfl, trivial⟩⟩⟩⟩ K0
  · have q := (b2i_z _).mp q
    have K0 := K0.2 q
    refine r_bipush (pc := 8) (v := (-2)) dX8_movable_8 (by decide) ?_
    exact s_iret rfl dX8_movable_10 K0
set_option maxHeartbeats 2000000 in
theorem v_X8_movable_15 {K : Sh} {x : Cn} {Q : Int32 → Cn → Prop} {b0 : Nat} {l1 : Int32} {l2 : Int32} {l3 : Int32}  (k_b0 : kk K b0 = some (8, 0)) (K0 : (24 ≤ l3 → (Q l2 x)) ∧ (¬ 24 ≤ l3 → (mSI mX8_canRetime [.ref b0, .int l1, .int l3] K x (fun r_3 y_2 => (r_3 = 0 → (GI mX8_movable 15 [some (.ref b0), some (.int l1), some (.int (l2 ||| 0)), some (.int (l3 + 1))] [] K y_2 Q)) ∧ (¬ r_3 = 0 → (GI mX8_movable 15 [some (.ref b0), some (.int l1), some (.int (l2 ||| (1 <<< (l3 &&& 31)))), some (.int (l3 + 1))] [] K y_2 Q)))))) : GI mX8_movable 15 [some (.ref b0), some (.int l1), some (.int l2), some (.int l3)] [] K x Q := by
  show mGM mX8_movable 15 [some (.ref b0), some (.int l1), some (.int l2), some (.int l3)] [] (hp K x) (PI K Q)
  refine r_iload_n (pc := 15) dX8_movable_15 rfl ?_
  refine r_bipush (pc := 16) (v := 24) dX8_movable_16 (by decide) ?_
  refine r_icmp_ge (pc := 18) (tgt := 46) dX8_movable_18 (by decide) (fun q => ?_) (fun q => ?_)
  · have K0 := K0.1 q
    refine r_iload_n (pc := 46) dX8_movable_46 rfl ?_
    exact s_iret rfl dX8_movable_47 K0
  · have K0 := K0.2 q
    refine r_iload_n (pc := 21) dX8_movable_21 rfl ?_
    refine r_aload_n (pc := 22) dX8_movable_22 rfl ?_
    refine r_iload_n (pc := 23) dX8_movable_23 rfl ?_
    refine r_iload_n (pc := 24) dX8_movable_24 rfl ?_
    refine s_VI (pc := 25) mX8_canRetime (ci := 8) (a := b0) (As := [.int l1, .int l3]) dX8_movable_25 lk_X8_357 in_X8_canRetime mo_X8_canRetime ⟨by decide, rfl⟩ ⟨by decide, by decide⟩ (Nat.le_of_ble_eq_true rfl) k_b0 (mSI_mono K0 (fun r_3 y_2 K0 => ?_))
    refine r_if_eq (pc := 28) (tgt := 37) dX8_movable_28 (by decide) (fun q => ?_) (fun q => ?_)
    · have K0 := K0.1 q
      refine r_iconst (pc := 37) (v := 0) dX8_movable_37 (by decide) ?_
      refine r_ior (pc := 38) dX8_movable_38 ?_
      refine r_istore_n (pc := 39) dX8_movable_39 (by decide) ?_
      refine r_iinc (pc := 40) (L := [some (.ref b0), some (.int l1), some (.int (l2 ||| 0)), some (.int l3)]) (v := l3 + 1) dX8_movable_40 rfl rfl (by decide) ?_
      refine r_goto (pc := 43) (L := [some (.ref b0), some (.int l1), some (.int (l2 ||| 0)), some (.int (l3 + 1))]) (tgt := 15) dX8_movable_43 (by decide) ?_
      exact r_le (L' := [some (.ref b0), some (.int l1), some (.int (l2 ||| 0)), some (.int (l3 + 1))]) ⟨rfl, ⟨rfl, ⟨rfl, ⟨rfl, trivial⟩⟩⟩⟩ K0
    · have K0 := K0.2 q
      refine r_iconst (pc := 31) (v := 1) dX8_movable_31 (by decide) ?_
      refine r_iload_n (pc := 32) dX8_movable_32 rfl ?_
      refine r_ishl (pc := 33) dX8_movable_33 ?_
      refine r_goto (pc := 34) (tgt := 38) dX8_movable_34 (by decide) ?_
      refine r_ior (pc := 38) dX8_movable_38 ?_
      refine r_istore_n (pc := 39) dX8_movable_39 (by decide) ?_
      refine r_iinc (pc := 40) (L := [some (.ref b0), some (.int l1), some (.int (l2 ||| (1 <<< (l3 &&& 31)))), some (.int l3)]) (v := l3 + 1) dX8_movable_40 rfl rfl (by decide) ?_
      refine r_goto (pc := 43) (L := [some (.ref b0), some (.int l1), some (.int (l2 ||| (1 <<< (l3 &&& 31)))), some (.int (l3 + 1))]) (tgt := 15) dX8_movable_43 (by decide) ?_
      exact r_le (L' := [some (.ref b0), some (.int l1), some (.int (l2 ||| (1 <<< (l3 &&& 31)))), some (.int (l3 + 1))]) ⟨rfl, ⟨rfl, ⟨rfl, ⟨rfl, trivial⟩⟩⟩⟩ K0
theorem eq_where (a : Int32) : Both mX7_where mX8_where [.int a] := by
  intro x R
  obtain ⟨W, C, S, A, N, E, -, -⟩ := R.sea
  have hn := E.nums
  have hA : A ≤ 24 := hn.2.2.2.2.2.2.2.1
  have ia := inN' (v := a) (n := A) (by omega)
  have rf : ∀ y, EQx x y 7 → mSI mX8_where [.ref 717, .int a] KW y (fun r' z => (if 0 ≤ a ∧ a < nI A then hrF (gi x 718) S N a.toNatClampNeg else -2) = r' ∧ Rel z) := by
    intro y hy
    obtain ⟨R2, eT⟩ := R.e7 hy
    have E2 := E.eqx hy (Or.inl rfl)
    rw [← eT] at E2 ⊢
    have ht := Rel.t2 E2
    refine v_X8_where_0 km R2.2.1.1 km1 ⟨v0 (k := 3) (by decide) rfl rfl, ?_⟩
    rw [ht.2.2.2.1, ia]
    refine ⟨fun z => ⟨if_neg z, R2⟩, fun z => ?_⟩
    rw [if_pos z]
    obtain ⟨i, hi, rfl⟩ := inN (by omega) z
    rw [nI_clamp (show i < 2 ^ 31 by omega)]
    exact sp_X8_hourFor R2.2.1 km1 E2.2.2.2 hi ⟨rfl, R2⟩
  refine v_X7_where_0 k0 R.1.2.1 (ks0 E.1) E.2.1.2.2.2.1 (ks4 E.1) ?_
  rw [hn.2.2.2.1]
  refine ⟨fun z => ?_, fun z => by have := rf x (EQx.rf _ _); rwa [if_neg z] at this⟩
  rw [if_pos z] at rf
  obtain ⟨i, hi, rfl⟩ := inN (by omega) z
  rw [nI_clamp (show i < 2 ^ 31 by omega)] at rf ⊢
  obtain ⟨p, e1, e2, e3, e4⟩ := E.ask hi
  exact ⟨vp_in_nI (by omega) (by decide), p, e1, sp_X4_hourFor E hi e1 (fun y hy => rf y hy)⟩
theorem eq_movable (a : Int32) : Both mX7_movable mX8_movable [.int a] := by
  intro x R
  obtain ⟨W, C, S, A, N, E, -, -⟩ := R.sea
  have hn := E.nums
  have hS : S ≤ 24 := hn.2.2.2.2.2.2.1
  have iS := inN' (v := a) (n := S) (by omega)
  let g : TT → Nat → Nat → Int32 → Int32 := fun T s => orP (fun h => bP (crt T S W N s h))
  have rf : ∀ y, EQx x y 7 → mSI mX8_movable [.ref 717, .int a] KW y (fun r' z => (if 0 ≤ a ∧ a < nI S then accT (g (gi x 718) a.toNatClampNeg) 24 0 else -2) = r' ∧ Rel z) := by
    intro y hy
    obtain ⟨R2, eT⟩ := R.e7 hy
    have E2 := E.eqx hy (Or.inl rfl)
    rw [← eT] at E2 ⊢
    have ht := Rel.t2 E2
    refine v_X8_movable_0 km R2.2.1.1 km1 ⟨v0 (k := 2) (by decide) rfl rfl, ?_⟩
    rw [ht.2.2.1, iS]
    refine ⟨fun z => ?_, fun z => ⟨if_neg z, R2⟩⟩
    rw [if_pos z]
    obtain ⟨s, hs, rfl⟩ := inN (by omega) z
    rw [nI_clamp (show s < 2 ^ 31 by omega)]
    refine lp_acc (g (gi y 718) s) (fun h n => GI mX8_movable 15 [some (.ref 717), some (.int (nI s)), some (.int n), some (.int (nI h))] [] KW y _) 24 0 ?_ (fun h n hh n1 => ?_)
    · exact v_X8_movable_15 km ⟨fun _ => ⟨rfl, R2⟩, fun z => absurd (Int32.le_refl _) z⟩
    · refine v_X8_movable_15 km ⟨fun z => absurd z (nI_ge (b := 24) hh (by decide)), fun _ => ?_⟩
      rw [nI_1, Int32.or_zero]
      exact sp_X8_canRetime R2.2.1 E2.2.2.2 hs hh ⟨fun w => n1 _ (if_pos w), fun w => n1 _ (if_neg w)⟩
  refine v_X7_movable_0 k0 R.1.2.1 (ks0 E.1) ?_
  rw [hn.2.2.1]
  refine ⟨fun z => ?_, fun z => by have := rf x (EQx.rf _ _); rwa [if_neg z] at this⟩
  rw [if_pos z] at rf
  obtain ⟨s, hs, rfl⟩ := inN (by omega) z
  rw [nI_clamp (show s < 2 ^ 31 by omega)] at rf
  refine lp_acc (g (gi x 718) s) (fun h n => ∀ y, EQx x y 7 → GI mX7_movable 15 [some (.ref 0), some (.int (nI s)), some (.int n), some (.int (nI h))] [] KW y _) 24 0 ?_ (fun h n hh n1 => ?_) x (EQx.rf _ _)
  · intro y hy
    exact v_X7_movable_15 k0 ⟨fun _ => rf y hy, fun z => absurd (Int32.le_refl _) z⟩
  · intro y hy
    have E2 := E.eqx hy (Or.inl rfl)
    refine v_X7_movable_15 k0 ⟨fun z => absurd z (nI_ge (b := 24) hh (by decide)), fun _ => ?_⟩
    rw [nI_1]
    exact sp_X7_canRetime (R.1.keep hy.1) E2 hs hh (fun z hz => ⟨fun w => n1 _ (if_pos w) z (hy.tr hz), fun w => n1 _ (if_neg w) z (hy.tr hz)⟩)
end
/-! 42.full.lean.txt -/
section
/-! sums of numbers -/
def sN (f : Nat → Nat) : Nat → Nat
  | 0 => 0
  | n + 1 => sN f n + f n
theorem sN_cg {f g : Nat → Nat} : ∀ n, (∀ i, i < n → f i = g i) → sN f n = sN g n := by
  intro n
  induction n with
  | zero => intro _; rfl
  | succ n ih =>
    intro h
    simp only [sN]
    rw [ih (fun i hi => h i (by omega)), h n (by omega)]
theorem sN_add (f g : Nat → Nat) : ∀ n, sN (fun i => f i + g i) n = sN f n + sN g n := by
  intro n
  induction n with
  | zero => rfl
  | succ n ih =>
    simp only [sN]
    rw [ih]
    omega
theorem sN_0 {f : Nat → Nat} : ∀ n, (∀ i, i < n → f i = 0) → sN f n = 0 := by
  intro n
  induction n with
  | zero => intro _; rfl
  | succ n ih =>
    intro h
    simp only [sN]
    rw [ih (fun i hi => h i (by omega)), h n (by omega)]
theorem sN_swap (f : Nat → Nat → Nat) (m : Nat) : ∀ n, sN (fun i => sN (f i) m) n = sN (fun j => sN (fun i => f i j) n) m := by
  intro n
  induction n with
  | zero => exact (sN_0 m (fun _ _ => rfl)).symm
  | succ n ih =>
    simp only [sN]
    rw [ih, sN_add]
theorem sN_split (f : Nat → Nat) (a : Nat) : ∀ b, sN f (a + b) = sN f a + sN (fun j => f (a + j)) b := by
  intro b
  induction b with
  | zero => rfl
  | succ b ih =>
    rw [← Nat.add_assoc]
    simp only [sN]
    rw [ih]
    omega
theorem npc_sN : ∀ k n, npc k n = sN (fun i => if n.testBit i = true then 1 else 0) k := by
  intro k
  induction k with
  | zero => intro n; rfl
  | succ k ih =>
    intro n
    rw [Nat.add_comm k 1, npc_split 1 k n, sN_split _ 1 k, ih]
    congr 1
    · simp only [sN, npc]
      rw [Nat.testBit_zero]
      by_cases h : n % 2 = 1
      · simp [h]
      · have : n % 2 = 0 := by omega
        simp [this]
    · apply sN_cg
      intro i _
      rw [show n / 2 ^ 1 = n >>> 1 from (Nat.shiftRight_eq_div_pow n 1).symm, Nat.testBit_shiftRight]
theorem cpt_sN (v : Int32) : cpt v = sN (fun i => if tb v i = true then 1 else 0) 32 := npc_sN 32 _
theorem sN_acc {f : Nat → Nat} : ∀ n, accT (fun i a => a + nI (f i)) n 0 = nI (sN f n) := by
  intro n
  induction n with
  | zero => rfl
  | succ n ih =>
    simp only [accT, sN]
    rw [ih, nI_add]
theorem tb_wtc {W N i : Nat} (hW : W ≤ 30) (hN : N ≤ W) (hi : i < 32) : tb (f_wtc (nI N) (nI W)) i = decide (N ≤ i ∧ i < W) := by
  unfold f_wtc
  by_cases c : W ≤ N
  · rw [if_pos (nI_le c (by omega)), tb_0, decide_eq_false (by omega)]
  · rw [if_neg (nI_ge (by omega) (by omega))]
    obtain ⟨w, rfl⟩ : ∃ w, W = w + 1 := ⟨W - 1, by omega⟩
    rw [nI_pred, tb_sb0 N (by omega) w (by omega) (by omega) i hi]
    apply decide_eq_decide.mpr
    omega
/-- an hour is full in a week to come -/
def fuI (T : TT) (S W N : Nat) (d : Int32) (h i : Nat) : Nat := if N ≤ i ∧ i < W ∧ T (6 + 2 * h) ≤ nI (nW T S i d (nI h) 0 0) then 1 else 0
theorem fuI0 {T : TT} {S W N : Nat} {d : Int32} {h i : Nat} (c : ¬ (N ≤ i ∧ i < W)) : fuI T S W N d h i = 0 := if_neg (fun u => c ⟨u.1, u.2.1⟩)
theorem nI_z {n : Nat} (h : n < 2 ^ 31) : nI n = 0 ↔ n = 0 := nI_eq (b := 0) h (by decide)
theorem fuI_sum {T : TT} {S W N : Nat} {d : Int32} (hW : W ≤ 30) (hN : N ≤ W) : sN (fun h => sN (fuI T S W N d h) 32) 24 = sN (fun j => sN (fun h => fuI T S W N d h (N + j)) 24) (W - N) := by
  have e : sN (fun i => sN (fun h => fuI T S W N d h i) 24) (N + ((W - N) + (32 - W))) = sN (fun j => sN (fun h => fuI T S W N d h (N + j)) 24) (W - N) := by
    rw [sN_split, sN_split]
    have h1 : sN (fun i => sN (fun h => fuI T S W N d h i) 24) N = 0 := sN_0 N (fun i hi => sN_0 24 (fun h _ => fuI0 (by omega)))
    have h2 : sN (fun j => sN (fun h => fuI T S W N d h (N + (W - N + j))) 24) (32 - W) = 0 := sN_0 (32 - W) (fun i hi => sN_0 24 (fun h _ => fuI0 (by omega)))
    rw [h1, h2, Nat.zero_add, Nat.add_zero]
  rw [sN_swap, ← e]
  congr 1
  omega
/-- nothing stands in an hour from now on -/
def idl (T : TT) (S W N : Nat) (d : Int32) (h : Nat) : Prop := ∀ i, N ≤ i → i < W → nW T S i d (nI h) 0 0 = 0
set_option maxHeartbeats 2000000 in
theorem v_X7_full_0 {K : Sh} {x : Cn} {Q : Int32 → Cn → Prop} {b0 : Nat} {l1 : Int32} {b0_2 : Nat} (k_b0 : kk K b0 = some (7, 0)) (g_b0_2 : gr x b0 2 = some b0_2) (k_b0_2 : kk K b0_2 = some (4, 0)) (K0 : ((0 < gi x b0_2 0 ∧ 0 ≤ l1 ∧ l1 < 7) → (GI mX7_full 15 [some (.ref b0), some (.int l1), some (.int 0), some (.int 0), none] [] K x Q)) ∧ (¬ (0 < gi x b0_2 0 ∧ 0 ≤ l1 ∧ l1 < 7) → (Q (-2) x))) : mSI mX7_full [.ref b0, .int l1] K x Q := by
  refine s_I (by decide) (by simp [Value.category]) (Nat.le_of_ble_eq_true rfl) ?_
  show mGM mX7_full 0 [some (.ref b0), some (.int l1), none, none, none] [] (hp K x) (PI K Q)
  refine r_aload_n (pc := 0) dX7_full_0 rfl ?_
  refine r_iload_n (pc := 1) dX7_full_1 rfl ?_
  refine s_VI (pc := 2) mX7_isDay (ci := 7) (a := b0) (As := [.int l1]) dX7_full_2 lk_X7_245 in_X7_isDay mo_X7_isDay ⟨by decide, rfl⟩ ⟨by decide, by decide⟩ (Nat.le_of_ble_eq_true rfl) k_b0 (sp_X7_isDay k_b0 g_b0_2 k_b0_2 ?_)
  refine r_if_ne (pc := 5) (tgt := 11) dX7_full_5 (by decide) (fun q => ?_) (fun q => ?_)
  · have q := b2i_nz q
    have K0 := K0.1 q
    refine r_iconst (pc := 11) (v := 0) dX7_full_11 (by decide) ?_
    refine r_istore_n (pc := 12) dX7_full_12 (by decide) ?_
    refine r_iconst (pc := 13) (L := [some (.ref b0), some (.int l1), some (.int 0), none, none]) (v := 0) dX7_full_13 (by decide) ?_
    refine r_istore_n (pc := 14) dX7_full_14 (by decide) ?_
    exact r_le (L' := [some (.ref b0), some (.int l1), some (.int 0), some (.int 0), none]) ⟨rfl, ⟨rfl, ⟨rfl, ⟨rfl, trivial⟩⟩⟩⟩ K0
  · have q := (b2i_z _).mp q
    have K0 := K0.2 q
    refine r_bipush (pc := 8) (v := (-2)) dX7_full_8 (by decide) ?_
    exact s_iret rfl dX7_full_10 K0
set_option maxHeartbeats 2000000 in
theorem v_X7_full_15 {K : Sh} {x : Cn} {Q : Int32 → Cn → Prop} {b0 : Nat} {l1 : Int32} {l2 : Int32} {l3 : Int32} {b0_2 : Nat} {b0_2_5 : Nat} {n_b0_2_5 : Nat} (k_b0 : kk K b0 = some (7, 0)) (g_b0_2 : gr x b0 2 = some b0_2) (k_b0_2 : kk K b0_2 = some (4, 0)) (g_b0_2_5 : gr x b0_2 5 = some b0_2_5) (k_b0_2_5 : kk K b0_2_5 = some (20, n_b0_2_5)) (K0 : (24 ≤ l3 → (Q l2 x)) ∧ (¬ 24 ≤ l3 → (vp_in l3 n_b0_2_5 ∧ (mSI mX4_weeksLoaded [.ref b0_2, .int l1, .int l3, .int (gi x b0_2_5 (l3 : Int32).toNatClampNeg), .int 0, .int 0] K x (fun r_4 y_3 => gr y_3 b0 2 = some b0_2 ∧ (GI mX7_full 15 [some (.ref b0), some (.int l1), some (.int (l2 + (nI (cpt (r_4 &&& (f_wtc (gi y_3 b0_2 1) (gi y_3 b0_2 0))))))), some (.int (l3 + 1)), none] [] K y_3 Q)))))) : GI mX7_full 15 [some (.ref b0), some (.int l1), some (.int l2), some (.int l3), none] [] K x Q := by
  show mGM mX7_full 15 [some (.ref b0), some (.int l1), some (.int l2), some (.int l3), none] [] (hp K x) (PI K Q)
  refine r_iload_n (pc := 15) dX7_full_15 rfl ?_
  refine r_bipush (pc := 16) (v := 24) dX7_full_16 (by decide) ?_
  refine r_icmp_ge (pc := 18) (tgt := 65) dX7_full_18 (by decide) (fun q => ?_) (fun q => ?_)
  · have K0 := K0.1 q
    refine r_iload_n (pc := 65) dX7_full_65 rfl ?_
    exact s_iret rfl dX7_full_66 K0
  · have K0 := K0.2 q
    refine r_aload_n (pc := 21) dX7_full_21 rfl ?_
    refine s_getR (pc := 22) dX7_full_22 fl_X7_20 rfl k_b0 g_b0_2 ?_
    refine r_iload_n (pc := 25) dX7_full_25 rfl ?_
    refine r_iload_n (pc := 26) dX7_full_26 rfl ?_
    refine r_aload_n (pc := 27) dX7_full_27 rfl ?_
    refine s_getR (pc := 28) dX7_full_28 fl_X7_20 rfl k_b0 g_b0_2 ?_
    refine s_getR (pc := 31) dX7_full_31 fl_X7_198 rfl k_b0_2 g_b0_2_5 ?_
    refine r_iload_n (pc := 34) dX7_full_34 rfl ?_
    obtain ⟨i_2, K0⟩ := K0
    refine s_iald (pc := 35) dX7_full_35 k_b0_2_5 i_2 ?_
    refine r_iconst (pc := 36) (v := 0) dX7_full_36 (by decide) ?_
    refine r_iconst (pc := 37) (v := 0) dX7_full_37 (by decide) ?_
    refine s_VI (pc := 38) mX4_weeksLoaded (ci := 4) (a := b0_2) (As := [.int l1, .int l3, .int (gi x b0_2_5 (l3 : Int32).toNatClampNeg), .int 0, .int 0]) dX7_full_38 lk_X7_285 in_X4_weeksLoaded mo_X4_weeksLoaded ⟨by decide, rfl⟩ ⟨by decide, by decide⟩ (Nat.le_of_ble_eq_true rfl) k_b0_2 (mSI_mono K0 (fun r_4 y_3 K0 => ?_))
    refine r_istore (pc := 41) dX7_full_41 (by decide) ?_
    refine r_iload_n (pc := 43) (L := [some (.ref b0), some (.int l1), some (.int l2), some (.int l3), some (.int r_4)]) dX7_full_43 rfl ?_
    refine r_iload (pc := 44) dX7_full_44 rfl ?_
    refine r_aload_n (pc := 46) dX7_full_46 rfl ?_
    obtain ⟨g_5, K0⟩ := K0
    refine s_getR (pc := 47) dX7_full_47 fl_X7_20 rfl k_b0 g_5 ?_
    refine s_VI (pc := 50) mX4_weeksToCome (ci := 4) (a := b0_2) (As := []) dX7_full_50 lk_X7_289 in_X4_weeksToCome mo_X4_weeksToCome ⟨by decide, rfl⟩ ⟨by decide, by decide⟩ (Nat.le_of_ble_eq_true rfl) k_b0_2 (sp_X4_weeksToCome k_b0_2 ?_)
    refine r_iand (pc := 53) dX7_full_53 ?_
    refine s_SI (pc := 54) mJ6_bitCount_0f7a4 (As := [.int (r_4 &&& (f_wtc (gi y_3 b0_2 1) (gi y_3 b0_2 0)))]) dX7_full_54 lk_X7_255 st_J6_bitCount_0f7a4 mo_J6_bitCount_0f7a4 ⟨by decide, by decide⟩ (Nat.le_of_ble_eq_true rfl) (sp_bc  ?_)
    refine r_iadd (pc := 57) dX7_full_57 ?_
    refine r_istore_n (pc := 58) dX7_full_58 (by decide) ?_
    refine r_iinc (pc := 59) (L := [some (.ref b0), some (.int l1), some (.int (l2 + (nI (cpt (r_4 &&& (f_wtc (gi y_3 b0_2 1) (gi y_3 b0_2 0))))))), some (.int l3), some (.int r_4)]) (v := l3 + 1) dX7_full_59 rfl rfl (by decide) ?_
    refine r_goto (pc := 62) (L := [some (.ref b0), some (.int l1), some (.int (l2 + (nI (cpt (r_4 &&& (f_wtc (gi y_3 b0_2 1) (gi y_3 b0_2 0))))))), some (.int (l3 + 1)), some (.int r_4)]) (tgt := 15) dX7_full_62 (by decide) ?_
    exact r_le (L' := [some (.ref b0), some (.int l1), some (.int (l2 + (nI (cpt (r_4 &&& (f_wtc (gi y_3 b0_2 1) (gi y_3 b0_2 0))))))), some (.int (l3 + 1)), none]) ⟨rfl, ⟨rfl, ⟨rfl, ⟨rfl, trivial⟩⟩⟩⟩ K0
set_option maxHeartbeats 2000000 in
theorem v_X8_full_0 {K : Sh} {x : Cn} {Q : Int32 → Cn → Prop} {b0 : Nat} {l1 : Int32} {b0_1 : Nat} {n_b0_1 : Nat} (k_b0 : kk K b0 = some (8, 0)) (g_b0_1 : gr x b0 1 = some b0_1) (k_b0_1 : kk K b0_1 = some (20, n_b0_1)) (K0 : vp_in 0 n_b0_1 ∧ (((0 < gi x b0_1 0 ∧ 0 ≤ l1 ∧ l1 ≤ 6) → (vp_in 4 n_b0_1 ∧ (GI mX8_full 20 [some (.ref b0), some (.int l1), some (.int 0), some (.int (gi x b0_1 4)), none] [] K x Q))) ∧ (¬ (0 < gi x b0_1 0 ∧ 0 ≤ l1 ∧ l1 ≤ 6) → (Q (-2) x)))) : mSI mX8_full [.ref b0, .int l1] K x Q := by
  refine s_I (by decide) (by simp [Value.category]) (Nat.le_of_ble_eq_true rfl) ?_
  show mGM mX8_full 0 [some (.ref b0), some (.int l1), none, none, none] [] (hp K x) (PI K Q)
  refine r_aload_n (pc := 0) dX8_full_0 rfl ?_
  refine r_iload_n (pc := 1) dX8_full_1 rfl ?_
  obtain ⟨i_1, K0⟩ := K0
  refine s_VI (pc := 2) mX8_isDay (ci := 8) (a := b0) (As := [.int l1]) dX8_full_2 lk_X8_61 in_X8_isDay mo_X8_isDay ⟨by decide, rfl⟩ ⟨by decide, by decide⟩ (Nat.le_of_ble_eq_true rfl) k_b0 (sp_X8_isDay k_b0 g_b0_1 k_b0_1 i_1 ?_)
  refine r_if_ne (pc := 5) (tgt := 11) dX8_full_5 (by decide) (fun q => ?_) (fun q => ?_)
  · have q := b2i_nz q
    have K0 := K0.1 q
    refine r_iconst (pc := 11) (v := 0) dX8_full_11 (by decide) ?_
    refine r_istore_n (pc := 12) dX8_full_12 (by decide) ?_
    refine r_aload_n (pc := 13) (L := [some (.ref b0), some (.int l1), some (.int 0), none, none]) dX8_full_13 rfl ?_
    refine s_getR (pc := 14) dX8_full_14 fl_X8_9 rfl k_b0 g_b0_1 ?_
    refine r_iconst (pc := 17) (v := 4) dX8_full_17 (by decide) ?_
    obtain ⟨i_3, K0⟩ := K0
    refine s_iald (pc := 18) dX8_full_18 k_b0_1 i_3 ?_
    refine r_istore_n (pc := 19) dX8_full_19 (by decide) ?_
    exact r_le (L' := [some (.ref b0), some (.int l1), some (.int 0), some (.int (gi x b0_1 4)), none]) ⟨rfl, ⟨rfl, ⟨rfl, ⟨rfl, trivial⟩⟩⟩⟩ K0
  · have q := (b2i_z _).mp q
    have K0 := K0.2 q
    refine r_bipush (pc := 8) (v := (-2)) dX8_full_8 (by decide) ?_
    exact s_iret rfl dX8_full_10 K0
set_option maxHeartbeats 2000000 in
theorem v_X8_full_20 {K : Sh} {x : Cn} {Q : Int32 → Cn → Prop} {b0 : Nat} {l1 : Int32} {l2 : Int32} {l3 : Int32} {b0_1 : Nat} {n_b0_1 : Nat} (k_b0 : kk K b0 = some (8, 0)) (g_b0_1 : gr x b0 1 = some b0_1) (k_b0_1 : kk K b0_1 = some (20, n_b0_1)) (K0 : vp_in 0 n_b0_1 ∧ (((gi x b0_1 0) ≤ l3 → (Q l2 x)) ∧ (¬ (gi x b0_1 0) ≤ l3 → (GI mX8_full 33 [some (.ref b0), some (.int l1), some (.int l2), some (.int l3), some (.int 0)] [] K x Q)))) : GI mX8_full 20 [some (.ref b0), some (.int l1), some (.int l2), some (.int l3), none] [] K x Q := by
  show mGM mX8_full 20 [some (.ref b0), some (.int l1), some (.int l2), some (.int l3), none] [] (hp K x) (PI K Q)
  refine r_iload_n (pc := 20) dX8_full_20 rfl ?_
  refine r_aload_n (pc := 21) dX8_full_21 rfl ?_
  refine s_getR (pc := 22) dX8_full_22 fl_X8_9 rfl k_b0 g_b0_1 ?_
  refine r_iconst (pc := 25) (v := 0) dX8_full_25 (by decide) ?_
  obtain ⟨i_1, K0⟩ := K0
  refine s_iald (pc := 26) dX8_full_26 k_b0_1 i_1 ?_
  refine r_icmp_ge (pc := 27) (tgt := 85) dX8_full_27 (by decide) (fun q => ?_) (fun q => ?_)
  · have K0 := K0.1 q
    refine r_iload_n (pc := 85) dX8_full_85 rfl ?_
    exact s_iret rfl dX8_full_86 K0
  · have K0 := K0.2 q
    refine r_iconst (pc := 30) (v := 0) dX8_full_30 (by decide) ?_
    refine r_istore (pc := 31) dX8_full_31 (by decide) ?_
    exact r_le (L' := [some (.ref b0), some (.int l1), some (.int l2), some (.int l3), some (.int 0)]) ⟨rfl, ⟨rfl, ⟨rfl, ⟨rfl, ⟨rfl, trivial⟩⟩⟩⟩⟩ K0
set_option maxHeartbeats 2000000 in
theorem v_X8_full_33 {K : Sh} {x : Cn} {Q : Int32 → Cn → Prop} {b0 : Nat} {l1 : Int32} {l2 : Int32} {l3 : Int32} {l4 : Int32}  (k_b0 : kk K b0 = some (8, 0)) (K0 : (24 ≤ l4 → (GI mX8_full 20 [some (.ref b0), some (.int l1), some (.int l2), some (.int (l3 + 1)), none] [] K x Q)) ∧ (¬ 24 ≤ l4 → (mSI mX8_loadBut [.ref b0, .int l3, .int l1, .int l4, .int 0, .int (-1)] K x (fun r_3 y_2 => ∃ c_4 : Nat, gr y_2 b0 1 = some c_4 ∧ (∃ n_7 : Nat, kk K c_4 = some (20, n_7) ∧ (vp_in (6 + (2 * l4)) n_7 ∧ ((r_3 < (gi y_2 c_4 ((6 + (2 * l4)) : Int32).toNatClampNeg) → (GI mX8_full 33 [some (.ref b0), some (.int l1), some (.int (l2 + 0)), some (.int l3), some (.int (l4 + 1))] [] K y_2 Q)) ∧ (¬ r_3 < (gi y_2 c_4 ((6 + (2 * l4)) : Int32).toNatClampNeg) → (GI mX8_full 33 [some (.ref b0), some (.int l1), some (.int (l2 + 1)), some (.int l3), some (.int (l4 + 1))] [] K y_2 Q))))))))) : GI mX8_full 33 [some (.ref b0), some (.int l1), some (.int l2), some (.int l3), some (.int l4)] [] K x Q := by
  show mGM mX8_full 33 [some (.ref b0), some (.int l1), some (.int l2), some (.int l3), some (.int l4)] [] (hp K x) (PI K Q)
  refine r_iload (pc := 33) dX8_full_33 rfl ?_
  refine r_bipush (pc := 35) (v := 24) dX8_full_35 (by decide) ?_
  refine r_icmp_ge (pc := 37) (tgt := 79) dX8_full_37 (by decide) (fun q => ?_) (fun q => ?_)
  · have K0 := K0.1 q
    refine r_iinc (pc := 79) (v := l3 + 1) dX8_full_79 rfl rfl (by decide) ?_
    refine r_goto (pc := 82) (L := [some (.ref b0), some (.int l1), some (.int l2), some (.int (l3 + 1)), some (.int l4)]) (tgt := 20) dX8_full_82 (by decide) ?_
    exact r_le (L' := [some (.ref b0), some (.int l1), some (.int l2), some (.int (l3 + 1)), none]) ⟨rfl, ⟨rfl, ⟨rfl, ⟨rfl, trivial⟩⟩⟩⟩ K0
  · have K0 := K0.2 q
    refine r_iload_n (pc := 40) dX8_full_40 rfl ?_
    refine r_aload_n (pc := 41) dX8_full_41 rfl ?_
    refine r_iload_n (pc := 42) dX8_full_42 rfl ?_
    refine r_iload_n (pc := 43) dX8_full_43 rfl ?_
    refine r_iload (pc := 44) dX8_full_44 rfl ?_
    refine r_iconst (pc := 46) (v := 0) dX8_full_46 (by decide) ?_
    refine r_iconst (pc := 47) (v := (-1)) dX8_full_47 (by decide) ?_
    refine s_VI (pc := 48) mX8_loadBut (ci := 8) (a := b0) (As := [.int l3, .int l1, .int l4, .int 0, .int (-1)]) dX8_full_48 lk_X8_86 in_X8_loadBut mo_X8_loadBut ⟨by decide, rfl⟩ ⟨by decide, by decide⟩ (Nat.le_of_ble_eq_true rfl) k_b0 (mSI_mono K0 (fun r_3 y_2 K0 => ?_))
    refine r_aload_n (pc := 51) dX8_full_51 rfl ?_
    obtain ⟨c_4, g_5, K0⟩ := K0
    refine s_getR (pc := 52) dX8_full_52 fl_X8_9 rfl k_b0 g_5 ?_
    refine r_bipush (pc := 55) (v := 6) dX8_full_55 (by decide) ?_
    refine r_iconst (pc := 57) (v := 2) dX8_full_57 (by decide) ?_
    refine r_iload (pc := 58) dX8_full_58 rfl ?_
    refine r_imul (pc := 60) dX8_full_60 ?_
    refine r_iadd (pc := 61) dX8_full_61 ?_
    obtain ⟨n_7, e_6, K0⟩ := K0
    obtain ⟨i_8, K0⟩ := K0
    refine s_iald (pc := 62) dX8_full_62 e_6 i_8 ?_
    refine r_icmp_lt (pc := 63) (tgt := 70) dX8_full_63 (by decide) (fun q => ?_) (fun q => ?_)
    · have K0 := K0.1 q
      refine r_iconst (pc := 70) (v := 0) dX8_full_70 (by decide) ?_
      refine r_iadd (pc := 71) dX8_full_71 ?_
      refine r_istore_n (pc := 72) dX8_full_72 (by decide) ?_
      refine r_iinc (pc := 73) (L := [some (.ref b0), some (.int l1), some (.int (l2 + 0)), some (.int l3), some (.int l4)]) (v := l4 + 1) dX8_full_73 rfl rfl (by decide) ?_
      refine r_goto (pc := 76) (L := [some (.ref b0), some (.int l1), some (.int (l2 + 0)), some (.int l3), some (.int (l4 + 1))]) (tgt := 33) dX8_full_76 (by decide) ?_
      exact r_le (L' := [some (.ref b0), some (.int l1), some (.int (l2 + 0)), some (.int l3), some (.int (l4 + 1))]) ⟨rfl, ⟨rfl, ⟨rfl, ⟨rfl, ⟨rfl, trivial⟩⟩⟩⟩⟩ K0
    · have K0 := K0.2 q
      refine r_iconst (pc := 66) (v := 1) dX8_full_66 (by decide) ?_
      refine r_goto (pc := 67) (tgt := 71) dX8_full_67 (by decide) ?_
      refine r_iadd (pc := 71) dX8_full_71 ?_
      refine r_istore_n (pc := 72) dX8_full_72 (by decide) ?_
      refine r_iinc (pc := 73) (L := [some (.ref b0), some (.int l1), some (.int (l2 + 1)), some (.int l3), some (.int l4)]) (v := l4 + 1) dX8_full_73 rfl rfl (by decide) ?_
      refine r_goto (pc := 76) (L := [some (.ref b0), some (.int l1), some (.int (l2 + 1)), some (.int l3), some (.int (l4 + 1))]) (tgt := 33) dX8_full_76 (by decide) ?_
      exact r_le (L' := [some (.ref b0), some (.int l1), some (.int (l2 + 1)), some (.int l3), some (.int (l4 + 1))]) ⟨rfl, ⟨rfl, ⟨rfl, ⟨rfl, ⟨rfl, trivial⟩⟩⟩⟩⟩ K0
set_option maxHeartbeats 2000000 in
theorem v_X7_idle_0 {K : Sh} {x : Cn} {Q : Int32 → Cn → Prop} {b0 : Nat} {l1 : Int32} {b0_2 : Nat} (k_b0 : kk K b0 = some (7, 0)) (g_b0_2 : gr x b0 2 = some b0_2) (k_b0_2 : kk K b0_2 = some (4, 0)) (K0 : ((0 < gi x b0_2 0 ∧ 0 ≤ l1 ∧ l1 < 7) → (GI mX7_idle 15 [some (.ref b0), some (.int l1), some (.int 0), some (.int 0), none] [] K x Q)) ∧ (¬ (0 < gi x b0_2 0 ∧ 0 ≤ l1 ∧ l1 < 7) → (Q (-2) x))) : mSI mX7_idle [.ref b0, .int l1] K x Q := by
  refine s_I (by decide) (by simp [Value.category]) (Nat.le_of_ble_eq_true rfl) ?_
  show mGM mX7_idle 0 [some (.ref b0), some (.int l1), none, none, none] [] (hp K x) (PI K Q)
  refine r_aload_n (pc := 0) dX7_idle_0 rfl ?_
  refine r_iload_n (pc := 1) dX7_idle_1 rfl ?_
  refine s_VI (pc := 2) mX7_isDay (ci := 7) (a := b0) (As := [.int l1]) dX7_idle_2 lk_X7_245 in_X7_isDay mo_X7_isDay ⟨by decide, rfl⟩ ⟨by decide, by decide⟩ (Nat.le_of_ble_eq_true rfl) k_b0 (sp_X7_isDay k_b0 g_b0_2 k_b0_2 ?_)
  refine r_if_ne (pc := 5) (tgt := 11) dX7_idle_5 (by decide) (fun q => ?_) (fun q => ?_)
  · have q := b2i_nz q
    have K0 := K0.1 q
    refine r_iconst (pc := 11) (v := 0) dX7_idle_11 (by decide) ?_
    refine r_istore_n (pc := 12) dX7_idle_12 (by decide) ?_
    refine r_iconst (pc := 13) (L := [some (.ref b0), some (.int l1), some (.int 0), none, none]) (v := 0) dX7_idle_13 (by decide) ?_
    refine r_istore_n (pc := 14) dX7_idle_14 (by decide) ?_
    exact r_le (L' := [some (.ref b0), some (.int l1), some (.int 0), some (.int 0), none]) ⟨rfl, ⟨rfl, ⟨rfl, ⟨rfl, trivial⟩⟩⟩⟩ K0
  · have q := (b2i_z _).mp q
    have K0 := K0.2 q
    refine r_bipush (pc := 8) (v := (-2)) dX7_idle_8 (by decide) ?_
    exact s_iret rfl dX7_idle_10 K0
set_option maxHeartbeats 2000000 in
theorem v_X7_idle_15 {K : Sh} {x : Cn} {Q : Int32 → Cn → Prop} {b0 : Nat} {l1 : Int32} {l2 : Int32} {l3 : Int32} {b0_2 : Nat} (k_b0 : kk K b0 = some (7, 0)) (g_b0_2 : gr x b0 2 = some b0_2) (k_b0_2 : kk K b0_2 = some (4, 0)) (K0 : (24 ≤ l3 → (Q l2 x)) ∧ (¬ 24 ≤ l3 → (mSI mX4_weeksLoaded [.ref b0_2, .int l1, .int l3, .int 1, .int 0, .int 0] K x (fun r_3 y_2 => gr y_2 b0 2 = some b0_2 ∧ ((¬ (r_3 &&& (f_wtc (gi y_2 b0_2 1) (gi y_2 b0_2 0))) = 0 → (GI mX7_idle 15 [some (.ref b0), some (.int l1), some (.int l2), some (.int (l3 + 1)), none] [] K y_2 Q)) ∧ ((r_3 &&& (f_wtc (gi y_2 b0_2 1) (gi y_2 b0_2 0))) = 0 → (GI mX7_idle 15 [some (.ref b0), some (.int l1), some (.int (l2 ||| (1 <<< (l3 &&& 31)))), some (.int (l3 + 1)), none] [] K y_2 Q))))))) : GI mX7_idle 15 [some (.ref b0), some (.int l1), some (.int l2), some (.int l3), none] [] K x Q := by
  show mGM mX7_idle 15 [some (.ref b0), some (.int l1), some (.int l2), some (.int l3), none] [] (hp K x) (PI K Q)
  refine r_iload_n (pc := 15) dX7_idle_15 rfl ?_
  refine r_bipush (pc := 16) (v := 24) dX7_idle_16 (by decide) ?_
  refine r_icmp_ge (pc := 18) (tgt := 60) dX7_idle_18 (by decide) (fun q => ?_) (fun q => ?_)
  · have K0 := K0.1 q
    refine r_iload_n (pc := 60) dX7_idle_60 rfl ?_
    exact s_iret rfl dX7_idle_61 K0
  · have K0 := K0.2 q
    refine r_aload_n (pc := 21) dX7_idle_21 rfl ?_
    refine s_getR (pc := 22) dX7_idle_22 fl_X7_20 rfl k_b0 g_b0_2 ?_
    refine r_iload_n (pc := 25) dX7_idle_25 rfl ?_
    refine r_iload_n (pc := 26) dX7_idle_26 rfl ?_
    refine r_iconst (pc := 27) (v := 1) dX7_idle_27 (by decide) ?_
    refine r_iconst (pc := 28) (v := 0) dX7_idle_28 (by decide) ?_
    refine r_iconst (pc := 29) (v := 0) dX7_idle_29 (by decide) ?_
    refine s_VI (pc := 30) mX4_weeksLoaded (ci := 4) (a := b0_2) (As := [.int l1, .int l3, .int 1, .int 0, .int 0]) dX7_idle_30 lk_X7_285 in_X4_weeksLoaded mo_X4_weeksLoaded ⟨by decide, rfl⟩ ⟨by decide, by decide⟩ (Nat.le_of_ble_eq_true rfl) k_b0_2 (mSI_mono K0 (fun r_3 y_2 K0 => ?_))
    refine r_istore (pc := 33) dX7_idle_33 (by decide) ?_
    refine r_iload (pc := 35) (L := [some (.ref b0), some (.int l1), some (.int l2), some (.int l3), some (.int r_3)]) dX7_idle_35 rfl ?_
    refine r_aload_n (pc := 37) dX7_idle_37 rfl ?_
    obtain ⟨g_4, K0⟩ := K0
    refine s_getR (pc := 38) dX7_idle_38 fl_X7_20 rfl k_b0 g_4 ?_
    refine s_VI (pc := 41) mX4_weeksToCome (ci := 4) (a := b0_2) (As := []) dX7_idle_41 lk_X7_289 in_X4_weeksToCome mo_X4_weeksToCome ⟨by decide, rfl⟩ ⟨by decide, by decide⟩ (Nat.le_of_ble_eq_true rfl) k_b0_2 (sp_X4_weeksToCome k_b0_2 ?_)
    refine r_iand (pc := 44) dX7_idle_44 ?_
    refine r_if_ne (pc := 45) (tgt := 54) dX7_idle_45 (by decide) (fun q => ?_) (fun q => ?_)
    · have K0 := K0.1 q
      refine r_iinc (pc := 54) (v := l3 + 1) dX7_idle_54 rfl rfl (by decide) ?_
      refine r_goto (pc := 57) (L := [some (.ref b0), some (.int l1), some (.int l2), some (.int (l3 + 1)), some (.int r_3)]) (tgt := 15) dX7_idle_57 (by decide) ?_
      exact r_le (L' := [some (.ref b0), some (.int l1), some (.int l2), some (.int (l3 + 1)), none]) ⟨rfl, ⟨rfl, ⟨rfl, ⟨rfl, trivial⟩⟩⟩⟩ K0
    · have K0 := K0.2 q
      refine r_iload_n (pc := 48) dX7_idle_48 rfl ?_
      refine r_iconst (pc := 49) (v := 1) dX7_idle_49 (by decide) ?_
      refine r_iload_n (pc := 50) dX7_idle_50 rfl ?_
      refine r_ishl (pc := 51) dX7_idle_51 ?_
      refine r_ior (pc := 52) dX7_idle_52 ?_
      refine r_istore_n (pc := 53) dX7_idle_53 (by decide) ?_
      refine r_iinc (pc := 54) (L := [some (.ref b0), some (.int l1), some (.int (l2 ||| (1 <<< (l3 &&& 31)))), some (.int l3), some (.int r_3)]) (v := l3 + 1) dX7_idle_54 rfl rfl (by decide) ?_
      refine r_goto (pc := 57) (L := [some (.ref b0), some (.int l1), some (.int (l2 ||| (1 <<< (l3 &&& 31)))), some (.int (l3 + 1)), some (.int r_3)]) (tgt := 15) dX7_idle_57 (by decide) ?_
      exact r_le (L' := [some (.ref b0), some (.int l1), some (.int (l2 ||| (1 <<< (l3 &&& 31)))), some (.int (l3 + 1)), none]) ⟨rfl, ⟨rfl, ⟨rfl, ⟨rfl, trivial⟩⟩⟩⟩ K0
set_option maxHeartbeats 2000000 in
theorem v_X8_idle_0 {K : Sh} {x : Cn} {Q : Int32 → Cn → Prop} {b0 : Nat} {l1 : Int32} {b0_1 : Nat} {n_b0_1 : Nat} (k_b0 : kk K b0 = some (8, 0)) (g_b0_1 : gr x b0 1 = some b0_1) (k_b0_1 : kk K b0_1 = some (20, n_b0_1)) (K0 : vp_in 0 n_b0_1 ∧ (((0 < gi x b0_1 0 ∧ 0 ≤ l1 ∧ l1 ≤ 6) → (GI mX8_idle 15 [some (.ref b0), some (.int l1), some (.int 0), some (.int 0), none, none] [] K x Q)) ∧ (¬ (0 < gi x b0_1 0 ∧ 0 ≤ l1 ∧ l1 ≤ 6) → (Q (-2) x)))) : mSI mX8_idle [.ref b0, .int l1] K x Q := by
  refine s_I (by decide) (by simp [Value.category]) (Nat.le_of_ble_eq_true rfl) ?_
  show mGM mX8_idle 0 [some (.ref b0), some (.int l1), none, none, none, none] [] (hp K x) (PI K Q)
  refine r_aload_n (pc := 0) dX8_idle_0 rfl ?_
  refine r_iload_n (pc := 1) dX8_idle_1 rfl ?_
  obtain ⟨i_1, K0⟩ := K0
  refine s_VI (pc := 2) mX8_isDay (ci := 8) (a := b0) (As := [.int l1]) dX8_idle_2 lk_X8_61 in_X8_isDay mo_X8_isDay ⟨by decide, rfl⟩ ⟨by decide, by decide⟩ (Nat.le_of_ble_eq_true rfl) k_b0 (sp_X8_isDay k_b0 g_b0_1 k_b0_1 i_1 ?_)
  refine r_if_ne (pc := 5) (tgt := 11) dX8_idle_5 (by decide) (fun q => ?_) (fun q => ?_)
  · have q := b2i_nz q
    have K0 := K0.1 q
    refine r_iconst (pc := 11) (v := 0) dX8_idle_11 (by decide) ?_
    refine r_istore_n (pc := 12) dX8_idle_12 (by decide) ?_
    refine r_iconst (pc := 13) (L := [some (.ref b0), some (.int l1), some (.int 0), none, none, none]) (v := 0) dX8_idle_13 (by decide) ?_
    refine r_istore_n (pc := 14) dX8_idle_14 (by decide) ?_
    exact r_le (L' := [some (.ref b0), some (.int l1), some (.int 0), some (.int 0), none, none]) ⟨rfl, ⟨rfl, ⟨rfl, ⟨rfl, trivial⟩⟩⟩⟩ K0
  · have q := (b2i_z _).mp q
    have K0 := K0.2 q
    refine r_bipush (pc := 8) (v := (-2)) dX8_idle_8 (by decide) ?_
    exact s_iret rfl dX8_idle_10 K0
set_option maxHeartbeats 2000000 in
theorem v_X8_idle_15 {K : Sh} {x : Cn} {Q : Int32 → Cn → Prop} {b0 : Nat} {l1 : Int32} {l2 : Int32} {l3 : Int32} {b0_1 : Nat} {n_b0_1 : Nat} (k_b0 : kk K b0 = some (8, 0)) (g_b0_1 : gr x b0 1 = some b0_1) (k_b0_1 : kk K b0_1 = some (20, n_b0_1)) (K0 : (24 ≤ l3 → (Q l2 x)) ∧ (¬ 24 ≤ l3 → (vp_in 4 n_b0_1 ∧ (GI mX8_idle 32 [some (.ref b0), some (.int l1), some (.int l2), some (.int l3), some (.int 1), some (.int (gi x b0_1 4))] [] K x Q)))) : GI mX8_idle 15 [some (.ref b0), some (.int l1), some (.int l2), some (.int l3), none, none] [] K x Q := by
  show mGM mX8_idle 15 [some (.ref b0), some (.int l1), some (.int l2), some (.int l3), none, none] [] (hp K x) (PI K Q)
  refine r_iload_n (pc := 15) dX8_idle_15 rfl ?_
  refine r_bipush (pc := 16) (v := 24) dX8_idle_16 (by decide) ?_
  refine r_icmp_ge (pc := 18) (tgt := 95) dX8_idle_18 (by decide) (fun q => ?_) (fun q => ?_)
  · have K0 := K0.1 q
    refine r_iload_n (pc := 95) dX8_idle_95 rfl ?_
    exact s_iret rfl dX8_idle_96 K0
  · have K0 := K0.2 q
    refine r_iconst (pc := 21) (v := 1) dX8_idle_21 (by decide) ?_
    refine r_istore (pc := 22) dX8_idle_22 (by decide) ?_
    refine r_aload_n (pc := 24) (L := [some (.ref b0), some (.int l1), some (.int l2), some (.int l3), some (.int 1), none]) dX8_idle_24 rfl ?_
    refine s_getR (pc := 25) dX8_idle_25 fl_X8_9 rfl k_b0 g_b0_1 ?_
    refine r_iconst (pc := 28) (v := 4) dX8_idle_28 (by decide) ?_
    obtain ⟨i_2, K0⟩ := K0
    refine s_iald (pc := 29) dX8_idle_29 k_b0_1 i_2 ?_
    refine r_istore (pc := 30) dX8_idle_30 (by decide) ?_
    exact r_le (L' := [some (.ref b0), some (.int l1), some (.int l2), some (.int l3), some (.int 1), some (.int (gi x b0_1 4))]) ⟨rfl, ⟨rfl, ⟨rfl, ⟨rfl, ⟨rfl, ⟨rfl, trivial⟩⟩⟩⟩⟩⟩ K0
set_option maxHeartbeats 2000000 in
theorem v_X8_idle_32 {K : Sh} {x : Cn} {Q : Int32 → Cn → Prop} {b0 : Nat} {l1 : Int32} {l2 : Int32} {l3 : Int32} {l4 : Int32} {l5 : Int32} {b0_1 : Nat} {n_b0_1 : Nat} (k_b0 : kk K b0 = some (8, 0)) (g_b0_1 : gr x b0 1 = some b0_1) (k_b0_1 : kk K b0_1 = some (20, n_b0_1)) (K0 : vp_in 0 n_b0_1 ∧ (((gi x b0_1 0) ≤ l5 → ((l4 = 0 → (GI mX8_idle 15 [some (.ref b0), some (.int l1), some (.int (l2 ||| 0)), some (.int (l3 + 1)), none, none] [] K x Q)) ∧ (¬ l4 = 0 → (GI mX8_idle 15 [some (.ref b0), some (.int l1), some (.int (l2 ||| (1 <<< (l3 &&& 31)))), some (.int (l3 + 1)), none, none] [] K x Q)))) ∧ (¬ (gi x b0_1 0) ≤ l5 → ((l4 = 0 → ((l4 = 0 → (GI mX8_idle 15 [some (.ref b0), some (.int l1), some (.int (l2 ||| 0)), some (.int (l3 + 1)), none, none] [] K x Q)) ∧ (¬ l4 = 0 → (GI mX8_idle 15 [some (.ref b0), some (.int l1), some (.int (l2 ||| (1 <<< (l3 &&& 31)))), some (.int (l3 + 1)), none, none] [] K x Q)))) ∧ (¬ l4 = 0 → (mSI mX8_loadBut [.ref b0, .int l5, .int l1, .int l3, .int 0, .int (-1)] K x (fun r_7 y_6 => (¬ r_7 = 0 → (GI mX8_idle 32 [some (.ref b0), some (.int l1), some (.int l2), some (.int l3), some (.int 0), some (.int (l5 + 1))] [] K y_6 Q)) ∧ (r_7 = 0 → (GI mX8_idle 32 [some (.ref b0), some (.int l1), some (.int l2), some (.int l3), some (.int 1), some (.int (l5 + 1))] [] K y_6 Q))))))))) : GI mX8_idle 32 [some (.ref b0), some (.int l1), some (.int l2), some (.int l3), some (.int l4), some (.int l5)] [] K x Q := by
  show mGM mX8_idle 32 [some (.ref b0), some (.int l1), some (.int l2), some (.int l3), some (.int l4), some (.int l5)] [] (hp K x) (PI K Q)
  refine r_iload (pc := 32) dX8_idle_32 rfl ?_
  refine r_aload_n (pc := 34) dX8_idle_34 rfl ?_
  refine s_getR (pc := 35) dX8_idle_35 fl_X8_9 rfl k_b0 g_b0_1 ?_
  refine r_iconst (pc := 38) (v := 0) dX8_idle_38 (by decide) ?_
  obtain ⟨i_1, K0⟩ := K0
  refine s_iald (pc := 39) dX8_idle_39 k_b0_1 i_1 ?_
  refine r_icmp_ge (pc := 40) (tgt := 74) dX8_idle_40 (by decide) (fun q => ?_) (fun q => ?_)
  · have K0 := K0.1 q
    refine r_iload_n (pc := 74) dX8_idle_74 rfl ?_
    refine r_iload (pc := 75) dX8_idle_75 rfl ?_
    refine r_if_eq (pc := 77) (tgt := 86) dX8_idle_77 (by decide) (fun q => ?_) (fun q => ?_)
    · have K0 := K0.1 q
      refine r_iconst (pc := 86) (v := 0) dX8_idle_86 (by decide) ?_
      refine r_ior (pc := 87) dX8_idle_87 ?_
      refine r_istore_n (pc := 88) dX8_idle_88 (by decide) ?_
      refine r_iinc (pc := 89) (L := [some (.ref b0), some (.int l1), some (.int (l2 ||| 0)), some (.int l3), some (.int l4), some (.int l5)]) (v := l3 + 1) dX8_idle_89 rfl rfl (by decide) ?_
      refine r_goto (pc := 92) (L := [some (.ref b0), some (.int l1), some (.int (l2 ||| 0)), some (.int (l3 + 1)), some (.int l4), some (.int l5)]) (tgt := 15) dX8_idle_92 (by decide) ?_
      exact r_le (L' := [some (.ref b0), some (.int l1), some (.int (l2 ||| 0)), some (.int (l3 + 1)), none, none]) ⟨rfl, ⟨rfl, ⟨rfl, ⟨rfl, trivial⟩⟩⟩⟩ K0
    · have K0 := K0.2 q
      refine r_iconst (pc := 80) (v := 1) dX8_idle_80 (by decide) ?_
      refine r_iload_n (pc := 81) dX8_idle_81 rfl ?_
      refine r_ishl (pc := 82) dX8_idle_82 ?_
      refine r_goto (pc := 83) (tgt := 87) dX8_idle_83 (by decide) ?_
      refine r_ior (pc := 87) dX8_idle_87 ?_
      refine r_istore_n (pc := 88) dX8_idle_88 (by decide) ?_
      refine r_iinc (pc := 89) (L := [some (.ref b0), some (.int l1), some (.int (l2 ||| (1 <<< (l3 &&& 31)))), some (.int l3), some (.int l4), some (.int l5)]) (v := l3 + 1) dX8_idle_89 rfl rfl (by decide) ?_
      refine r_goto (pc := 92) (L := [some (.ref b0), some (.int l1), some (.int (l2 ||| (1 <<< (l3 &&& 31)))), some (.int (l3 + 1)), some (.int l4), some (.int l5)]) (tgt := 15) dX8_idle_92 (by decide) ?_
      exact r_le (L' := [some (.ref b0), some (.int l1), some (.int (l2 ||| (1 <<< (l3 &&& 31)))), some (.int (l3 + 1)), none, none]) ⟨rfl, ⟨rfl, ⟨rfl, ⟨rfl, trivial⟩⟩⟩⟩ K0
  · have K0 := K0.2 q
    refine r_iload (pc := 43) dX8_idle_43 rfl ?_
    refine r_if_eq (pc := 45) (tgt := 74) dX8_idle_45 (by decide) (fun q => ?_) (fun q => ?_)
    · have K0 := K0.1 q
      refine r_iload_n (pc := 74) dX8_idle_74 rfl ?_
      refine r_iload (pc := 75) dX8_idle_75 rfl ?_
      refine r_if_eq (pc := 77) (tgt := 86) dX8_idle_77 (by decide) (fun q => ?_) (fun q => ?_)
      · have K0 := K0.1 q
        refine r_iconst (pc := 86) (v := 0) dX8_idle_86 (by decide) ?_
        refine r_ior (pc := 87) dX8_idle_87 ?_
        refine r_istore_n (pc := 88) dX8_idle_88 (by decide) ?_
        refine r_iinc (pc := 89) (L := [some (.ref b0), some (.int l1), some (.int (l2 ||| 0)), some (.int l3), some (.int l4), some (.int l5)]) (v := l3 + 1) dX8_idle_89 rfl rfl (by decide) ?_
        refine r_goto (pc := 92) (L := [some (.ref b0), some (.int l1), some (.int (l2 ||| 0)), some (.int (l3 + 1)), some (.int l4), some (.int l5)]) (tgt := 15) dX8_idle_92 (by decide) ?_
        exact r_le (L' := [some (.ref b0), some (.int l1), some (.int (l2 ||| 0)), some (.int (l3 + 1)), none, none]) ⟨rfl, ⟨rfl, ⟨rfl, ⟨rfl, trivial⟩⟩⟩⟩ K0
      · have K0 := K0.2 q
        refine r_iconst (pc := 80) (v := 1) dX8_idle_80 (by decide) ?_
        refine r_iload_n (pc := 81) dX8_idle_81 rfl ?_
        refine r_ishl (pc := 82) dX8_idle_82 ?_
        refine r_goto (pc := 83) (tgt := 87) dX8_idle_83 (by decide) ?_
        refine r_ior (pc := 87) dX8_idle_87 ?_
        refine r_istore_n (pc := 88) dX8_idle_88 (by decide) ?_
        refine r_iinc (pc := 89) (L := [some (.ref b0), some (.int l1), some (.int (l2 ||| (1 <<< (l3 &&& 31)))), some (.int l3), some (.int l4), some (.int l5)]) (v := l3 + 1) dX8_idle_89 rfl rfl (by decide) ?_
        refine r_goto (pc := 92) (L := [some (.ref b0), some (.int l1), some (.int (l2 ||| (1 <<< (l3 &&& 31)))), some (.int (l3 + 1)), some (.int l4), some (.int l5)]) (tgt := 15) dX8_idle_92 (by decide) ?_
        exact r_le (L' := [some (.ref b0), some (.int l1), some (.int (l2 ||| (1 <<< (l3 &&& 31)))), some (.int (l3 + 1)), none, none]) ⟨rfl, ⟨rfl, ⟨rfl, ⟨rfl, trivial⟩⟩⟩⟩ K0
    · have K0 := K0.2 q
      refine r_aload_n (pc := 48) dX8_idle_48 rfl ?_
      refine r_iload (pc := 49) dX8_idle_49 rfl ?_
      refine r_iload_n (pc := 51) dX8_idle_51 rfl ?_
      refine r_iload_n (pc := 52) dX8_idle_52 rfl ?_
      refine r_iconst (pc := 53) (v := 0) dX8_idle_53 (by decide) ?_
      refine r_iconst (pc := 54) (v := (-1)) dX8_idle_54 (by decide) ?_
      refine s_VI (pc := 55) mX8_loadBut (ci := 8) (a := b0) (As := [.int l5, .int l1, .int l3, .int 0, .int (-1)]) dX8_idle_55 lk_X8_86 in_X8_loadBut mo_X8_loadBut ⟨by decide, rfl⟩ ⟨by decide, by decide⟩ (Nat.le_of_ble_eq_true rfl) k_b0 (mSI_mono K0 (fun r_7 y_6 K0 => ?_))
      refine r_if_ne (pc := 58) (tgt := 65) dX8_idle_58 (by decide) (fun q => ?_) (fun q => ?_)
      · have K0 := K0.1 q
        refine r_iconst (pc := 65) (v := 0) dX8_idle_65 (by decide) ?_
        refine r_istore (pc := 66) dX8_idle_66 (by decide) ?_
        refine r_iinc (pc := 68) (L := [some (.ref b0), some (.int l1), some (.int l2), some (.int l3), some (.int 0), some (.int l5)]) (v := l5 + 1) dX8_idle_68 rfl rfl (by decide) ?_
        refine r_goto (pc := 71) (L := [some (.ref b0), some (.int l1), some (.int l2), some (.int l3), some (.int 0), some (.int (l5 + 1))]) (tgt := 32) dX8_idle_71 (by decide) ?_
        exact r_le (L' := [some (.ref b0), some (.int l1), some (.int l2), some (.int l3), some (.int 0), some (.int (l5 + 1))]) ⟨rfl, ⟨rfl, ⟨rfl, ⟨rfl, ⟨rfl, ⟨rfl, trivial⟩⟩⟩⟩⟩⟩ K0
      · have K0 := K0.2 q
        refine r_iconst (pc := 61) (v := 1) dX8_idle_61 (by decide) ?_
        refine r_goto (pc := 62) (tgt := 66) dX8_idle_62 (by decide) ?_
        refine r_istore (pc := 66) dX8_idle_66 (by decide) ?_
        refine r_iinc (pc := 68) (L := [some (.ref b0), some (.int l1), some (.int l2), some (.int l3), some (.int 1), some (.int l5)]) (v := l5 + 1) dX8_idle_68 rfl rfl (by decide) ?_
        refine r_goto (pc := 71) (L := [some (.ref b0), some (.int l1), some (.int l2), some (.int l3), some (.int 1), some (.int (l5 + 1))]) (tgt := 32) dX8_idle_71 (by decide) ?_
        exact r_le (L' := [some (.ref b0), some (.int l1), some (.int l2), some (.int l3), some (.int 1), some (.int (l5 + 1))]) ⟨rfl, ⟨rfl, ⟨rfl, ⟨rfl, ⟨rfl, ⟨rfl, trivial⟩⟩⟩⟩⟩⟩ K0
theorem eq_full (a : Int32) : Both mX7_full mX8_full [.int a] := by
  intro x R
  obtain ⟨W, C, S, A, N, E, -, -⟩ := R.sea
  have hn := E.nums
  have hS : S ≤ 24 := hn.2.2.2.2.2.2.1
  have hW : W ≤ 30 := hn.2.2.2.2.1
  have hN : N ≤ W := hn.2.2.2.2.2.2.2.2
  let F : TT → Int32 := fun T => if 0 < nI W ∧ 0 ≤ a ∧ a < 7 then nI (sN (fun h => sN (fuI T S W N a h) 32) 24) else -2
  have rf : ∀ y, EQx x y 7 → mSI mX8_full [.ref 717, .int a] KW y (fun r' z => F (gi x 718) = r' ∧ Rel z) := by
    intro y hy
    obtain ⟨R2, eT⟩ := R.e7 hy
    have E2 := E.eqx hy (Or.inl rfl)
    rw [← eT] at E2 ⊢
    have ht := Rel.t2 E2
    refine v_X8_full_0 km R2.2.1.1 km1 ⟨v0 (k := 0) (by decide) rfl rfl, ?_⟩
    rw [ht.1, d7, ht.2.2.2.2]
    refine ⟨fun z => ⟨v0 (k := 4) (by decide) rfl rfl, ?_⟩, fun z => ⟨if_neg z, R2⟩⟩
    have eF : F (gi y 718) = nI (sN (fun h => sN (fuI (gi y 718) S W N a h) 32) 24) := if_pos z
    rw [eF, fuI_sum hW hN]
    refine lp_acc (fun j a' => a' + nI (sN (fun h => fuI (gi y 718) S W N a h (N + j)) 24)) (fun j n => GI mX8_full 20 [some (.ref 717), some (.int a), some (.int n), some (.int (nI (N + j))), none] [] KW y _) (W - N) 0 ?_ (fun j n hj n1 => ?_)
    · refine v_X8_full_20 km R2.2.1.1 km1 ⟨v0 (k := 0) (by decide) rfl rfl, fun _ => ⟨?_, R2⟩, fun z => absurd (by rw [ht.1]; exact nI_le (by omega) (by omega)) z⟩
      rw [sN_acc (f := fun j => sN (fun h => fuI (gi y 718) S W N a h (N + j)) 24)]
    · refine v_X8_full_20 km R2.2.1.1 km1 ⟨v0 (k := 0) (by decide) rfl rfl, fun z => absurd (by rw [ht.1] at z; exact z) (nI_ge (by omega) (by omega)), fun _ => ?_⟩
      have key : ∀ m h, h + m = 24 → GI mX8_full 33 [some (.ref 717), some (.int a), some (.int (n + nI (sN (fun h => fuI (gi y 718) S W N a h (N + j)) h))), some (.int (nI (N + j))), some (.int (nI h))] [] KW y (fun r' z => nI (sN (fun j => sN (fun i => fuI (gi y 718) S W N a i (N + j)) 24) (W - N)) = r' ∧ Rel z) := by
        intro m
        induction m with
        | zero =>
          intro h hh
          have : h = 24 := by omega
          subst this
          refine v_X8_full_33 km ⟨fun _ => ?_, fun z => absurd (Int32.le_refl _) z⟩
          rw [nI_1]
          exact n1 _ rfl
        | succ m ih =>
          intro h hh
          refine v_X8_full_33 km ⟨fun z => absurd z (nI_ge (b := 24) (by omega) (by decide)), fun _ => ?_⟩
          refine sp_X8_loadBut R2.2.1 km1 ht.2.2.1 hS (by omega) ⟨718, R2.2.1.1, 518, km1, ?_⟩
          have nx := ih (h + 1) (by omega)
          simp only [sN] at nx
          rw [ixh, nI_clamp (show 6 + 2 * h < 2 ^ 31 by omega), ldB_nW0 wo_0 S hS, nI_1, Int32.add_zero]
          refine ⟨vp_in_nI (by omega) (by decide), fun w => ?_, fun w => ?_⟩
          · rw [show fuI (gi y 718) S W N a h (N + j) = 0 from if_neg (fun u => Int32.not_le.mpr w u.2.2), Nat.add_zero] at nx
            exact nx
          · rw [show fuI (gi y 718) S W N a h (N + j) = 1 from if_pos ⟨by omega, by omega, Int32.not_lt.mp w⟩, ← nI_1, ← Int32.add_assoc] at nx
            exact nx
      have := key 24 0 (by omega)
      simp only [sN, nI_0, Int32.add_zero] at this
      exact this
  refine v_X7_full_0 k0 R.1.2.1 (ks0 E.1) ?_
  rw [hn.1]
  refine ⟨fun z => ?_, fun z => by have := rf x (EQx.rf _ _); rwa [show F (gi x 718) = -2 from if_neg z] at this⟩
  have eF : F (gi x 718) = nI (sN (fun h => sN (fuI (gi x 718) S W N a h) 32) 24) := if_pos z
  rw [eF, ← sN_acc] at rf
  refine lp_acc (fun h a' => a' + nI (sN (fuI (gi x 718) S W N a h) 32)) (fun h n => ∀ y, EQx x y 7 → GI mX7_full 15 [some (.ref 0), some (.int a), some (.int n), some (.int (nI h)), none] [] KW y _) 24 0 ?_ (fun h n hh n1 => ?_) x (EQx.rf _ _)
  · intro y hy
    have c1 := R.1.keep hy.1
    have E2 := E.eqx hy (Or.inl rfl)
    exact v_X7_full_15 k0 c1.2.1 (ks0 E.1) E2.2.1.1 (ks1 E.1) ⟨fun _ => rf y hy, fun z => absurd (Int32.le_refl _) z⟩
  · intro y hy
    have c1 := R.1.keep hy.1
    have E2 := E.eqx hy (Or.inl rfl)
    refine v_X7_full_15 k0 c1.2.1 (ks0 E.1) E2.2.1.1 (ks1 E.1) ⟨fun z => absurd z (nI_ge (b := 24) hh (by decide)), fun _ => ⟨vp_in_nI hh (by decide), ?_⟩⟩
    rw [nI_clamp (show h < 2 ^ 31 by omega), (E2.2.2.1.2.2.2.2.2.1 h hh).1, nI_1]
    refine sp_X4_weeksLoaded E2 (fun r z hz hr => ⟨(c1.keep hz.1).2.1, ?_⟩)
    have hn3 := (E2.eqx hz (Or.inl rfl)).nums
    rw [hn3.1, hn3.2.1]
    refine n1 _ ?_ z (hy.tr hz)
    show n + nI (sN (fuI (gi x 718) S W N a h) 32) = _
    rw [cpt_sN]
    congr 2
    apply sN_cg
    intro i hi
    unfold fuI
    rw [tb_and, tb_wtc hW hN hi]
    by_cases c : N ≤ i ∧ i < W
    · rw [decide_eq_true c, Bool.and_true]
      by_cases c2 : tb r i = true
      · rw [if_pos ⟨c.1, c.2, (hr i hi).mp c2⟩, if_pos c2]
      · rw [if_neg (fun u => c2 ((hr i hi).mpr u.2.2)), if_neg c2]
    · rw [decide_eq_false c, Bool.and_false, if_neg (by omega), if_neg (by decide)]
theorem eq_idle (a : Int32) : Both mX7_idle mX8_idle [.int a] := by
  intro x R
  obtain ⟨W, C, S, A, N, E, -, -⟩ := R.sea
  have hn := E.nums
  have hS : S ≤ 24 := hn.2.2.2.2.2.2.1
  have hW : W ≤ 30 := hn.2.2.2.2.1
  have hN : N ≤ W := hn.2.2.2.2.2.2.2.2
  have nWl : ∀ (T : TT) i (d h : Int32), nW T S i d h 0 0 ≤ 24 := fun T i d h => Nat.le_trans (cnt_le _ _) hS
  let g : TT → Nat → Int32 → Int32 := fun T => orP (fun h => bP (idl T S W N a h))
  have rf : ∀ y, EQx x y 7 → mSI mX8_idle [.ref 717, .int a] KW y (fun r' z => (if 0 < nI W ∧ 0 ≤ a ∧ a < 7 then accT (g (gi x 718)) 24 0 else -2) = r' ∧ Rel z) := by
    intro y hy
    obtain ⟨R2, eT⟩ := R.e7 hy
    have E2 := E.eqx hy (Or.inl rfl)
    rw [← eT] at E2 ⊢
    have ht := Rel.t2 E2
    refine v_X8_idle_0 km R2.2.1.1 km1 ⟨v0 (k := 0) (by decide) rfl rfl, ?_⟩
    rw [ht.1, d7]
    refine ⟨fun z => ?_, fun z => ⟨if_neg z, R2⟩⟩
    rw [if_pos z]
    refine lp_acc (g (gi y 718)) (fun h n => GI mX8_idle 15 [some (.ref 717), some (.int a), some (.int n), some (.int (nI h)), none, none] [] KW y _) 24 0 ?_ (fun h n hh n1 => ?_)
    · exact v_X8_idle_15 km R2.2.1.1 km1 ⟨fun _ => ⟨rfl, R2⟩, fun z => absurd (Int32.le_refl _) z⟩
    · refine v_X8_idle_15 km R2.2.1.1 km1 ⟨fun z => absurd z (nI_ge (b := 24) hh (by decide)), fun _ => ⟨v0 (k := 4) (by decide) rfl rfl, ?_⟩⟩
      rw [ht.2.2.2.2]
      have fin : ∀ v : Int32, v = bP (idl (gi y 718) S W N a h) → ((v = 0 → GI mX8_idle 15 [some (.ref 717), some (.int a), some (.int (n ||| 0)), some (.int (nI h + 1)), none, none] [] KW y (fun r' z => accT (g (gi y 718)) 24 0 = r' ∧ Rel z)) ∧ (¬ v = 0 → GI mX8_idle 15 [some (.ref 717), some (.int a), some (.int (n ||| (1 <<< (nI h &&& 31)))), some (.int (nI h + 1)), none, none] [] KW y (fun r' z => accT (g (gi y 718)) 24 0 = r' ∧ Rel z))) := by
        intro v hv
        rw [nI_1, Int32.or_zero, hv]
        exact ⟨fun w => n1 _ (if_pos w), fun w => n1 _ (if_neg w)⟩
      have st0 : ∀ w, N ≤ w → w ≤ W → ¬ idl (gi y 718) S W N a h → GI mX8_idle 32 [some (.ref 717), some (.int a), some (.int n), some (.int (nI h)), some (.int 0), some (.int (nI w))] [] KW y (fun r' z => accT (g (gi y 718)) 24 0 = r' ∧ Rel z) := by
        intro w h1 h2 u
        have f0 := fin 0 (bP_f u).symm
        exact v_X8_idle_32 km R2.2.1.1 km1 ⟨v0 (k := 0) (by decide) rfl rfl, fun _ => f0, fun _ => ⟨fun _ => f0, fun z => absurd rfl z⟩⟩
      have key : ∀ m w, w + m = W → N ≤ w → (∀ i, N ≤ i → i < w → nW (gi y 718) S i a (nI h) 0 0 = 0) → GI mX8_idle 32 [some (.ref 717), some (.int a), some (.int n), some (.int (nI h)), some (.int 1), some (.int (nI w))] [] KW y (fun r' z => accT (g (gi y 718)) 24 0 = r' ∧ Rel z) := by
        intro m
        induction m with
        | zero =>
          intro w h1 h2 u
          have : w = W := by omega
          subst this
          exact v_X8_idle_32 km R2.2.1.1 km1 ⟨v0 (k := 0) (by decide) rfl rfl, fun _ => fin 1 (bP_t u).symm, fun z => absurd (by rw [ht.1]; exact Int32.le_refl _) z⟩
        | succ m ih =>
          intro w h1 h2 u
          refine v_X8_idle_32 km R2.2.1.1 km1 ⟨v0 (k := 0) (by decide) rfl rfl, fun z => absurd (by rw [ht.1] at z; exact z) (nI_ge (by omega) (by omega)), fun _ => ⟨fun z => absurd z (by decide), fun _ => ?_⟩⟩
          refine sp_X8_loadBut R2.2.1 km1 ht.2.2.1 hS (by omega) ?_
          have := nWl (gi y 718) w a (nI h)
          rw [ldB_nW0 wo_0 S hS, nI_1, nI_z (by omega)]
          refine ⟨fun z => st0 (w + 1) (by omega) (by omega) (fun g => z (g w h2 (by omega))), fun z => ih (w + 1) (by omega) (by omega) (fun i g1 g2 => ?_)⟩
          by_cases c : i = w
          · rw [c]; exact z
          · exact u i g1 (by omega)
      exact key (W - N) N (by omega) (Nat.le_refl _) (fun i g1 g2 => absurd g1 (by omega))
  refine v_X7_idle_0 k0 R.1.2.1 (ks0 E.1) ?_
  rw [hn.1]
  refine ⟨fun z => ?_, fun z => by have := rf x (EQx.rf _ _); rwa [if_neg z] at this⟩
  rw [if_pos z] at rf
  refine lp_acc (g (gi x 718)) (fun h n => ∀ y, EQx x y 7 → GI mX7_idle 15 [some (.ref 0), some (.int a), some (.int n), some (.int (nI h)), none] [] KW y _) 24 0 ?_ (fun h n hh n1 => ?_) x (EQx.rf _ _)
  · intro y hy
    exact v_X7_idle_15 k0 (R.1.keep hy.1).2.1 (ks0 E.1) ⟨fun _ => rf y hy, fun z => absurd (Int32.le_refl _) z⟩
  · intro y hy
    have c1 := R.1.keep hy.1
    have E2 := E.eqx hy (Or.inl rfl)
    refine v_X7_idle_15 k0 c1.2.1 (ks0 E.1) ⟨fun z => absurd z (nI_ge (b := 24) hh (by decide)), fun _ => ?_⟩
    refine sp_X4_weeksLoaded E2 (fun r z hz hr => ⟨(c1.keep hz.1).2.1, ?_⟩)
    have hn3 := (E2.eqx hz (Or.inl rfl)).nums
    rw [hn3.1, hn3.2.1, nI_1]
    have hz2 := hy.tr hz
    have iff : (r &&& f_wtc (nI N) (nI W)) = 0 ↔ idl (gi x 718) S W N a h := by
      constructor
      · intro u i h1 h2
        have v := congrArg (fun v => tb v i) u
        simp only [tb_0, tb_and, tb_wtc hW hN (show i < 32 by omega), decide_eq_true (show N ≤ i ∧ i < W from ⟨h1, h2⟩), Bool.and_true] at v
        have h3 := (hr i (by omega))
        rw [v, show (1 : Int32) = nI 1 by decide, nI_leI (by decide) (by have := nWl (gi x 718) i a (nI h); omega)] at h3
        have h4 : ¬ 1 ≤ nW (gi x 718) S i a (nI h) 0 0 := fun e => absurd (h3.mpr e) (by decide)
        omega
      · intro u
        apply tb_ext
        intro i hi
        rw [tb_0, tb_and, tb_wtc hW hN hi]
        by_cases c : N ≤ i ∧ i < W
        · have h3 := hr i hi
          rw [u i c.1 c.2] at h3
          have h4 : ¬ tb r i = true := fun e => absurd (h3.mp e) (by decide)
          rw [Bool.eq_false_iff.mpr h4, Bool.false_and]
        · rw [decide_eq_false c, Bool.and_false]
    rw [iff]
    exact ⟨fun w => n1 _ (if_pos (bP_f w)) z hz2, fun w => n1 _ (if_neg (fun u => absurd w (bP_z.mp u))) z hz2⟩
end
/-! 43.peak.lean.txt -/
section
theorem cnt_pos {f : Nat → Bool} : ∀ n, 0 < cnt f n → ∃ i, i < n ∧ f i = true := by
  intro n
  induction n with
  | zero => intro h; exact absurd h (by simp [cnt])
  | succ n ih =>
    intro h
    simp only [cnt] at h
    by_cases c : f n = true
    · exact ⟨n, by omega, c⟩
    · rw [if_neg c, Nat.add_zero] at h
      obtain ⟨i, hi, e⟩ := ih h
      exact ⟨i, by omega, e⟩
theorem cnt_pos' {f : Nat → Bool} {i : Nat} (hf : f i = true) : ∀ n, i < n → 0 < cnt f n := by
  intro n
  induction n with
  | zero => intro h; exact absurd h (by omega)
  | succ n ih =>
    intro h
    simp only [cnt]
    by_cases c : i = n
    · rw [← c, if_pos hf]; omega
    · have := ih (by omega)
      omega
def Lw (T : TT) (S w d h : Nat) : Nat := nW T S w (nI d) (nI h) 0 0
def inR (N W w d h : Nat) : Prop := N ≤ w ∧ w < W ∧ d < 7 ∧ h < 24
def ky (w d h : Nat) : Nat := 1000 * w + 100 * d + h
/-- the greatest so far, of the keys below K, and the first place that has it -/
def PKv (T : TT) (S W N K g p : Nat) : Prop := (∃ w d h, inR N W w d h ∧ ky w d h < K ∧ Lw T S w d h = g ∧ p = ky w d h) ∧ ∀ w d h, inR N W w d h → ky w d h < K → Lw T S w d h < g ∨ (Lw T S w d h = g ∧ p ≤ ky w d h)
theorem PKv.uq {T : TT} {S W N g p g' p' : Nat} (a : PKv T S W N 100000 g p) (b : PKv T S W N 100000 g' p') : g = g' ∧ p = p' := by
  obtain ⟨⟨w, d, h, h1, h2, h3, h4⟩, h5⟩ := a
  obtain ⟨⟨w', d', h', i1, i2, i3, i4⟩, i5⟩ := b
  have j1 := i5 w d h h1 h2
  have j2 := h5 w' d' h' i1 i2
  omega
def sdy (T : TT) (s : Nat) : Nat := (so T s 1).toNatClampNeg
def shr (T : TT) (s : Nat) : Nat := (so T s 2).toNatClampNeg
/-- the landed one's way: held weeks of series ahead of (vw, vs) are seen -/
def CI (T : TT) (S W N vw vs g p : Nat) : Prop := ((g = 0 ∧ p = 1000 * N) ∨ (0 < g ∧ ∃ w d h, inR N W w d h ∧ Lw T S w d h = g ∧ p = ky w d h)) ∧ ∀ w s, N ≤ w → w < W → s < S → tb (bas T s) w = true → (w < vw ∨ (w = vw ∧ s < vs)) → Lw T S w (sdy T s) (shr T s) < g ∨ (Lw T S w (sdy T s) (shr T s) = g ∧ p ≤ ky w (sdy T s) (shr T s))
theorem Wse.dh {T : TT} {C W s : Nat} (w : Wse T C W s) : sdy T s < 7 ∧ so T s 1 = nI (sdy T s) ∧ shr T s < 24 ∧ so T s 2 = nI (shr T s) := by
  obtain ⟨-, ⟨d, d1, d2⟩, ⟨h, h1, h2⟩, -⟩ := w
  unfold sdy shr
  rw [d2, h2, nI_clamp (by omega), nI_clamp (by omega)]
  exact ⟨d1, rfl, h1, rfl⟩
theorem CI.fin {T : TT} {S W N C g p : Nat} (hW : W ≤ 30) (hN : N < W) (ws : ∀ s, s < S → Wse T C W s) (c : CI T S W N W 0 g p) : PKv T S W N 100000 g p := by
  obtain ⟨c1, c2⟩ := c
  have pl : ∀ w d h, inR N W w d h → ky w d h < 100000 := fun w d h z => by unfold inR at z; unfold ky; omega
  have all : ∀ w d h, inR N W w d h → Lw T S w d h < g ∨ (Lw T S w d h = g ∧ p ≤ ky w d h) := by
    intro w d h hr
    by_cases z : 0 < Lw T S w d h
    · unfold Lw nW at z
      obtain ⟨s, hs, e⟩ := cnt_pos S z
      unfold cW at e
      simp only [Bool.and_eq_true, decide_eq_true_eq] at e
      obtain ⟨k1, k2, k3, k4⟩ := (ws s hs).dh
      have h1 : sdy T s = d := (nI_eq (by omega) (by unfold inR at hr; omega)).mp (k2.symm.trans e.1.1)
      have h2 : shr T s = h := (nI_eq (by omega) (by unfold inR at hr; omega)).mp (k4.symm.trans e.1.2.1)
      have := c2 w s hr.1 hr.2.1 hs e.2 (Or.inl hr.2.1)
      rwa [h1, h2] at this
    · rcases c1 with ⟨g0, p0⟩ | ⟨g1, -⟩
      · exact Or.inr ⟨by omega, by rw [p0]; unfold inR at hr; unfold ky; omega⟩
      · exact Or.inl (by omega)
  refine ⟨?_, fun w d h hr _ => all w d h hr⟩
  rcases c1 with ⟨g0, p0⟩ | ⟨-, w, d, h, h1, h2, h3⟩
  · have hr : inR N W N 0 0 := ⟨Nat.le_refl _, hN, by omega, by omega⟩
    refine ⟨N, 0, 0, hr, pl _ _ _ hr, ?_, by rw [p0]; unfold ky; omega⟩
    have := all N 0 0 hr
    omega
  · exact ⟨w, d, h, h1, pl _ _ _ h1, h2, h3⟩
theorem CI.nx {T : TT} {S W N w g p : Nat} (c : CI T S W N w S g p) : CI T S W N (w + 1) 0 g p := ⟨c.1, fun v s h1 h2 h3 h4 h5 => c.2 v s h1 h2 h3 h4 (by omega)⟩
theorem CI.no {T : TT} {S W N w s g p : Nat} (c : CI T S W N w s g p) (h : ¬ tb (bas T s) w = true) : CI T S W N w (s + 1) g p := ⟨c.1, fun v u h1 h2 h3 h4 h5 => by
  by_cases z : v = w ∧ u = s
  · rw [z.1, z.2] at h4
    exact absurd h4 h
  · exact c.2 v u h1 h2 h3 h4 (by omega)⟩
theorem CI.up {T : TT} {S W N C w s g p g' p' : Nat} (c : CI T S W N w s g p) (ws : Wse T C W s) (h1 : N ≤ w) (h2 : w < W) (hs : s < S) (hb : tb (bas T s) w = true) (k : (g < Lw T S w (sdy T s) (shr T s) ∧ g' = Lw T S w (sdy T s) (shr T s) ∧ p' = ky w (sdy T s) (shr T s)) ∨ (Lw T S w (sdy T s) (shr T s) = g ∧ ky w (sdy T s) (shr T s) < p ∧ g' = g ∧ p' = ky w (sdy T s) (shr T s)) ∨ ((Lw T S w (sdy T s) (shr T s) < g ∨ (Lw T S w (sdy T s) (shr T s) = g ∧ p ≤ ky w (sdy T s) (shr T s))) ∧ g' = g ∧ p' = p)) : CI T S W N w (s + 1) g' p' := by
  obtain ⟨k1, k2, k3, k4⟩ := ws.dh
  have hpos : 0 < Lw T S w (sdy T s) (shr T s) := by
    unfold Lw nW
    refine cnt_pos' (i := s) ?_ S hs
    unfold cW
    rw [hb, Bool.and_true, decide_eq_true_eq]
    exact ⟨k2, k4, by rw [tb_0]; decide, Or.inr rfl⟩
  have hr : inR N W w (sdy T s) (shr T s) := ⟨h1, h2, k1, k3⟩
  refine ⟨?_, fun v u i1 i2 i3 i4 i5 => ?_⟩
  · rcases k with ⟨a1, a2, a3⟩ | ⟨a1, a2, a3, a4⟩ | ⟨a1, a2, a3⟩
    · exact Or.inr ⟨by omega, w, _, _, hr, a2.symm, a3⟩
    · exact Or.inr ⟨by omega, w, _, _, hr, by omega, a4⟩
    · rw [a2, a3]; exact c.1
  · by_cases z : v = w ∧ u = s
    · rw [z.1, z.2]
      omega
    · have := c.2 v u i1 i2 i3 i4 (by omega)
      omega
theorem PKv.up {T : TT} {S W N w d h : Nat} (hr : inR N W w d h) {g p g' p' : Nat} (c : PKv T S W N (ky w d h) g p) (k : (g < Lw T S w d h ∧ g' = Lw T S w d h ∧ p' = ky w d h) ∨ (Lw T S w d h ≤ g ∧ g' = g ∧ p' = p)) : PKv T S W N (ky w d (h + 1)) g' p' := by
  obtain ⟨⟨w1, d1, e1, i1, i2, i3, i4⟩, c2⟩ := c
  refine ⟨?_, fun w2 d2 e2 j1 j2 => ?_⟩
  · rcases k with ⟨a1, a2, a3⟩ | ⟨a1, a2, a3⟩
    · exact ⟨w, d, h, hr, by unfold ky; omega, a2.symm, a3⟩
    · exact ⟨w1, d1, e1, i1, by unfold ky at i2 ⊢; omega, by omega, by omega⟩
  · by_cases z : w2 = w ∧ d2 = d ∧ e2 = h
    · rw [z.1, z.2.1, z.2.2]
      have : p < ky w d h := by omega
      omega
    · have h3 : ky w2 d2 e2 < ky w d h := by
        unfold inR at hr j1
        unfold ky at j2 ⊢
        omega
      have := c2 w2 d2 e2 j1 h3
      omega
theorem PKv.st {T : TT} {S W N : Nat} (h0 : N < W) : PKv T S W N (ky N 0 1) (Lw T S N 0 0) (ky N 0 0) := by
  refine ⟨⟨N, 0, 0, ⟨Nat.le_refl _, h0, by omega, by omega⟩, by unfold ky; omega, rfl, rfl⟩, fun w d h hr hk => ?_⟩
  have : w = N ∧ d = 0 ∧ h = 0 := by
    unfold inR at hr
    unfold ky at hk
    omega
  rw [this.1, this.2.1, this.2.2]
  exact Or.inr ⟨rfl, Nat.le_refl _⟩
theorem PKv.cg {T : TT} {S W N K K' g p : Nat} (c : PKv T S W N K g p) (h : ∀ w d h, inR N W w d h → (ky w d h < K ↔ ky w d h < K')) : PKv T S W N K' g p := by
  obtain ⟨⟨w1, d1, e1, i1, i2, i3, i4⟩, c2⟩ := c
  exact ⟨⟨w1, d1, e1, i1, (h _ _ _ i1).mp i2, i3, i4⟩, fun w d e j1 j2 => c2 w d e j1 ((h _ _ _ j1).mpr j2)⟩
/-- the reference's way, at key K -/
def RI (T : TT) (S W N K : Nat) (m v : Int32) : Prop := (K = ky N 0 0 ∧ m = -1 ∧ v = -1) ∨ ∃ g p, m = nI g ∧ v = nI p ∧ PKv T S W N K g p
theorem RI.cg {T : TT} {S W N K K' : Nat} {m v : Int32} (c : RI T S W N K m v) (hk : ky N 0 0 < K) (h : ∀ w d h, inR N W w d h → (ky w d h < K ↔ ky w d h < K')) : RI T S W N K' m v := by
  rcases c with ⟨c1, -, -⟩ | ⟨g, p, c1, c2, c3⟩
  · omega
  · exact Or.inr ⟨g, p, c1, c2, c3.cg h⟩
theorem Lw_le {T : TT} {S w d h : Nat} (hS : S ≤ 24) : Lw T S w d h ≤ 24 := Nat.le_trans (cnt_le _ _) hS
theorem RI.up {T : TT} {S W N w d h : Nat} (hS : S ≤ 24) (hr : inR N W w d h) {m v : Int32} (c : RI T S W N (ky w d h) m v) : (m < nI (Lw T S w d h) → RI T S W N (ky w d (h + 1)) (nI (Lw T S w d h)) (nI (ky w d h))) ∧ (¬ m < nI (Lw T S w d h) → RI T S W N (ky w d (h + 1)) m v) := by
  have hl := Lw_le (T := T) (w := w) (d := d) (h := h) hS
  rcases c with ⟨c1, c2, c3⟩ | ⟨g, p, c1, c2, c3⟩
  · have e : w = N ∧ d = 0 ∧ h = 0 := by
      unfold inR at hr
      unfold ky at c1
      omega
    obtain ⟨rfl, rfl, rfl⟩ := e
    refine ⟨fun _ => Or.inr ⟨_, _, rfl, rfl, PKv.st hr.2.1⟩, fun z => absurd ?_ z⟩
    rw [c2]
    have : (0 : Int32) ≤ nI (Lw T S w 0 0) := nI_pos' (by omega)
    exact Int32.lt_of_lt_of_le (by decide) this
  · have hg : g ≤ 24 := by
      obtain ⟨⟨w1, d1, e1, i1, i2, i3, i4⟩, -⟩ := c3
      rw [← i3]
      exact Lw_le hS
    rw [c1, nI_ltI (by omega) (by omega)]
    exact ⟨fun z => Or.inr ⟨_, _, rfl, rfl, c3.up hr (Or.inl ⟨z, rfl, rfl⟩)⟩, fun z => Or.inr ⟨g, p, rfl, c2, c3.up hr (Or.inr ⟨by omega, rfl, rfl⟩)⟩⟩
theorem i_ky (w d h : Nat) : (((1000 : Int32) * nI w) + (100 * nI d)) + nI h = nI (ky w d h) := by
  unfold ky
  rw [show (1000 : Int32) = nI 1000 by decide, show (100 : Int32) = nI 100 by decide, pk_mul, pk_mul, nI_add, nI_add]
/-- what peak answers -/
def Pr (T : TT) (S W N : Nat) (a r : Int32) : Prop := (¬ (0 < nI W ∧ 0 ≤ a ∧ a ≤ 1) → r = -2) ∧ ((0 < nI W ∧ 0 ≤ a ∧ a ≤ 1) → W ≤ N → r = -1) ∧ ((0 < nI W ∧ 0 ≤ a ∧ a ≤ 1) → N < W → ∃ g p, PKv T S W N 100000 g p ∧ r = if a = 0 then nI g else nI p)
theorem Pr.uq {T : TT} {S W N : Nat} {a r r' : Int32} (h : Pr T S W N a r) (k : Pr T S W N a r') : r = r' := by
  by_cases z : 0 < nI W ∧ 0 ≤ a ∧ a ≤ 1
  · by_cases c : W ≤ N
    · rw [h.2.1 z c, k.2.1 z c]
    · obtain ⟨g, p, h1, h2⟩ := h.2.2 z (by omega)
      obtain ⟨g', p', k1, k2⟩ := k.2.2 z (by omega)
      obtain ⟨e1, e2⟩ := h1.uq k1
      rw [h2, k2, e1, e2]
  · rw [h.1 z, k.1 z]
set_option maxHeartbeats 2000000 in
theorem v_X7_peak_0 {K : Sh} {x : Cn} {Q : Int32 → Cn → Prop} {b0 : Nat} {l1 : Int32} {b0_2 : Nat} (k_b0 : kk K b0 = some (7, 0)) (g_b0_2 : gr x b0 2 = some b0_2) (k_b0_2 : kk K b0_2 = some (4, 0)) (K0 : (¬ (0 < gi x b0_2 0) → (Q (-2) x)) ∧ ((0 < gi x b0_2 0) → (((0 ≤ l1 ∧ l1 ≤ 1) → ((¬ (gi x b0_2 0 ≤ gi x b0_2 1) → (GI mX7_peak 54 [some (.ref b0), some (.int l1), some (.int 0), some (.int (1000 * (gi x b0_2 1))), some (.int (gi x b0_2 1)), none, none, none, none] [] K x Q)) ∧ ((gi x b0_2 0 ≤ gi x b0_2 1) → (Q (-1) x)))) ∧ (¬ (0 ≤ l1 ∧ l1 ≤ 1) → (Q (-2) x))))) : mSI mX7_peak [.ref b0, .int l1] K x Q := by
  refine s_I (by decide) (by simp [Value.category]) (Nat.le_of_ble_eq_true rfl) ?_
  show mGM mX7_peak 0 [some (.ref b0), some (.int l1), none, none, none, none, none, none, none] [] (hp K x) (PI K Q)
  refine r_aload_n (pc := 0) dX7_peak_0 rfl ?_
  refine s_VI (pc := 1) mX7_hasText (ci := 7) (a := b0) (As := []) dX7_peak_1 lk_X7_121 in_X7_hasText mo_X7_hasText ⟨by decide, rfl⟩ ⟨by decide, by decide⟩ (Nat.le_of_ble_eq_true rfl) k_b0 (sp_X7_hasText k_b0 g_b0_2 k_b0_2 ?_)
  refine r_if_eq (pc := 4) (tgt := 16) dX7_peak_4 (by decide) (fun q => ?_) (fun q => ?_)
  · have q := (b2i_z _).mp q
    have K0 := K0.1 q
    refine r_bipush (pc := 16) (v := (-2)) dX7_peak_16 (by decide) ?_
    exact s_iret rfl dX7_peak_18 K0
  · have q := b2i_nz q
    have K0 := K0.2 q
    refine r_iload_n (pc := 7) dX7_peak_7 rfl ?_
    refine r_iconst (pc := 8) (v := 0) dX7_peak_8 (by decide) ?_
    refine r_iconst (pc := 9) (v := 1) dX7_peak_9 (by decide) ?_
    refine s_SI (pc := 10) mX7_isWithin (As := [.int l1, .int 0, .int 1]) dX7_peak_10 lk_X7_113 st_X7_isWithin mo_X7_isWithin ⟨by decide, by decide⟩ (Nat.le_of_ble_eq_true rfl) (sp_X7_isWithin  ?_)
    refine r_if_ne (pc := 13) (tgt := 19) dX7_peak_13 (by decide) (fun q => ?_) (fun q => ?_)
    · have q := b2i_nz q
      have K0 := K0.1 q
      refine r_aload_n (pc := 19) dX7_peak_19 rfl ?_
      refine s_getR (pc := 20) dX7_peak_20 fl_X7_20 rfl k_b0 g_b0_2 ?_
      refine s_VI (pc := 23) mX4_isOver (ci := 4) (a := b0_2) (As := []) dX7_peak_23 lk_X7_279 in_X4_isOver mo_X4_isOver ⟨by decide, rfl⟩ ⟨by decide, by decide⟩ (Nat.le_of_ble_eq_true rfl) k_b0_2 (sp_X4_isOver k_b0_2 ?_)
      refine r_if_eq (pc := 26) (tgt := 31) dX7_peak_26 (by decide) (fun q => ?_) (fun q => ?_)
      · have q := (b2i_z _).mp q
        have K0 := K0.1 q
        refine r_iconst (pc := 31) (v := 0) dX7_peak_31 (by decide) ?_
        refine r_istore_n (pc := 32) dX7_peak_32 (by decide) ?_
        refine r_sipush (pc := 33) (L := [some (.ref b0), some (.int l1), some (.int 0), none, none, none, none, none, none]) (v := 1000) dX7_peak_33 (by decide) ?_
        refine r_aload_n (pc := 36) dX7_peak_36 rfl ?_
        refine s_getR (pc := 37) dX7_peak_37 fl_X7_20 rfl k_b0 g_b0_2 ?_
        refine s_getI (pc := 40) dX7_peak_40 fl_X7_103 rfl k_b0_2 ?_
        refine r_imul (pc := 43) dX7_peak_43 ?_
        refine r_istore_n (pc := 44) dX7_peak_44 (by decide) ?_
        refine r_aload_n (pc := 45) (L := [some (.ref b0), some (.int l1), some (.int 0), some (.int (1000 * (gi x b0_2 1))), none, none, none, none, none]) dX7_peak_45 rfl ?_
        refine s_getR (pc := 46) dX7_peak_46 fl_X7_20 rfl k_b0 g_b0_2 ?_
        refine s_getI (pc := 49) dX7_peak_49 fl_X7_103 rfl k_b0_2 ?_
        refine r_istore (pc := 52) dX7_peak_52 (by decide) ?_
        exact r_le (L' := [some (.ref b0), some (.int l1), some (.int 0), some (.int (1000 * (gi x b0_2 1))), some (.int (gi x b0_2 1)), none, none, none, none]) ⟨rfl, ⟨rfl, ⟨rfl, ⟨rfl, ⟨rfl, trivial⟩⟩⟩⟩⟩ K0
      · have q := b2i_nz q
        have K0 := K0.2 q
        refine r_iconst (pc := 29) (v := (-1)) dX7_peak_29 (by decide) ?_
        exact s_iret rfl dX7_peak_30 K0
    · have q := (b2i_z _).mp q
      have K0 := K0.2 q
      refine r_bipush (pc := 16) (v := (-2)) dX7_peak_16 (by decide) ?_
      exact s_iret rfl dX7_peak_18 K0
set_option maxHeartbeats 2000000 in
theorem v_X7_peak_54 {K : Sh} {x : Cn} {Q : Int32 → Cn → Prop} {b0 : Nat} {l1 : Int32} {l2 : Int32} {l3 : Int32} {l4 : Int32} {b0_2 : Nat} (k_b0 : kk K b0 = some (7, 0)) (g_b0_2 : gr x b0 2 = some b0_2) (k_b0_2 : kk K b0_2 = some (4, 0)) (K0 : ((gi x b0_2 0) ≤ l4 → ((¬ l1 = 0 → (Q l3 x)) ∧ (l1 = 0 → (Q l2 x)))) ∧ (¬ (gi x b0_2 0) ≤ l4 → (GI mX7_peak 69 [some (.ref b0), some (.int l1), some (.int l2), some (.int l3), some (.int l4), some (.int 0), none, none, none] [] K x Q))) : GI mX7_peak 54 [some (.ref b0), some (.int l1), some (.int l2), some (.int l3), some (.int l4), none, none, none, none] [] K x Q := by
  show mGM mX7_peak 54 [some (.ref b0), some (.int l1), some (.int l2), some (.int l3), some (.int l4), none, none, none, none] [] (hp K x) (PI K Q)
  refine r_iload (pc := 54) dX7_peak_54 rfl ?_
  refine r_aload_n (pc := 56) dX7_peak_56 rfl ?_
  refine s_getR (pc := 57) dX7_peak_57 fl_X7_20 rfl k_b0 g_b0_2 ?_
  refine s_getI (pc := 60) dX7_peak_60 fl_X7_91 rfl k_b0_2 ?_
  refine r_icmp_ge (pc := 63) (tgt := 183) dX7_peak_63 (by decide) (fun q => ?_) (fun q => ?_)
  · have K0 := K0.1 q
    refine r_iload_n (pc := 183) dX7_peak_183 rfl ?_
    refine r_if_ne (pc := 184) (tgt := 191) dX7_peak_184 (by decide) (fun q => ?_) (fun q => ?_)
    · have K0 := K0.1 q
      refine r_iload_n (pc := 191) dX7_peak_191 rfl ?_
      exact s_iret rfl dX7_peak_192 K0
    · have K0 := K0.2 q
      refine r_iload_n (pc := 187) dX7_peak_187 rfl ?_
      refine r_goto (pc := 188) (tgt := 192) dX7_peak_188 (by decide) ?_
      exact s_iret rfl dX7_peak_192 K0
  · have K0 := K0.2 q
    refine r_iconst (pc := 66) (v := 0) dX7_peak_66 (by decide) ?_
    refine r_istore (pc := 67) dX7_peak_67 (by decide) ?_
    exact r_le (L' := [some (.ref b0), some (.int l1), some (.int l2), some (.int l3), some (.int l4), some (.int 0), none, none, none]) ⟨rfl, ⟨rfl, ⟨rfl, ⟨rfl, ⟨rfl, ⟨rfl, trivial⟩⟩⟩⟩⟩⟩ K0
set_option maxHeartbeats 2000000 in
theorem v_X7_peak_69 {K : Sh} {x : Cn} {Q : Int32 → Cn → Prop} {b0 : Nat} {l1 : Int32} {l2 : Int32} {l3 : Int32} {l4 : Int32} {l5 : Int32} {b0_2 : Nat} {b0_2_7 : Nat} {n_b0_2_7 : Nat} (k_b0 : kk K b0 = some (7, 0)) (g_b0_2 : gr x b0 2 = some b0_2) (k_b0_2 : kk K b0_2 = some (4, 0)) (g_b0_2_7 : gr x b0_2 7 = some b0_2_7) (k_b0_2_7 : kk K b0_2_7 = some (23, n_b0_2_7)) (K0 : ((gi x b0_2 3) ≤ l5 → (GI mX7_peak 54 [some (.ref b0), some (.int l1), some (.int l2), some (.int l3), some (.int (l4 + 1)), none, none, none, none] [] K x Q)) ∧ (¬ (gi x b0_2 3) ≤ l5 → (vp_in l5 n_b0_2_7 ∧ (∃ c_3 : Nat, gr x b0_2_7 ((l5 : Int32).toNatClampNeg) = some c_3 ∧ (kk K c_3 = some (5, 0) ∧ ((¬ (f_bit (f_held x c_3) l4) → (GI mX7_peak 69 [some (.ref b0), some (.int l1), some (.int l2), some (.int l3), some (.int l4), some (.int (l5 + 1)), none, none, none] [] K x Q)) ∧ ((f_bit (f_held x c_3) l4) → (mSI mX4_loadOf [.ref b0_2, .int l4, .int (gi x c_3 1), .int (gi x c_3 2)] K x (fun r_8 y_7 => (l2 < r_8 → (GI mX7_peak 69 [some (.ref b0), some (.int l1), some (.int r_8), some (.int (((1000 * l4) + (100 * (gi y_7 c_3 1))) + (gi y_7 c_3 2))), some (.int l4), some (.int (l5 + 1)), none, none, none] [] K y_7 Q)) ∧ (¬ l2 < r_8 → ((¬ r_8 = l2 → (GI mX7_peak 69 [some (.ref b0), some (.int l1), some (.int l2), some (.int l3), some (.int l4), some (.int (l5 + 1)), none, none, none] [] K y_7 Q)) ∧ (r_8 = l2 → ((l3 ≤ (((1000 * l4) + (100 * (gi y_7 c_3 1))) + (gi y_7 c_3 2)) → (GI mX7_peak 69 [some (.ref b0), some (.int l1), some (.int l2), some (.int l3), some (.int l4), some (.int (l5 + 1)), none, none, none] [] K y_7 Q)) ∧ (¬ l3 ≤ (((1000 * l4) + (100 * (gi y_7 c_3 1))) + (gi y_7 c_3 2)) → (GI mX7_peak 69 [some (.ref b0), some (.int l1), some (.int r_8), some (.int (((1000 * l4) + (100 * (gi y_7 c_3 1))) + (gi y_7 c_3 2))), some (.int l4), some (.int (l5 + 1)), none, none, none] [] K y_7 Q))))))))))))))) : GI mX7_peak 69 [some (.ref b0), some (.int l1), some (.int l2), some (.int l3), some (.int l4), some (.int l5), none, none, none] [] K x Q := by
  show mGM mX7_peak 69 [some (.ref b0), some (.int l1), some (.int l2), some (.int l3), some (.int l4), some (.int l5), none, none, none] [] (hp K x) (PI K Q)
  refine r_iload (pc := 69) dX7_peak_69 rfl ?_
  refine r_aload_n (pc := 71) dX7_peak_71 rfl ?_
  refine s_getR (pc := 72) dX7_peak_72 fl_X7_20 rfl k_b0 g_b0_2 ?_
  refine s_getI (pc := 75) dX7_peak_75 fl_X7_97 rfl k_b0_2 ?_
  refine r_icmp_ge (pc := 78) (tgt := 177) dX7_peak_78 (by decide) (fun q => ?_) (fun q => ?_)
  · have K0 := K0.1 q
    refine r_iinc (pc := 177) (v := l4 + 1) dX7_peak_177 rfl rfl (by decide) ?_
    refine r_goto (pc := 180) (L := [some (.ref b0), some (.int l1), some (.int l2), some (.int l3), some (.int (l4 + 1)), some (.int l5), none, none, none]) (tgt := 54) dX7_peak_180 (by decide) ?_
    exact r_le (L' := [some (.ref b0), some (.int l1), some (.int l2), some (.int l3), some (.int (l4 + 1)), none, none, none, none]) ⟨rfl, ⟨rfl, ⟨rfl, ⟨rfl, ⟨rfl, trivial⟩⟩⟩⟩⟩ K0
  · have K0 := K0.2 q
    refine r_aload_n (pc := 81) dX7_peak_81 rfl ?_
    refine s_getR (pc := 82) dX7_peak_82 fl_X7_20 rfl k_b0 g_b0_2 ?_
    refine s_getR (pc := 85) dX7_peak_85 fl_X7_135 rfl k_b0_2 g_b0_2_7 ?_
    refine r_iload (pc := 88) dX7_peak_88 rfl ?_
    obtain ⟨i_2, K0⟩ := K0
    obtain ⟨c_3, g_4, K0⟩ := K0
    refine s_aald (pc := 90) dX7_peak_90 (by decide) rfl k_b0_2_7 i_2 g_4 ?_
    refine r_astore (pc := 91) dX7_peak_91 (by decide) ?_
    refine r_aload (pc := 93) (L := [some (.ref b0), some (.int l1), some (.int l2), some (.int l3), some (.int l4), some (.int l5), some (.ref c_3), none, none]) dX7_peak_93 rfl ?_
    refine r_iload (pc := 95) dX7_peak_95 rfl ?_
    obtain ⟨e_5, K0⟩ := K0
    refine s_VI (pc := 97) mX5_holds (ci := 5) (a := c_3) (As := [.int l4]) dX7_peak_97 lk_X7_282 in_X5_holds mo_X5_holds ⟨by decide, rfl⟩ ⟨by decide, by decide⟩ (Nat.le_of_ble_eq_true rfl) e_5 (sp_X5_holds e_5 ?_)
    refine r_if_eq (pc := 100) (tgt := 171) dX7_peak_100 (by decide) (fun q => ?_) (fun q => ?_)
    · have q := (b2i_z _).mp q
      have K0 := K0.1 q
      refine r_iinc (pc := 171) (v := l5 + 1) dX7_peak_171 rfl rfl (by decide) ?_
      refine r_goto (pc := 174) (L := [some (.ref b0), some (.int l1), some (.int l2), some (.int l3), some (.int l4), some (.int (l5 + 1)), some (.ref c_3), none, none]) (tgt := 69) dX7_peak_174 (by decide) ?_
      exact r_le (L' := [some (.ref b0), some (.int l1), some (.int l2), some (.int l3), some (.int l4), some (.int (l5 + 1)), none, none, none]) ⟨rfl, ⟨rfl, ⟨rfl, ⟨rfl, ⟨rfl, ⟨rfl, trivial⟩⟩⟩⟩⟩⟩ K0
    · have q := b2i_nz q
      have K0 := K0.2 q
      refine r_aload_n (pc := 103) dX7_peak_103 rfl ?_
      refine s_getR (pc := 104) dX7_peak_104 fl_X7_20 rfl k_b0 g_b0_2 ?_
      refine r_iload (pc := 107) dX7_peak_107 rfl ?_
      refine r_aload (pc := 109) dX7_peak_109 rfl ?_
      refine s_getI (pc := 111) dX7_peak_111 fl_X7_144 rfl e_5 ?_
      refine r_aload (pc := 114) dX7_peak_114 rfl ?_
      refine s_getI (pc := 116) dX7_peak_116 fl_X7_147 rfl e_5 ?_
      refine s_VI (pc := 119) mX4_loadOf (ci := 4) (a := b0_2) (As := [.int l4, .int (gi x c_3 1), .int (gi x c_3 2)]) dX7_peak_119 lk_X7_208 in_X4_loadOf mo_X4_loadOf ⟨by decide, rfl⟩ ⟨by decide, by decide⟩ (Nat.le_of_ble_eq_true rfl) k_b0_2 (mSI_mono K0 (fun r_8 y_7 K0 => ?_))
      refine r_istore (pc := 122) dX7_peak_122 (by decide) ?_
      refine r_sipush (pc := 124) (L := [some (.ref b0), some (.int l1), some (.int l2), some (.int l3), some (.int l4), some (.int l5), some (.ref c_3), some (.int r_8), none]) (v := 1000) dX7_peak_124 (by decide) ?_
      refine r_iload (pc := 127) dX7_peak_127 rfl ?_
      refine r_imul (pc := 129) dX7_peak_129 ?_
      refine r_bipush (pc := 130) (v := 100) dX7_peak_130 (by decide) ?_
      refine r_aload (pc := 132) dX7_peak_132 rfl ?_
      refine s_getI (pc := 134) dX7_peak_134 fl_X7_144 rfl e_5 ?_
      refine r_imul (pc := 137) dX7_peak_137 ?_
      refine r_iadd (pc := 138) dX7_peak_138 ?_
      refine r_aload (pc := 139) dX7_peak_139 rfl ?_
      refine s_getI (pc := 141) dX7_peak_141 fl_X7_147 rfl e_5 ?_
      refine r_iadd (pc := 144) dX7_peak_144 ?_
      refine r_istore (pc := 145) dX7_peak_145 (by decide) ?_
      refine r_iload (pc := 147) (L := [some (.ref b0), some (.int l1), some (.int l2), some (.int l3), some (.int l4), some (.int l5), some (.ref c_3), some (.int r_8), some (.int (((1000 * l4) + (100 * (gi y_7 c_3 1))) + (gi y_7 c_3 2)))]) dX7_peak_147 rfl ?_
      refine r_iload_n (pc := 149) dX7_peak_149 rfl ?_
      refine r_icmp_gt (pc := 150) (tgt := 165) dX7_peak_150 (by decide) (fun q => ?_) (fun q => ?_)
      · have K0 := K0.1 q
        refine r_iload (pc := 165) dX7_peak_165 rfl ?_
        refine r_istore_n (pc := 167) dX7_peak_167 (by decide) ?_
        refine r_iload (pc := 168) (L := [some (.ref b0), some (.int l1), some (.int r_8), some (.int l3), some (.int l4), some (.int l5), some (.ref c_3), some (.int r_8), some (.int (((1000 * l4) + (100 * (gi y_7 c_3 1))) + (gi y_7 c_3 2)))]) dX7_peak_168 rfl ?_
        refine r_istore_n (pc := 170) dX7_peak_170 (by decide) ?_
        refine r_iinc (pc := 171) (L := [some (.ref b0), some (.int l1), some (.int r_8), some (.int (((1000 * l4) + (100 * (gi y_7 c_3 1))) + (gi y_7 c_3 2))), some (.int l4), some (.int l5), some (.ref c_3), some (.int r_8), some (.int (((1000 * l4) + (100 * (gi y_7 c_3 1))) + (gi y_7 c_3 2)))]) (v := l5 + 1) dX7_peak_171 rfl rfl (by decide) ?_
        refine r_goto (pc := 174) (L := [some (.ref b0), some (.int l1), some (.int r_8), some (.int (((1000 * l4) + (100 * (gi y_7 c_3 1))) + (gi y_7 c_3 2))), some (.int l4), some (.int (l5 + 1)), some (.ref c_3), some (.int r_8), some (.int (((1000 * l4) + (100 * (gi y_7 c_3 1))) + (gi y_7 c_3 2)))]) (tgt := 69) dX7_peak_174 (by decide) ?_
        exact r_le (L' := [some (.ref b0), some (.int l1), some (.int r_8), some (.int (((1000 * l4) + (100 * (gi y_7 c_3 1))) + (gi y_7 c_3 2))), some (.int l4), some (.int (l5 + 1)), none, none, none]) ⟨rfl, ⟨rfl, ⟨rfl, ⟨rfl, ⟨rfl, ⟨rfl, trivial⟩⟩⟩⟩⟩⟩ K0
      · have K0 := K0.2 q
        refine r_iload (pc := 153) dX7_peak_153 rfl ?_
        refine r_iload_n (pc := 155) dX7_peak_155 rfl ?_
        refine r_icmp_ne (pc := 156) (tgt := 171) dX7_peak_156 (by decide) (fun q => ?_) (fun q => ?_)
        · have K0 := K0.1 q
          refine r_iinc (pc := 171) (v := l5 + 1) dX7_peak_171 rfl rfl (by decide) ?_
          refine r_goto (pc := 174) (L := [some (.ref b0), some (.int l1), some (.int l2), some (.int l3), some (.int l4), some (.int (l5 + 1)), some (.ref c_3), some (.int r_8), some (.int (((1000 * l4) + (100 * (gi y_7 c_3 1))) + (gi y_7 c_3 2)))]) (tgt := 69) dX7_peak_174 (by decide) ?_
          exact r_le (L' := [some (.ref b0), some (.int l1), some (.int l2), some (.int l3), some (.int l4), some (.int (l5 + 1)), none, none, none]) ⟨rfl, ⟨rfl, ⟨rfl, ⟨rfl, ⟨rfl, ⟨rfl, trivial⟩⟩⟩⟩⟩⟩ K0
        · have K0 := K0.2 q
          refine r_iload (pc := 159) dX7_peak_159 rfl ?_
          refine r_iload_n (pc := 161) dX7_peak_161 rfl ?_
          refine r_icmp_ge (pc := 162) (tgt := 171) dX7_peak_162 (by decide) (fun q => ?_) (fun q => ?_)
          · have K0 := K0.1 q
            refine r_iinc (pc := 171) (v := l5 + 1) dX7_peak_171 rfl rfl (by decide) ?_
            refine r_goto (pc := 174) (L := [some (.ref b0), some (.int l1), some (.int l2), some (.int l3), some (.int l4), some (.int (l5 + 1)), some (.ref c_3), some (.int r_8), some (.int (((1000 * l4) + (100 * (gi y_7 c_3 1))) + (gi y_7 c_3 2)))]) (tgt := 69) dX7_peak_174 (by decide) ?_
            exact r_le (L' := [some (.ref b0), some (.int l1), some (.int l2), some (.int l3), some (.int l4), some (.int (l5 + 1)), none, none, none]) ⟨rfl, ⟨rfl, ⟨rfl, ⟨rfl, ⟨rfl, ⟨rfl, trivial⟩⟩⟩⟩⟩⟩ K0
          · have K0 := K0.2 q
            refine r_iload (pc := 165) dX7_peak_165 rfl ?_
            refine r_istore_n (pc := 167) dX7_peak_167 (by decide) ?_
            refine r_iload (pc := 168) (L := [some (.ref b0), some (.int l1), some (.int r_8), some (.int l3), some (.int l4), some (.int l5), some (.ref c_3), some (.int r_8), some (.int (((1000 * l4) + (100 * (gi y_7 c_3 1))) + (gi y_7 c_3 2)))]) dX7_peak_168 rfl ?_
            refine r_istore_n (pc := 170) dX7_peak_170 (by decide) ?_
            refine r_iinc (pc := 171) (L := [some (.ref b0), some (.int l1), some (.int r_8), some (.int (((1000 * l4) + (100 * (gi y_7 c_3 1))) + (gi y_7 c_3 2))), some (.int l4), some (.int l5), some (.ref c_3), some (.int r_8), some (.int (((1000 * l4) + (100 * (gi y_7 c_3 1))) + (gi y_7 c_3 2)))]) (v := l5 + 1) dX7_peak_171 rfl rfl (by decide) ?_
            refine r_goto (pc := 174) (L := [some (.ref b0), some (.int l1), some (.int r_8), some (.int (((1000 * l4) + (100 * (gi y_7 c_3 1))) + (gi y_7 c_3 2))), some (.int l4), some (.int (l5 + 1)), some (.ref c_3), some (.int r_8), some (.int (((1000 * l4) + (100 * (gi y_7 c_3 1))) + (gi y_7 c_3 2)))]) (tgt := 69) dX7_peak_174 (by decide) ?_
            exact r_le (L' := [some (.ref b0), some (.int l1), some (.int r_8), some (.int (((1000 * l4) + (100 * (gi y_7 c_3 1))) + (gi y_7 c_3 2))), some (.int l4), some (.int (l5 + 1)), none, none, none]) ⟨rfl, ⟨rfl, ⟨rfl, ⟨rfl, ⟨rfl, ⟨rfl, trivial⟩⟩⟩⟩⟩⟩ K0
set_option maxHeartbeats 2000000 in
theorem v_X8_peak_0 {K : Sh} {x : Cn} {Q : Int32 → Cn → Prop} {b0 : Nat} {l1 : Int32} {b0_1 : Nat} {n_b0_1 : Nat} (k_b0 : kk K b0 = some (8, 0)) (g_b0_1 : gr x b0 1 = some b0_1) (k_b0_1 : kk K b0_1 = some (20, n_b0_1)) (K0 : vp_in 0 n_b0_1 ∧ ((¬ (0 < gi x b0_1 0) → (Q (-2) x)) ∧ ((0 < gi x b0_1 0) → (((0 ≤ l1 ∧ l1 ≤ 1) → (vp_in 4 n_b0_1 ∧ ((¬ (gi x b0_1 4) = (gi x b0_1 0) → (GI mX8_peak 49 [some (.ref b0), some (.int l1), some (.int (-1)), some (.int (-1)), some (.int (gi x b0_1 4)), none, none, none] [] K x Q)) ∧ ((gi x b0_1 4) = (gi x b0_1 0) → (Q (-1) x))))) ∧ (¬ (0 ≤ l1 ∧ l1 ≤ 1) → (Q (-2) x)))))) : mSI mX8_peak [.ref b0, .int l1] K x Q := by
  refine s_I (by decide) (by simp [Value.category]) (Nat.le_of_ble_eq_true rfl) ?_
  show mGM mX8_peak 0 [some (.ref b0), some (.int l1), none, none, none, none, none, none] [] (hp K x) (PI K Q)
  refine r_aload_n (pc := 0) dX8_peak_0 rfl ?_
  obtain ⟨i_1, K0⟩ := K0
  refine s_VI (pc := 1) mX8_isThere (ci := 8) (a := b0) (As := []) dX8_peak_1 lk_X8_49 in_X8_isThere mo_X8_isThere ⟨by decide, rfl⟩ ⟨by decide, by decide⟩ (Nat.le_of_ble_eq_true rfl) k_b0 (sp_X8_isThere k_b0 g_b0_1 k_b0_1 i_1 ?_)
  refine r_if_eq (pc := 4) (tgt := 17) dX8_peak_4 (by decide) (fun q => ?_) (fun q => ?_)
  · have q := (b2i_z _).mp q
    have K0 := K0.1 q
    refine r_bipush (pc := 17) (v := (-2)) dX8_peak_17 (by decide) ?_
    exact s_iret rfl dX8_peak_19 K0
  · have q := b2i_nz q
    have K0 := K0.2 q
    refine r_iload_n (pc := 7) dX8_peak_7 rfl ?_
    refine r_i2l (pc := 8) dX8_peak_8 ?_
    refine r_lconst (pc := 9) (v := 0) dX8_peak_9 (by decide) ?_
    refine r_lconst (pc := 10) (v := 1) dX8_peak_10 (by decide) ?_
    refine s_SI (pc := 11) mX8_in (As := [.long ((l1 : Int32).toInt64), .long 0, .long 1]) dX8_peak_11 lk_X8_45 st_X8_in mo_X8_in ⟨by decide, by decide⟩ (Nat.le_of_ble_eq_true rfl) (sq_X8_in (v := l1) (lo := 0) (hi := 1) rfl (by decide) (by decide) ?_)
    refine r_if_ne (pc := 14) (tgt := 20) dX8_peak_14 (by decide) (fun q => ?_) (fun q => ?_)
    · have q := b2i_nz q
      have K0 := K0.1 q
      refine r_aload_n (pc := 20) dX8_peak_20 rfl ?_
      refine s_getR (pc := 21) dX8_peak_21 fl_X8_9 rfl k_b0 g_b0_1 ?_
      refine r_iconst (pc := 24) (v := 4) dX8_peak_24 (by decide) ?_
      obtain ⟨i_4, K0⟩ := K0
      refine s_iald (pc := 25) dX8_peak_25 k_b0_1 i_4 ?_
      refine r_aload_n (pc := 26) dX8_peak_26 rfl ?_
      refine s_getR (pc := 27) dX8_peak_27 fl_X8_9 rfl k_b0 g_b0_1 ?_
      refine r_iconst (pc := 30) (v := 0) dX8_peak_30 (by decide) ?_
      refine s_iald (pc := 31) dX8_peak_31 k_b0_1 i_1 ?_
      refine r_icmp_ne (pc := 32) (tgt := 37) dX8_peak_32 (by decide) (fun q => ?_) (fun q => ?_)
      · have K0 := K0.1 q
        refine r_iconst (pc := 37) (v := (-1)) dX8_peak_37 (by decide) ?_
        refine r_istore_n (pc := 38) dX8_peak_38 (by decide) ?_
        refine r_iconst (pc := 39) (L := [some (.ref b0), some (.int l1), some (.int (-1)), none, none, none, none, none]) (v := (-1)) dX8_peak_39 (by decide) ?_
        refine r_istore_n (pc := 40) dX8_peak_40 (by decide) ?_
        refine r_aload_n (pc := 41) (L := [some (.ref b0), some (.int l1), some (.int (-1)), some (.int (-1)), none, none, none, none]) dX8_peak_41 rfl ?_
        refine s_getR (pc := 42) dX8_peak_42 fl_X8_9 rfl k_b0 g_b0_1 ?_
        refine r_iconst (pc := 45) (v := 4) dX8_peak_45 (by decide) ?_
        refine s_iald (pc := 46) dX8_peak_46 k_b0_1 i_4 ?_
        refine r_istore (pc := 47) dX8_peak_47 (by decide) ?_
        exact r_le (L' := [some (.ref b0), some (.int l1), some (.int (-1)), some (.int (-1)), some (.int (gi x b0_1 4)), none, none, none]) ⟨rfl, ⟨rfl, ⟨rfl, ⟨rfl, ⟨rfl, trivial⟩⟩⟩⟩⟩ K0
      · have K0 := K0.2 q
        refine r_iconst (pc := 35) (v := (-1)) dX8_peak_35 (by decide) ?_
        exact s_iret rfl dX8_peak_36 K0
    · have q := (b2i_z _).mp q
      have K0 := K0.2 q
      refine r_bipush (pc := 17) (v := (-2)) dX8_peak_17 (by decide) ?_
      exact s_iret rfl dX8_peak_19 K0
set_option maxHeartbeats 2000000 in
theorem v_X8_peak_49 {K : Sh} {x : Cn} {Q : Int32 → Cn → Prop} {b0 : Nat} {l1 : Int32} {l2 : Int32} {l3 : Int32} {l4 : Int32} {b0_1 : Nat} {n_b0_1 : Nat} (k_b0 : kk K b0 = some (8, 0)) (g_b0_1 : gr x b0 1 = some b0_1) (k_b0_1 : kk K b0_1 = some (20, n_b0_1)) (K0 : vp_in 0 n_b0_1 ∧ (((gi x b0_1 0) ≤ l4 → ((¬ l1 = 0 → (Q l3 x)) ∧ (l1 = 0 → (Q l2 x)))) ∧ (¬ (gi x b0_1 0) ≤ l4 → (GI mX8_peak 63 [some (.ref b0), some (.int l1), some (.int l2), some (.int l3), some (.int l4), some (.int 0), none, none] [] K x Q)))) : GI mX8_peak 49 [some (.ref b0), some (.int l1), some (.int l2), some (.int l3), some (.int l4), none, none, none] [] K x Q := by
  show mGM mX8_peak 49 [some (.ref b0), some (.int l1), some (.int l2), some (.int l3), some (.int l4), none, none, none] [] (hp K x) (PI K Q)
  refine r_iload (pc := 49) dX8_peak_49 rfl ?_
  refine r_aload_n (pc := 51) dX8_peak_51 rfl ?_
  refine s_getR (pc := 52) dX8_peak_52 fl_X8_9 rfl k_b0 g_b0_1 ?_
  refine r_iconst (pc := 55) (v := 0) dX8_peak_55 (by decide) ?_
  obtain ⟨i_1, K0⟩ := K0
  refine s_iald (pc := 56) dX8_peak_56 k_b0_1 i_1 ?_
  refine r_icmp_ge (pc := 57) (tgt := 140) dX8_peak_57 (by decide) (fun q => ?_) (fun q => ?_)
  · have K0 := K0.1 q
    refine r_iload_n (pc := 140) dX8_peak_140 rfl ?_
    refine r_if_ne (pc := 141) (tgt := 148) dX8_peak_141 (by decide) (fun q => ?_) (fun q => ?_)
    · have K0 := K0.1 q
      refine r_iload_n (pc := 148) dX8_peak_148 rfl ?_
      exact s_iret rfl dX8_peak_149 K0
    · have K0 := K0.2 q
      refine r_iload_n (pc := 144) dX8_peak_144 rfl ?_
      refine r_goto (pc := 145) (tgt := 149) dX8_peak_145 (by decide) ?_
      exact s_iret rfl dX8_peak_149 K0
  · have K0 := K0.2 q
    refine r_iconst (pc := 60) (v := 0) dX8_peak_60 (by decide) ?_
    refine r_istore (pc := 61) dX8_peak_61 (by decide) ?_
    exact r_le (L' := [some (.ref b0), some (.int l1), some (.int l2), some (.int l3), some (.int l4), some (.int 0), none, none]) ⟨rfl, ⟨rfl, ⟨rfl, ⟨rfl, ⟨rfl, ⟨rfl, trivial⟩⟩⟩⟩⟩⟩ K0
set_option maxHeartbeats 2000000 in
theorem v_X8_peak_63 {K : Sh} {x : Cn} {Q : Int32 → Cn → Prop} {b0 : Nat} {l1 : Int32} {l2 : Int32} {l3 : Int32} {l4 : Int32} {l5 : Int32}   (K0 : (7 ≤ l5 → (GI mX8_peak 49 [some (.ref b0), some (.int l1), some (.int l2), some (.int l3), some (.int (l4 + 1)), none, none, none] [] K x Q)) ∧ (¬ 7 ≤ l5 → (GI mX8_peak 73 [some (.ref b0), some (.int l1), some (.int l2), some (.int l3), some (.int l4), some (.int l5), some (.int 0), none] [] K x Q))) : GI mX8_peak 63 [some (.ref b0), some (.int l1), some (.int l2), some (.int l3), some (.int l4), some (.int l5), none, none] [] K x Q := by
  show mGM mX8_peak 63 [some (.ref b0), some (.int l1), some (.int l2), some (.int l3), some (.int l4), some (.int l5), none, none] [] (hp K x) (PI K Q)
  refine r_iload (pc := 63) dX8_peak_63 rfl ?_
  refine r_bipush (pc := 65) (v := 7) dX8_peak_65 (by decide) ?_
  refine r_icmp_ge (pc := 67) (tgt := 134) dX8_peak_67 (by decide) (fun q => ?_) (fun q => ?_)
  · have K0 := K0.1 q
    refine r_iinc (pc := 134) (v := l4 + 1) dX8_peak_134 rfl rfl (by decide) ?_
    refine r_goto (pc := 137) (L := [some (.ref b0), some (.int l1), some (.int l2), some (.int l3), some (.int (l4 + 1)), some (.int l5), none, none]) (tgt := 49) dX8_peak_137 (by decide) ?_
    exact r_le (L' := [some (.ref b0), some (.int l1), some (.int l2), some (.int l3), some (.int (l4 + 1)), none, none, none]) ⟨rfl, ⟨rfl, ⟨rfl, ⟨rfl, ⟨rfl, trivial⟩⟩⟩⟩⟩ K0
  · have K0 := K0.2 q
    refine r_iconst (pc := 70) (v := 0) dX8_peak_70 (by decide) ?_
    refine r_istore (pc := 71) dX8_peak_71 (by decide) ?_
    exact r_le (L' := [some (.ref b0), some (.int l1), some (.int l2), some (.int l3), some (.int l4), some (.int l5), some (.int 0), none]) ⟨rfl, ⟨rfl, ⟨rfl, ⟨rfl, ⟨rfl, ⟨rfl, ⟨rfl, trivial⟩⟩⟩⟩⟩⟩⟩ K0
set_option maxHeartbeats 2000000 in
theorem v_X8_peak_73 {K : Sh} {x : Cn} {Q : Int32 → Cn → Prop} {b0 : Nat} {l1 : Int32} {l2 : Int32} {l3 : Int32} {l4 : Int32} {l5 : Int32} {l6 : Int32}  (k_b0 : kk K b0 = some (8, 0)) (K0 : (24 ≤ l6 → (GI mX8_peak 63 [some (.ref b0), some (.int l1), some (.int l2), some (.int l3), some (.int l4), some (.int (l5 + 1)), none, none] [] K x Q)) ∧ (¬ 24 ≤ l6 → (mSI mX8_loadBut [.ref b0, .int l4, .int l5, .int l6, .int 0, .int (-1)] K x (fun r_3 y_2 => (l2 < r_3 → (GI mX8_peak 73 [some (.ref b0), some (.int l1), some (.int r_3), some (.int (((1000 * l4) + (100 * l5)) + l6)), some (.int l4), some (.int l5), some (.int (l6 + 1)), none] [] K y_2 Q)) ∧ (¬ l2 < r_3 → (GI mX8_peak 73 [some (.ref b0), some (.int l1), some (.int l2), some (.int l3), some (.int l4), some (.int l5), some (.int (l6 + 1)), none] [] K y_2 Q)))))) : GI mX8_peak 73 [some (.ref b0), some (.int l1), some (.int l2), some (.int l3), some (.int l4), some (.int l5), some (.int l6), none] [] K x Q := by
  show mGM mX8_peak 73 [some (.ref b0), some (.int l1), some (.int l2), some (.int l3), some (.int l4), some (.int l5), some (.int l6), none] [] (hp K x) (PI K Q)
  refine r_iload (pc := 73) dX8_peak_73 rfl ?_
  refine r_bipush (pc := 75) (v := 24) dX8_peak_75 (by decide) ?_
  refine r_icmp_ge (pc := 77) (tgt := 128) dX8_peak_77 (by decide) (fun q => ?_) (fun q => ?_)
  · have K0 := K0.1 q
    refine r_iinc (pc := 128) (v := l5 + 1) dX8_peak_128 rfl rfl (by decide) ?_
    refine r_goto (pc := 131) (L := [some (.ref b0), some (.int l1), some (.int l2), some (.int l3), some (.int l4), some (.int (l5 + 1)), some (.int l6), none]) (tgt := 63) dX8_peak_131 (by decide) ?_
    exact r_le (L' := [some (.ref b0), some (.int l1), some (.int l2), some (.int l3), some (.int l4), some (.int (l5 + 1)), none, none]) ⟨rfl, ⟨rfl, ⟨rfl, ⟨rfl, ⟨rfl, ⟨rfl, trivial⟩⟩⟩⟩⟩⟩ K0
  · have K0 := K0.2 q
    refine r_aload_n (pc := 80) dX8_peak_80 rfl ?_
    refine r_iload (pc := 81) dX8_peak_81 rfl ?_
    refine r_iload (pc := 83) dX8_peak_83 rfl ?_
    refine r_iload (pc := 85) dX8_peak_85 rfl ?_
    refine r_iconst (pc := 87) (v := 0) dX8_peak_87 (by decide) ?_
    refine r_iconst (pc := 88) (v := (-1)) dX8_peak_88 (by decide) ?_
    refine s_VI (pc := 89) mX8_loadBut (ci := 8) (a := b0) (As := [.int l4, .int l5, .int l6, .int 0, .int (-1)]) dX8_peak_89 lk_X8_86 in_X8_loadBut mo_X8_loadBut ⟨by decide, rfl⟩ ⟨by decide, by decide⟩ (Nat.le_of_ble_eq_true rfl) k_b0 (mSI_mono K0 (fun r_3 y_2 K0 => ?_))
    refine r_istore (pc := 92) dX8_peak_92 (by decide) ?_
    refine r_iload (pc := 94) (L := [some (.ref b0), some (.int l1), some (.int l2), some (.int l3), some (.int l4), some (.int l5), some (.int l6), some (.int r_3)]) dX8_peak_94 rfl ?_
    refine r_iload_n (pc := 96) dX8_peak_96 rfl ?_
    refine r_icmp_gt (pc := 97) (tgt := 103) dX8_peak_97 (by decide) (fun q => ?_) (fun q => ?_)
    · have K0 := K0.1 q
      refine r_iload (pc := 103) dX8_peak_103 rfl ?_
      refine r_istore_n (pc := 105) dX8_peak_105 (by decide) ?_
      refine r_sipush (pc := 106) (L := [some (.ref b0), some (.int l1), some (.int r_3), some (.int l3), some (.int l4), some (.int l5), some (.int l6), some (.int r_3)]) (v := 1000) dX8_peak_106 (by decide) ?_
      refine r_iload (pc := 109) dX8_peak_109 rfl ?_
      refine r_imul (pc := 111) dX8_peak_111 ?_
      refine r_bipush (pc := 112) (v := 100) dX8_peak_112 (by decide) ?_
      refine r_iload (pc := 114) dX8_peak_114 rfl ?_
      refine r_imul (pc := 116) dX8_peak_116 ?_
      refine r_iadd (pc := 117) dX8_peak_117 ?_
      refine r_iload (pc := 118) dX8_peak_118 rfl ?_
      refine r_iadd (pc := 120) dX8_peak_120 ?_
      refine r_istore_n (pc := 121) dX8_peak_121 (by decide) ?_
      refine r_iinc (pc := 122) (L := [some (.ref b0), some (.int l1), some (.int r_3), some (.int (((1000 * l4) + (100 * l5)) + l6)), some (.int l4), some (.int l5), some (.int l6), some (.int r_3)]) (v := l6 + 1) dX8_peak_122 rfl rfl (by decide) ?_
      refine r_goto (pc := 125) (L := [some (.ref b0), some (.int l1), some (.int r_3), some (.int (((1000 * l4) + (100 * l5)) + l6)), some (.int l4), some (.int l5), some (.int (l6 + 1)), some (.int r_3)]) (tgt := 73) dX8_peak_125 (by decide) ?_
      exact r_le (L' := [some (.ref b0), some (.int l1), some (.int r_3), some (.int (((1000 * l4) + (100 * l5)) + l6)), some (.int l4), some (.int l5), some (.int (l6 + 1)), none]) ⟨rfl, ⟨rfl, ⟨rfl, ⟨rfl, ⟨rfl, ⟨rfl, ⟨rfl, trivial⟩⟩⟩⟩⟩⟩⟩ K0
    · have K0 := K0.2 q
      refine r_goto (pc := 100) (tgt := 122) dX8_peak_100 (by decide) ?_
      refine r_iinc (pc := 122) (v := l6 + 1) dX8_peak_122 rfl rfl (by decide) ?_
      refine r_goto (pc := 125) (L := [some (.ref b0), some (.int l1), some (.int l2), some (.int l3), some (.int l4), some (.int l5), some (.int (l6 + 1)), some (.int r_3)]) (tgt := 73) dX8_peak_125 (by decide) ?_
      exact r_le (L' := [some (.ref b0), some (.int l1), some (.int l2), some (.int l3), some (.int l4), some (.int l5), some (.int (l6 + 1)), none]) ⟨rfl, ⟨rfl, ⟨rfl, ⟨rfl, ⟨rfl, ⟨rfl, ⟨rfl, trivial⟩⟩⟩⟩⟩⟩⟩ K0
theorem eq_peak (a : Int32) : Both mX7_peak mX8_peak [.int a] := by
  intro x R
  obtain ⟨W, C, S, A, N, E, -, -⟩ := R.sea
  have hn := E.nums
  have ht := Rel.t2 E
  have hS : S ≤ 24 := hn.2.2.2.2.2.2.1
  have hW : W ≤ 30 := hn.2.2.2.2.1
  have hN : N ≤ W := hn.2.2.2.2.2.2.2.2
  have ws : ∀ s, s < S → Wse (gi x 718) C W s := E.2.2.2.2.2.2.2.2.2.2.2.2.2.2.2.1
  have rf : mSI mX8_peak [.ref 717, .int a] KW x (fun r' z => Pr (gi x 718) S W N a r' ∧ Rel z) := by
    refine v_X8_peak_0 km R.2.1.1 km1 ⟨v0 (k := 0) (by decide) rfl rfl, ?_⟩
    rw [ht.1, ht.2.2.2.2, nI_eq (by omega) (by omega)]
    refine ⟨fun z => ⟨⟨fun _ => rfl, fun w => absurd w.1 z, fun w => absurd w.1 z⟩, R⟩, fun z1 => ⟨fun z2 => ⟨v0 (k := 4) (by decide) rfl rfl, fun z3 => ?_, fun z3 => ⟨⟨fun w => absurd ⟨z1, z2⟩ w, fun _ _ => rfl, fun _ w => by omega⟩, R⟩⟩, fun z => ⟨⟨fun _ => rfl, fun w => absurd w.2 z, fun w => absurd w.2 z⟩, R⟩⟩⟩
    have hNW : N < W := by omega
    have done : ∀ m v, RI (gi x 718) S W N (ky W 0 0) m v → ((¬ a = 0 → Pr (gi x 718) S W N a v ∧ Rel x) ∧ (a = 0 → Pr (gi x 718) S W N a m ∧ Rel x)) := by
      intro m v c
      rcases c with ⟨c1, -, -⟩ | ⟨g, p, c1, c2, c3⟩
      · unfold ky at c1
        omega
      · have c4 : PKv (gi x 718) S W N 100000 g p := c3.cg (fun w d h z => by unfold inR at z; unfold ky; omega)
        exact ⟨fun w => ⟨⟨fun u => absurd ⟨z1, z2⟩ u, fun _ u => by omega, fun _ _ => ⟨g, p, c4, by rw [if_neg w]; exact c2⟩⟩, R⟩, fun w => ⟨⟨fun u => absurd ⟨z1, z2⟩ u, fun _ u => by omega, fun _ _ => ⟨g, p, c4, by rw [if_pos w]; exact c1⟩⟩, R⟩⟩
    have key : ∀ k w, w + k = W → N ≤ w → ∀ m v, RI (gi x 718) S W N (ky w 0 0) m v → GI mX8_peak 49 [some (.ref 717), some (.int a), some (.int m), some (.int v), some (.int (nI w)), none, none, none] [] KW x (fun r' z => Pr (gi x 718) S W N a r' ∧ Rel z) := by
      intro k
      induction k with
      | zero =>
        intro w h1 h2 m v c
        have : w = W := by omega
        subst this
        exact v_X8_peak_49 km R.2.1.1 km1 ⟨v0 (k := 0) (by decide) rfl rfl, fun _ => done m v c, fun z => absurd (by rw [ht.1]; exact Int32.le_refl _) z⟩
      | succ k ih =>
        intro w h1 h2 m v c
        refine v_X8_peak_49 km R.2.1.1 km1 ⟨v0 (k := 0) (by decide) rfl rfl, fun z => absurd (by rw [ht.1] at z; exact z) (nI_ge (by omega) (by omega)), fun _ => ?_⟩
        have key2 : ∀ k2 d, d + k2 = 7 → ∀ m v, RI (gi x 718) S W N (ky w d 0) m v → GI mX8_peak 63 [some (.ref 717), some (.int a), some (.int m), some (.int v), some (.int (nI w)), some (.int (nI d)), none, none] [] KW x (fun r' z => Pr (gi x 718) S W N a r' ∧ Rel z) := by
          intro k2
          induction k2 with
          | zero =>
            intro d hd m v c
            have : d = 7 := by omega
            subst this
            refine v_X8_peak_63 ⟨fun _ => ?_, fun z => absurd (Int32.le_refl _) z⟩
            rw [nI_1]
            exact ih (w + 1) (by omega) (by omega) m v (c.cg (by unfold ky; omega) (fun w1 d1 e1 z => by unfold inR at z; unfold ky; omega))
          | succ k2 ih2 =>
            intro d hd m v c
            refine v_X8_peak_63 ⟨fun z => absurd z (nI_ge (b := 7) (by omega) (by decide)), fun _ => ?_⟩
            have key3 : ∀ k3 h, h + k3 = 24 → ∀ m v, RI (gi x 718) S W N (ky w d h) m v → GI mX8_peak 73 [some (.ref 717), some (.int a), some (.int m), some (.int v), some (.int (nI w)), some (.int (nI d)), some (.int (nI h)), none] [] KW x (fun r' z => Pr (gi x 718) S W N a r' ∧ Rel z) := by
              intro k3
              induction k3 with
              | zero =>
                intro h hh m v c
                have : h = 24 := by omega
                subst this
                refine v_X8_peak_73 km ⟨fun _ => ?_, fun z => absurd (Int32.le_refl _) z⟩
                rw [nI_1]
                exact ih2 (d + 1) (by omega) m v (c.cg (by unfold ky; omega) (fun w1 d1 e1 z => by unfold inR at z; unfold ky; omega))
              | succ k3 ih3 =>
                intro h hh m v c
                refine v_X8_peak_73 km ⟨fun z => absurd z (nI_ge (b := 24) (by omega) (by decide)), fun _ => ?_⟩
                have hr : inR N W w d h := ⟨h2, by omega, by omega, by omega⟩
                have u := c.up hS hr
                refine sp_X8_loadBut R.2.1 km1 ht.2.2.1 hS (by omega) ?_
                rw [ldB_nW0 wo_0 S hS, nI_1, i_ky]
                exact ⟨fun z => ih3 (h + 1) (by omega) _ _ (u.1 z), fun z => ih3 (h + 1) (by omega) _ _ (u.2 z)⟩
            exact key3 24 0 (by omega) m v c
        exact key2 7 0 (by omega) m v c
    exact key (W - N) N (by omega) (Nat.le_refl _) _ _ (Or.inl ⟨rfl, rfl, rfl⟩)
  have out : ∀ r, Pr (gi x 718) S W N a r → mSI mX8_peak [.ref 717, .int a] KW x (fun r' z => r = r' ∧ Rel z) := fun r hr => mSI_mono rf (fun r' z w => ⟨hr.uq w.1, w.2⟩)
  refine v_X7_peak_0 k0 R.1.2.1 (ks0 E.1) ?_
  rw [hn.1, hn.2.1, nI_leI (by omega) (by omega)]
  refine ⟨fun z => out _ ⟨fun _ => rfl, fun w => absurd w.1 z, fun w => absurd w.1 z⟩, fun z1 => ⟨fun z2 => ⟨fun z3 => ?_, fun z3 => out _ ⟨fun w => absurd ⟨z1, z2⟩ w, fun _ _ => rfl, fun _ w => by omega⟩⟩, fun z => out _ ⟨fun _ => rfl, fun w => absurd w.2 z, fun w => absurd w.2 z⟩⟩⟩
  have hNW : N < W := by omega
  have key : ∀ k w, w + k = W → N ≤ w → ∀ g p, CI (gi x 718) S W N w 0 g p → GI mX7_peak 54 [some (.ref 0), some (.int a), some (.int (nI g)), some (.int (nI p)), some (.int (nI w)), none, none, none, none] [] KW x (fun r y => mSI mX8_peak [.ref 717, .int a] KW y (fun r' z => r = r' ∧ Rel z)) := by
    intro k
    induction k with
    | zero =>
      intro w h1 h2 g p c
      have : w = W := by omega
      subst this
      have c4 := c.fin hW hNW ws
      exact v_X7_peak_54 k0 R.1.2.1 (ks0 E.1) ⟨fun _ => ⟨fun z => out _ ⟨fun u => absurd ⟨z1, z2⟩ u, fun _ u => by omega, fun _ _ => ⟨g, p, c4, by rw [if_neg z]⟩⟩, fun z => out _ ⟨fun u => absurd ⟨z1, z2⟩ u, fun _ u => by omega, fun _ _ => ⟨g, p, c4, by rw [if_pos z]⟩⟩⟩, fun z => absurd (by rw [hn.1]; exact Int32.le_refl _) z⟩
    | succ k ih =>
      intro w h1 h2 g p c
      refine v_X7_peak_54 k0 R.1.2.1 (ks0 E.1) ⟨fun z => absurd (by rw [hn.1] at z; exact z) (nI_ge (by omega) (by omega)), fun _ => ?_⟩
      have key2 : ∀ k2 s, s + k2 = S → ∀ g p, CI (gi x 718) S W N w s g p → GI mX7_peak 69 [some (.ref 0), some (.int a), some (.int (nI g)), some (.int (nI p)), some (.int (nI w)), some (.int (nI s)), none, none, none] [] KW x (fun r y => mSI mX8_peak [.ref 717, .int a] KW y (fun r' z => r = r' ∧ Rel z)) := by
        intro k2
        induction k2 with
        | zero =>
          intro s hs g p c
          have : s = S := by omega
          subst this
          refine v_X7_peak_69 k0 R.1.2.1 (ks0 E.1) E.2.1.2.2.1 (ks3 E.1) ⟨fun _ => ?_, fun z => absurd (by rw [hn.2.2.1]; exact Int32.le_refl _) z⟩
          rw [nI_1]
          exact ih (w + 1) (by omega) (by omega) g p c.nx
        | succ k2 ih2 =>
          intro s hs g p c
          obtain ⟨q, e1, e2, e3, e4, -, e6⟩ := E.ser (s := s) (by omega)
          obtain ⟨k1, k2', k3, k4⟩ := e6.dh
          refine v_X7_peak_69 k0 R.1.2.1 (ks0 E.1) E.2.1.2.2.1 (ks3 E.1) ⟨fun z => absurd (by rw [hn.2.2.1] at z; exact z) (nI_ge (by omega) (by omega)), fun _ => ⟨vp_in_nI (by omega) (by decide), q, by rw [nI_clamp (by omega)]; exact e1, e2, ?_⟩⟩
          rw [e4, f_bit_tb _ (by omega), nI_1, e3.1 1 (by decide) (by decide), e3.1 2 (by decide) (by decide), k2', k4]
          refine ⟨fun z => ih2 (s + 1) (by omega) g p (c.no z), fun z => sp_X4_loadOf E (by omega) ?_⟩
          rw [ldB_nW0 wo_0 S hS, e3.1 1 (by decide) (by decide), e3.1 2 (by decide) (by decide), k2', k4, i_ky]
          have hl := Lw_le (T := gi x 718) (w := w) (d := sdy (gi x 718) s) (h := shr (gi x 718) s) hS
          have hg : g < 2 ^ 31 ∧ p < 2 ^ 31 := by
            rcases c.1 with ⟨u1, u2⟩ | ⟨-, w1, d1, h1, u1, u2, u3⟩
            · omega
            · have := Lw_le (T := gi x 718) (w := w1) (d := d1) (h := h1) hS
              unfold inR at u1
              unfold ky at u3
              omega
          show (nI g < nI (Lw (gi x 718) S w (sdy (gi x 718) s) (shr (gi x 718) s)) → _) ∧ (¬ nI g < nI (Lw (gi x 718) S w (sdy (gi x 718) s) (shr (gi x 718) s)) → (¬ nI (Lw (gi x 718) S w (sdy (gi x 718) s) (shr (gi x 718) s)) = nI g → _) ∧ (nI (Lw (gi x 718) S w (sdy (gi x 718) s) (shr (gi x 718) s)) = nI g → _ ∧ _))
          have hk : ky w (sdy (gi x 718) s) (shr (gi x 718) s) < 2 ^ 31 := by unfold ky; omega
          rw [nI_ltI hg.1 (by omega), nI_eq (by omega) hg.1, nI_leI hg.2 hk]
          have up := fun g' p' => CI.up (g' := g') (p' := p') c e6 h2 (by omega) (by omega) z
          refine ⟨fun w1 => ih2 (s + 1) (by omega) _ _ (up _ _ (Or.inl ⟨w1, rfl, rfl⟩)), fun w1 => ⟨fun w2 => ih2 (s + 1) (by omega) _ _ (up _ _ (Or.inr (Or.inr ⟨Or.inl (by omega), rfl, rfl⟩))), fun w2 => ⟨fun w3 => ih2 (s + 1) (by omega) _ _ (up _ _ (Or.inr (Or.inr ⟨Or.inr ⟨w2, w3⟩, rfl, rfl⟩))), fun w3 => ?_⟩⟩⟩
          unfold Lw at w2
          rw [w2]
          exact ih2 (s + 1) (by omega) _ _ (up _ _ (Or.inr (Or.inl ⟨w2, by unfold ky at w3 ⊢; omega, rfl, rfl⟩)))
      exact key2 S 0 (by omega) g p c
  have := key (W - N) N (by omega) (Nat.le_refl _) 0 (1000 * N) ⟨Or.inl ⟨rfl, rfl⟩, fun w s i1 i2 i3 i4 i5 => by omega⟩
  rw [show (1000 : Int32) = nI 1000 by decide, pk_mul]
  exact this
end
/-! 44.copy.lean.txt -/
section
theorem bas_cg {T T' : TT} {s : Nat} (h : ∀ k, k < 12 → so T' s k = so T s k) : bas T' s = bas T s := by
  unfold bas
  rw [h 7 (by decide), h 8 (by decide), h 9 (by decide), h 10 (by decide)]
theorem Wse.cg {T T' : TT} {C W s : Nat} (w : Wse T C W s) (h : ∀ k, k < 12 → so T' s k = so T s k) : Wse T' C W s := by
  obtain ⟨w1, w2, w3, w4, w5, w6, w7, w8⟩ := w
  refine ⟨by rw [h 0 (by decide)]; exact w1, by rw [h 1 (by decide)]; exact w2, by rw [h 2 (by decide)]; exact w3, by rw [h 3 (by decide)]; exact w4, by rw [h 4 (by decide)]; exact w5, by rw [h 5 (by decide), h 6 (by decide)]; exact w6, fun i hi k j hk hj a b => w7 i hi k j hk hj (by rw [← h (7 + k) (by omega)]; exact a) (by rw [← h (7 + j) (by omega)]; exact b), fun i k hk a => w8 i k hk (by rw [← h (7 + k) (by omega)]; exact a)⟩
theorem Was.cg {T T' : TT} {C W a : Nat} (w : Was T C W a) (h : ∀ k, k < 7 → ao T' a k = ao T a k) : Was T' C W a := by
  obtain ⟨w1, w2, w3, w4, w5, w6⟩ := w
  exact ⟨by rw [h 0 (by decide)]; exact w1, by rw [h 1 (by decide)]; exact w2, by rw [h 2 (by decide)]; exact w3, by rw [h 3 (by decide)]; exact w4, by rw [h 4 (by decide), h 5 (by decide)]; exact w5, by rw [h 6 (by decide)]; exact w6⟩
theorem SER.cg {x y : Cn} {p s s' : Nat} {T T' : TT} (w : SER x p T s) (hy : ∀ k, k < 12 → gi y p k = gi x p k) (h : ∀ k, k < 12 → so T' s' k = so T s k) : SER y p T' s' := by
  refine ⟨fun k h1 h2 => by rw [hy k h1, h k h1]; exact w.1 k h1 h2, ?_⟩
  unfold bas
  rw [hy 7 (by decide), h 7 (by decide), h 8 (by decide), h 9 (by decide), h 10 (by decide), h 11 (by decide)]
  exact w.2
theorem ASR.cg {x y : Cn} {p a a' : Nat} {T T' : TT} (w : ASR x p T a) (hy : ∀ k, k < 7 → gi y p k = gi x p k) (h : ∀ k, k < 7 → ao T' a' k = ao T a k) : ASR y p T' a' := fun k hk => by rw [hy k hk, h k hk]; exact w k hk
theorem WF.cg {T T' : TT} {W C S A N : Nat} (w : WF T W C S A N) (h : ∀ i, i < 518 → T' i = T i) : WF T' W C S A N := by
  obtain ⟨w1, w2, w3, w4, w5, w6, w7, w8, w9, w10, w11, w12, w13, w14⟩ := w
  exact ⟨by rw [h 0 (by decide)]; exact w1, w2, w3, by rw [h 1 (by decide)]; exact w4, w5, by rw [h 2 (by decide)]; exact w6, w7, by rw [h 3 (by decide)]; exact w8, w9, by rw [h 4 (by decide)]; exact w10, w11, fun i hi => by rw [h (6 + 2 * i) (by omega), h (7 + 2 * i) (by omega)]; exact w12 i hi, fun s hs => (w13 s hs).cg (fun k hk => h _ (by omega)), fun a ha => (w14 a ha).cg (fun k hk => h _ (by omega))⟩
/-- the same season, in another heap and told by another row -/
theorem SEA.mv {x y : Cn} {q : Nat} {T T' : TT} {W C S A N : Nat} (E : SEA x q T W C S A N) (h1 : ∀ a k, q ≤ a → a < q + 54 → gr y a k = gr x a k) (h2 : ∀ a k, q ≤ a → a < q + 54 → a ≠ q + 5 → gi y a k = gi x a k) (hT : ∀ i, i < 518 → T' i = T i) : SEA y q T' W C S A N := by
  obtain ⟨e1, e2, ⟨v0, v1, v2, v3, v4, v5, v6, v7⟩, e4⟩ := E
  have hS : S ≤ 24 := e4.2.2.2.2.2.2.1
  have hA : A ≤ 24 := e4.2.2.2.2.2.2.2.2.1
  have g0 : ∀ k, gr y q k = gr x q k := fun k => h1 q k (by omega) (by omega)
  have g3 : ∀ k, gr y (q + 3) k = gr x (q + 3) k := fun k => h1 (q + 3) k (by omega) (by omega)
  have g4 : ∀ k, gr y (q + 4) k = gr x (q + 4) k := fun k => h1 (q + 4) k (by omega) (by omega)
  have hr := e2
  obtain ⟨r1, r2, r3, r4, r5, r6, r7, r8, r9⟩ := e2
  refine ⟨e1, ?_, ⟨?_, ?_, ?_, ?_, ?_, ?_, ?_, ?_⟩, e4.cg hT⟩
  · unfold SRf at hr ⊢
    simp only [g0, g3, g4]
    exact hr
  · rw [h2 q 0 (by omega) (by omega) (by omega), hT 0 (by decide)]; exact v0
  · rw [h2 q 1 (by omega) (by omega) (by omega), hT 4 (by decide)]; exact v1
  · rw [h2 q 2 (by omega) (by omega) (by omega), hT 5 (by decide)]; exact v2
  · rw [h2 q 3 (by omega) (by omega) (by omega), hT 2 (by decide)]; exact v3
  · rw [h2 q 4 (by omega) (by omega) (by omega), hT 3 (by decide)]; exact v4
  · intro hh h24
    rw [h2 (q + 1) hh (by omega) (by omega) (by omega), h2 (q + 2) hh (by omega) (by omega) (by omega), hT _ (by omega), hT _ (by omega)]
    exact v5 hh h24
  · intro s p hs hp
    rw [g3] at hp
    obtain ⟨j, hj, ej⟩ := r6 s (by omega)
    have hpe : p = q + 6 + j := Option.some.inj (hp.symm.trans ej)
    exact (v6 s p hs hp).cg (fun k _ => h2 p k (by omega) (by omega) (by omega)) (fun k hk => hT _ (by omega))
  · intro s p hs hp
    rw [g4] at hp
    obtain ⟨j, hj, ej⟩ := r8 s (by omega)
    have hpe : p = q + 30 + j := Option.some.inj (hp.symm.trans ej)
    exact (v7 s p hs hp).cg (fun k _ => h2 p k (by omega) (by omega) (by omega)) (fun k hk => hT _ (by omega))
/-- what lies outside a season stays -/
def Frq (x y : Cn) (q : Nat) : Prop := y.2 = x.2 ∧ ∀ a k, ¬ (q ≤ a ∧ a < q + 54) → gi y a k = gi x a k
theorem Frq.rf (x : Cn) (q : Nat) : Frq x x q := ⟨rfl, fun _ _ _ => rfl⟩
theorem Frq.tr {x y z : Cn} {q : Nat} (h : Frq x y q) (g : Frq y z q) : Frq x z q := ⟨g.1.trans h.1, fun a k c => (g.2 a k c).trans (h.2 a k c)⟩
theorem Frq.ui {x y : Cn} {q a k : Nat} {v : Int32} (h : Frq x y q) (c : q ≤ a ∧ a < q + 54) : Frq x (ui y a k v) q := ⟨h.1, fun b j d => by rw [gi_ui, if_neg (fun z => d (by rw [z.1]; exact c))]; exact h.2 b j d⟩
theorem Frq.eqx {x y z : Cn} {q a : Nat} (h : Frq x y q) (g : EQx y z a) (c : q ≤ a ∧ a < q + 54) : Frq x z q := ⟨g.1.trans h.1, fun b j d => (g.2 b j (fun e => d (by rw [e]; exact c))).trans (h.2 b j d)⟩
theorem Frq.rr {x y : Cn} {q : Nat} (h : Frq x y q) (a k : Nat) : gr y a k = gr x a k := by show y.2 a k = x.2 a k; rw [h.1]
theorem Isea.dis {p q : Nat} (hp : Isea p) (hq : Isea q) (h : p ≠ q) : p + 54 ≤ q ∨ q + 54 ≤ p := by
  rcases hp with rfl | rfl | rfl | ⟨i, hi, rfl⟩ <;> rcases hq with rfl | rfl | rfl | ⟨j, hj, rfl⟩ <;> omega
theorem SEA.off {x y : Cn} {p q : Nat} {T : TT} {W C S A N : Nat} (E : SEA x p T W C S A N) (hq : Isea q) (h : p ≠ q) (f : Frq x y q) : SEA y p T W C S A N := by
  have d := Isea.dis E.1 hq h
  exact E.mv (fun a k _ _ => f.rr a k) (fun a k h1 h2 _ => f.2 a k (by omega)) (fun _ _ => rfl)
theorem lt12 {j : Nat} (h : j < 12) : j = 0 ∨ j = 1 ∨ j = 2 ∨ j = 3 ∨ j = 4 ∨ j = 5 ∨ j = 6 ∨ j = 7 ∨ j = 8 ∨ j = 9 ∨ j = 10 ∨ j = 11 := by omega
set_option maxHeartbeats 2000000 in
theorem v_X5_copyFrom_0 {K : Sh} {x : Cn} {Q : Cn → Prop} {b0 : Nat} {b1 : Nat}  (k_b1 : kk K b1 = some (5, 0)) (k_b0 : kk K b0 = some (5, 0)) (K0 : ∀ r_1 : Int32, r_1 = gi (ui (ui x b0 0 (gi x b1 0)) b0 1 (gi (ui x b0 0 (gi x b1 0)) b1 1)) b1 2 → (∀ r_3 : Int32, r_3 = gi (ui (ui (ui x b0 0 (gi x b1 0)) b0 1 (gi (ui x b0 0 (gi x b1 0)) b1 1)) b0 2 r_1) b1 3 → (∀ r_5 : Int32, r_5 = gi (ui (ui (ui (ui x b0 0 (gi x b1 0)) b0 1 (gi (ui x b0 0 (gi x b1 0)) b1 1)) b0 2 r_1) b0 3 r_3) b1 4 → ((r_5 = 0 ∨ r_5 = 1) ∧ (∀ r_8 : Int32, r_8 = gi (ui (ui (ui (ui (ui x b0 0 (gi x b1 0)) b0 1 (gi (ui x b0 0 (gi x b1 0)) b1 1)) b0 2 r_1) b0 3 r_3) b0 4 r_5) b1 5 → (∀ r_10 : Int32, r_10 = gi (ui (ui (ui (ui (ui (ui x b0 0 (gi x b1 0)) b0 1 (gi (ui x b0 0 (gi x b1 0)) b1 1)) b0 2 r_1) b0 3 r_3) b0 4 r_5) b0 5 r_8) b1 6 → (∀ r_12 : Int32, r_12 = gi (ui (ui (ui (ui (ui (ui (ui x b0 0 (gi x b1 0)) b0 1 (gi (ui x b0 0 (gi x b1 0)) b1 1)) b0 2 r_1) b0 3 r_3) b0 4 r_5) b0 5 r_8) b0 6 r_10) b1 7 → (∀ r_14 : Int32, r_14 = gi (ui (ui (ui (ui (ui (ui (ui (ui x b0 0 (gi x b1 0)) b0 1 (gi (ui x b0 0 (gi x b1 0)) b1 1)) b0 2 r_1) b0 3 r_3) b0 4 r_5) b0 5 r_8) b0 6 r_10) b0 7 r_12) b1 8 → (∀ r_16 : Int32, r_16 = gi (ui (ui (ui (ui (ui (ui (ui (ui (ui x b0 0 (gi x b1 0)) b0 1 (gi (ui x b0 0 (gi x b1 0)) b1 1)) b0 2 r_1) b0 3 r_3) b0 4 r_5) b0 5 r_8) b0 6 r_10) b0 7 r_12) b0 8 r_14) b1 9 → (∀ r_18 : Int32, r_18 = gi (ui (ui (ui (ui (ui (ui (ui (ui (ui (ui x b0 0 (gi x b1 0)) b0 1 (gi (ui x b0 0 (gi x b1 0)) b1 1)) b0 2 r_1) b0 3 r_3) b0 4 r_5) b0 5 r_8) b0 6 r_10) b0 7 r_12) b0 8 r_14) b0 9 r_16) b1 10 → (∀ r_20 : Int32, r_20 = gi (ui (ui (ui (ui (ui (ui (ui (ui (ui (ui (ui x b0 0 (gi x b1 0)) b0 1 (gi (ui x b0 0 (gi x b1 0)) b1 1)) b0 2 r_1) b0 3 r_3) b0 4 r_5) b0 5 r_8) b0 6 r_10) b0 7 r_12) b0 8 r_14) b0 9 r_16) b0 10 r_18) b1 11 → (Q (ui (ui (ui (ui (ui (ui (ui (ui (ui (ui (ui (ui x b0 0 (gi x b1 0)) b0 1 (gi (ui x b0 0 (gi x b1 0)) b1 1)) b0 2 r_1) b0 3 r_3) b0 4 r_5) b0 5 r_8) b0 6 r_10) b0 7 r_12) b0 8 r_14) b0 9 r_16) b0 10 r_18) b0 11 r_20))))))))))))) : mSV mX5_copyFrom [.ref b0, .ref b1] K x Q := by
  refine s_V (by decide) (by simp [Value.category]) (Nat.le_of_ble_eq_true rfl) ?_
  show mGM mX5_copyFrom 0 [some (.ref b0), some (.ref b1)] [] (hp K x) (PV K Q)
  refine r_aload_n (pc := 0) dX5_copyFrom_0 rfl ?_
  refine r_aload_n (pc := 1) dX5_copyFrom_1 rfl ?_
  refine s_getI (pc := 2) dX5_copyFrom_2 fl_X5_9 rfl k_b1 ?_
  refine s_putI (pc := 5) dX5_copyFrom_5 fl_X5_9 rfl rfl k_b0 ?_
  refine r_aload_n (pc := 8) dX5_copyFrom_8 rfl ?_
  refine r_aload_n (pc := 9) dX5_copyFrom_9 rfl ?_
  refine s_getI (pc := 10) dX5_copyFrom_10 fl_X5_15 rfl k_b1 ?_
  refine s_putI (pc := 13) dX5_copyFrom_13 fl_X5_15 rfl rfl k_b0 ?_
  refine r_aload_n (pc := 16) dX5_copyFrom_16 rfl ?_
  refine r_aload_n (pc := 17) dX5_copyFrom_17 rfl ?_
  refine s_getI (pc := 18) dX5_copyFrom_18 fl_X5_18 rfl k_b1 ?_
  obtain ⟨r_1, w_2⟩ : ∃ z : Int32, z = gi (ui (ui x b0 0 (gi x b1 0)) b0 1 (gi (ui x b0 0 (gi x b1 0)) b1 1)) b1 2 := ⟨_, rfl⟩
  rw [← w_2]
  have K0 := K0 r_1 w_2
  refine s_putI (pc := 21) dX5_copyFrom_21 fl_X5_18 rfl rfl k_b0 ?_
  refine r_aload_n (pc := 24) dX5_copyFrom_24 rfl ?_
  refine r_aload_n (pc := 25) dX5_copyFrom_25 rfl ?_
  refine s_getI (pc := 26) dX5_copyFrom_26 fl_X5_21 rfl k_b1 ?_
  obtain ⟨r_3, w_4⟩ : ∃ z : Int32, z = gi (ui (ui (ui x b0 0 (gi x b1 0)) b0 1 (gi (ui x b0 0 (gi x b1 0)) b1 1)) b0 2 r_1) b1 3 := ⟨_, rfl⟩
  rw [← w_4]
  have K0 := K0 r_3 w_4
  refine s_putI (pc := 29) dX5_copyFrom_29 fl_X5_21 rfl rfl k_b0 ?_
  refine r_aload_n (pc := 32) dX5_copyFrom_32 rfl ?_
  refine r_aload_n (pc := 33) dX5_copyFrom_33 rfl ?_
  refine s_getI (pc := 34) dX5_copyFrom_34 fl_X5_24 rfl k_b1 ?_
  obtain ⟨r_5, w_6⟩ : ∃ z : Int32, z = gi (ui (ui (ui (ui x b0 0 (gi x b1 0)) b0 1 (gi (ui x b0 0 (gi x b1 0)) b1 1)) b0 2 r_1) b0 3 r_3) b1 4 := ⟨_, rfl⟩
  rw [← w_6]
  have K0 := K0 r_5 w_6
  obtain ⟨p_7, K0⟩ := K0
  refine s_putZ (pc := 37) dX5_copyFrom_37 fl_X5_24 rfl rfl k_b0 p_7 ?_
  refine r_aload_n (pc := 40) dX5_copyFrom_40 rfl ?_
  refine r_aload_n (pc := 41) dX5_copyFrom_41 rfl ?_
  refine s_getI (pc := 42) dX5_copyFrom_42 fl_X5_28 rfl k_b1 ?_
  obtain ⟨r_8, w_9⟩ : ∃ z : Int32, z = gi (ui (ui (ui (ui (ui x b0 0 (gi x b1 0)) b0 1 (gi (ui x b0 0 (gi x b1 0)) b1 1)) b0 2 r_1) b0 3 r_3) b0 4 r_5) b1 5 := ⟨_, rfl⟩
  rw [← w_9]
  have K0 := K0 r_8 w_9
  refine s_putI (pc := 45) dX5_copyFrom_45 fl_X5_28 rfl rfl k_b0 ?_
  refine r_aload_n (pc := 48) dX5_copyFrom_48 rfl ?_
  refine r_aload_n (pc := 49) dX5_copyFrom_49 rfl ?_
  refine s_getI (pc := 50) dX5_copyFrom_50 fl_X5_31 rfl k_b1 ?_
  obtain ⟨r_10, w_11⟩ : ∃ z : Int32, z = gi (ui (ui (ui (ui (ui (ui x b0 0 (gi x b1 0)) b0 1 (gi (ui x b0 0 (gi x b1 0)) b1 1)) b0 2 r_1) b0 3 r_3) b0 4 r_5) b0 5 r_8) b1 6 := ⟨_, rfl⟩
  rw [← w_11]
  have K0 := K0 r_10 w_11
  refine s_putI (pc := 53) dX5_copyFrom_53 fl_X5_31 rfl rfl k_b0 ?_
  refine r_aload_n (pc := 56) dX5_copyFrom_56 rfl ?_
  refine r_aload_n (pc := 57) dX5_copyFrom_57 rfl ?_
  refine s_getI (pc := 58) dX5_copyFrom_58 fl_X5_34 rfl k_b1 ?_
  obtain ⟨r_12, w_13⟩ : ∃ z : Int32, z = gi (ui (ui (ui (ui (ui (ui (ui x b0 0 (gi x b1 0)) b0 1 (gi (ui x b0 0 (gi x b1 0)) b1 1)) b0 2 r_1) b0 3 r_3) b0 4 r_5) b0 5 r_8) b0 6 r_10) b1 7 := ⟨_, rfl⟩
  rw [← w_13]
  have K0 := K0 r_12 w_13
  refine s_putI (pc := 61) dX5_copyFrom_61 fl_X5_34 rfl rfl k_b0 ?_
  refine r_aload_n (pc := 64) dX5_copyFrom_64 rfl ?_
  refine r_aload_n (pc := 65) dX5_copyFrom_65 rfl ?_
  refine s_getI (pc := 66) dX5_copyFrom_66 fl_X5_37 rfl k_b1 ?_
  obtain ⟨r_14, w_15⟩ : ∃ z : Int32, z = gi (ui (ui (ui (ui (ui (ui (ui (ui x b0 0 (gi x b1 0)) b0 1 (gi (ui x b0 0 (gi x b1 0)) b1 1)) b0 2 r_1) b0 3 r_3) b0 4 r_5) b0 5 r_8) b0 6 r_10) b0 7 r_12) b1 8 := ⟨_, rfl⟩
  rw [← w_15]
  have K0 := K0 r_14 w_15
  refine s_putI (pc := 69) dX5_copyFrom_69 fl_X5_37 rfl rfl k_b0 ?_
  refine r_aload_n (pc := 72) dX5_copyFrom_72 rfl ?_
  refine r_aload_n (pc := 73) dX5_copyFrom_73 rfl ?_
  refine s_getI (pc := 74) dX5_copyFrom_74 fl_X5_40 rfl k_b1 ?_
  obtain ⟨r_16, w_17⟩ : ∃ z : Int32, z = gi (ui (ui (ui (ui (ui (ui (ui (ui (ui x b0 0 (gi x b1 0)) b0 1 (gi (ui x b0 0 (gi x b1 0)) b1 1)) b0 2 r_1) b0 3 r_3) b0 4 r_5) b0 5 r_8) b0 6 r_10) b0 7 r_12) b0 8 r_14) b1 9 := ⟨_, rfl⟩
  rw [← w_17]
  have K0 := K0 r_16 w_17
  refine s_putI (pc := 77) dX5_copyFrom_77 fl_X5_40 rfl rfl k_b0 ?_
  refine r_aload_n (pc := 80) dX5_copyFrom_80 rfl ?_
  refine r_aload_n (pc := 81) dX5_copyFrom_81 rfl ?_
  refine s_getI (pc := 82) dX5_copyFrom_82 fl_X5_43 rfl k_b1 ?_
  obtain ⟨r_18, w_19⟩ : ∃ z : Int32, z = gi (ui (ui (ui (ui (ui (ui (ui (ui (ui (ui x b0 0 (gi x b1 0)) b0 1 (gi (ui x b0 0 (gi x b1 0)) b1 1)) b0 2 r_1) b0 3 r_3) b0 4 r_5) b0 5 r_8) b0 6 r_10) b0 7 r_12) b0 8 r_14) b0 9 r_16) b1 10 := ⟨_, rfl⟩
  rw [← w_19]
  have K0 := K0 r_18 w_19
  refine s_putI (pc := 85) dX5_copyFrom_85 fl_X5_43 rfl rfl k_b0 ?_
  refine r_aload_n (pc := 88) dX5_copyFrom_88 rfl ?_
  refine r_aload_n (pc := 89) dX5_copyFrom_89 rfl ?_
  refine s_getI (pc := 90) dX5_copyFrom_90 fl_X5_46 rfl k_b1 ?_
  obtain ⟨r_20, w_21⟩ : ∃ z : Int32, z = gi (ui (ui (ui (ui (ui (ui (ui (ui (ui (ui (ui x b0 0 (gi x b1 0)) b0 1 (gi (ui x b0 0 (gi x b1 0)) b1 1)) b0 2 r_1) b0 3 r_3) b0 4 r_5) b0 5 r_8) b0 6 r_10) b0 7 r_12) b0 8 r_14) b0 9 r_16) b0 10 r_18) b1 11 := ⟨_, rfl⟩
  rw [← w_21]
  have K0 := K0 r_20 w_21
  refine s_putI (pc := 93) dX5_copyFrom_93 fl_X5_46 rfl rfl k_b0 ?_
  exact s_ret rfl dX5_copyFrom_96 K0
section
theorem sp_X5_copyFrom {x : Cn} {Q : Cn → Prop} {a b : Nat} (ha : kk KW a = some (5, 0)) (hb : kk KW b = some (5, 0)) (hne : b ≠ a) (h4 : gi x b 4 = 0 ∨ gi x b 4 = 1) (k : ∀ y, EQx x y a → (∀ j, j < 12 → gi y a j = gi x b j) → Q y) : mSV mX5_copyFrom [.ref a, .ref b] KW x Q := by
  refine v_X5_copyFrom_0 hb ha ?_
  intro r1 e1 r2 e2 r3 e3
  simp only [gi_ui, hne, false_and, if_false] at e1 e2 e3
  refine ⟨by rw [e3]; exact h4, ?_⟩
  intro r4 e4 r5 e5 r6 e6 r7 e7 r8 e8 r9 e9 r10 e10
  simp only [gi_ui, hne, false_and, if_false] at e4 e5 e6 e7 e8 e9 e10
  refine k _ ⟨rfl, fun c j hc => ?_⟩ (fun j hj => ?_)
  · simp only [gi_ui, hc, false_and, if_false]
  · rcases lt12 hj with rfl | rfl | rfl | rfl | rfl | rfl | rfl | rfl | rfl | rfl | rfl | rfl <;> simp [gi_ui, hne, e1, e2, e3, e4, e5, e6, e7, e8, e9, e10]
theorem lt7 {j : Nat} (h : j < 7) : j = 0 ∨ j = 1 ∨ j = 2 ∨ j = 3 ∨ j = 4 ∨ j = 5 ∨ j = 6 := by omega
end
set_option maxHeartbeats 2000000 in
theorem v_X0_placeAt_0 {K : Sh} {x : Cn} {Q : Cn → Prop} {b0 : Nat} {l1 : Int32} {l2 : Int32} {l3 : Int32} {l4 : Int32}  (k_b0 : kk K b0 = some (0, 0)) (K0 : Q (ui (ui (ui (ui x b0 0 l1) b0 1 l2) b0 2 l3) b0 3 l4)) : mSV mX0_placeAt [.ref b0, .int l1, .int l2, .int l3, .int l4] K x Q := by
  refine s_V (by decide) (by simp [Value.category]) (Nat.le_of_ble_eq_true rfl) ?_
  show mGM mX0_placeAt 0 [some (.ref b0), some (.int l1), some (.int l2), some (.int l3), some (.int l4)] [] (hp K x) (PV K Q)
  refine r_aload_n (pc := 0) dX0_placeAt_0 rfl ?_
  refine r_iload_n (pc := 1) dX0_placeAt_1 rfl ?_
  refine s_putI (pc := 2) dX0_placeAt_2 fl_X0_7 rfl rfl k_b0 ?_
  refine r_aload_n (pc := 5) dX0_placeAt_5 rfl ?_
  refine r_iload_n (pc := 6) dX0_placeAt_6 rfl ?_
  refine s_putI (pc := 7) dX0_placeAt_7 fl_X0_13 rfl rfl k_b0 ?_
  refine r_aload_n (pc := 10) dX0_placeAt_10 rfl ?_
  refine r_iload_n (pc := 11) dX0_placeAt_11 rfl ?_
  refine s_putI (pc := 12) dX0_placeAt_12 fl_X0_16 rfl rfl k_b0 ?_
  refine r_aload_n (pc := 15) dX0_placeAt_15 rfl ?_
  refine r_iload (pc := 16) dX0_placeAt_16 rfl ?_
  refine s_putI (pc := 18) dX0_placeAt_18 fl_X0_19 rfl rfl k_b0 ?_
  exact s_ret rfl dX0_placeAt_21 K0
set_option maxHeartbeats 2000000 in
theorem v_X0_span_0 {K : Sh} {x : Cn} {Q : Cn → Prop} {b0 : Nat} {l1 : Int32} {l2 : Int32} {l3 : Int32}  (k_b0 : kk K b0 = some (0, 0)) (K0 : Q (ui (ui (ui x b0 4 l1) b0 5 l2) b0 6 l3)) : mSV mX0_span [.ref b0, .int l1, .int l2, .int l3] K x Q := by
  refine s_V (by decide) (by simp [Value.category]) (Nat.le_of_ble_eq_true rfl) ?_
  show mGM mX0_span 0 [some (.ref b0), some (.int l1), some (.int l2), some (.int l3)] [] (hp K x) (PV K Q)
  refine r_aload_n (pc := 0) dX0_span_0 rfl ?_
  refine r_iload_n (pc := 1) dX0_span_1 rfl ?_
  refine s_putI (pc := 2) dX0_span_2 fl_X0_22 rfl rfl k_b0 ?_
  refine r_aload_n (pc := 5) dX0_span_5 rfl ?_
  refine r_iload_n (pc := 6) dX0_span_6 rfl ?_
  refine s_putI (pc := 7) dX0_span_7 fl_X0_25 rfl rfl k_b0 ?_
  refine r_aload_n (pc := 10) dX0_span_10 rfl ?_
  refine r_iload_n (pc := 11) dX0_span_11 rfl ?_
  refine s_putI (pc := 12) dX0_span_12 fl_X0_28 rfl rfl k_b0 ?_
  exact s_ret rfl dX0_span_15 K0
set_option maxHeartbeats 2000000 in
theorem v_X0_copyFrom_0 {K : Sh} {x : Cn} {Q : Cn → Prop} {b0 : Nat} {b1 : Nat}  (k_b1 : kk K b1 = some (0, 0)) (k_b0 : kk K b0 = some (0, 0)) (K0 : mSV mX0_placeAt [.ref b0, .int (gi x b1 0), .int (gi x b1 1), .int (gi x b1 2), .int (gi x b1 3)] K x (fun y_1 => mSV mX0_span [.ref b0, .int (gi y_1 b1 4), .int (gi y_1 b1 5), .int (gi y_1 b1 6)] K y_1 (fun y_2 => Q y_2))) : mSV mX0_copyFrom [.ref b0, .ref b1] K x Q := by
  refine s_V (by decide) (by simp [Value.category]) (Nat.le_of_ble_eq_true rfl) ?_
  show mGM mX0_copyFrom 0 [some (.ref b0), some (.ref b1)] [] (hp K x) (PV K Q)
  refine r_aload_n (pc := 0) dX0_copyFrom_0 rfl ?_
  refine r_aload_n (pc := 1) dX0_copyFrom_1 rfl ?_
  refine s_getI (pc := 2) dX0_copyFrom_2 fl_X0_7 rfl k_b1 ?_
  refine r_aload_n (pc := 5) dX0_copyFrom_5 rfl ?_
  refine s_getI (pc := 6) dX0_copyFrom_6 fl_X0_13 rfl k_b1 ?_
  refine r_aload_n (pc := 9) dX0_copyFrom_9 rfl ?_
  refine s_getI (pc := 10) dX0_copyFrom_10 fl_X0_16 rfl k_b1 ?_
  refine r_aload_n (pc := 13) dX0_copyFrom_13 rfl ?_
  refine s_getI (pc := 14) dX0_copyFrom_14 fl_X0_19 rfl k_b1 ?_
  refine s_VV (pc := 17) mX0_placeAt (ci := 0) (a := b0) (As := [.int (gi x b1 0), .int (gi x b1 1), .int (gi x b1 2), .int (gi x b1 3)]) dX0_copyFrom_17 lk_X0_31 in_X0_placeAt mo_X0_placeAt ⟨by decide, rfl⟩ ⟨by decide, by decide⟩ (Nat.le_of_ble_eq_true rfl) k_b0 (mSV_mono K0 (fun y_1 K0 => ?_))
  refine r_aload_n (pc := 20) dX0_copyFrom_20 rfl ?_
  refine r_aload_n (pc := 21) dX0_copyFrom_21 rfl ?_
  refine s_getI (pc := 22) dX0_copyFrom_22 fl_X0_22 rfl k_b1 ?_
  refine r_aload_n (pc := 25) dX0_copyFrom_25 rfl ?_
  refine s_getI (pc := 26) dX0_copyFrom_26 fl_X0_25 rfl k_b1 ?_
  refine r_aload_n (pc := 29) dX0_copyFrom_29 rfl ?_
  refine s_getI (pc := 30) dX0_copyFrom_30 fl_X0_28 rfl k_b1 ?_
  refine s_VV (pc := 33) mX0_span (ci := 0) (a := b0) (As := [.int (gi y_1 b1 4), .int (gi y_1 b1 5), .int (gi y_1 b1 6)]) dX0_copyFrom_33 lk_X0_35 in_X0_span mo_X0_span ⟨by decide, rfl⟩ ⟨by decide, by decide⟩ (Nat.le_of_ble_eq_true rfl) k_b0 (mSV_mono K0 (fun y_2 K0 => ?_))
  exact s_ret rfl dX0_copyFrom_36 K0
section
theorem sp_X0_copyFrom {x : Cn} {Q : Cn → Prop} {a b : Nat} (ha : kk KW a = some (0, 0)) (hb : kk KW b = some (0, 0)) (hne : b ≠ a) (k : ∀ y, EQx x y a → (∀ j, j < 7 → gi y a j = gi x b j) → Q y) : mSV mX0_copyFrom [.ref a, .ref b] KW x Q := by
  refine v_X0_copyFrom_0 hb ha (v_X0_placeAt_0 ha (v_X0_span_0 ha (k _ ⟨rfl, fun c j hc => ?_⟩ (fun j hj => ?_))))
  · simp only [gi_ui, hc, false_and, if_false]
  · rcases lt7 hj with rfl | rfl | rfl | rfl | rfl | rfl | rfl <;> simp [gi_ui, hne]
def Hd (x : Cn) (q : Nat) (T : TT) : Prop := gi x q 0 = T 0 ∧ gi x q 1 = T 4 ∧ gi x q 2 = T 5 ∧ gi x q 3 = T 2 ∧ gi x q 4 = T 3
def Lim (x : Cn) (q : Nat) (T : TT) (n : Nat) : Prop := ∀ h, h < n → gi x (q + 1) h = T (6 + 2 * h) ∧ gi x (q + 2) h = T (7 + 2 * h)
def Sln (x : Cn) (q : Nat) (T : TT) (n : Nat) : Prop := ∀ s p, s < n → gr x (q + 3) s = some p → SER x p T s
def Aln (x : Cn) (q : Nat) (T : TT) (n : Nat) : Prop := ∀ s p, s < n → gr x (q + 4) s = some p → ASR x p T s
end
set_option maxHeartbeats 2000000 in
theorem v_X4_copyFrom_0 {K : Sh} {x : Cn} {Q : Cn → Prop} {b0 : Nat} {b1 : Nat}  (k_b1 : kk K b1 = some (4, 0)) (k_b0 : kk K b0 = some (4, 0)) (K0 : ∀ r_1 : Int32, r_1 = gi (ui (ui x b0 0 (gi x b1 0)) b0 1 (gi (ui x b0 0 (gi x b1 0)) b1 1)) b1 2 → (∀ r_3 : Int32, r_3 = gi (ui (ui (ui x b0 0 (gi x b1 0)) b0 1 (gi (ui x b0 0 (gi x b1 0)) b1 1)) b0 2 r_1) b1 3 → (∀ r_5 : Int32, r_5 = gi (ui (ui (ui (ui x b0 0 (gi x b1 0)) b0 1 (gi (ui x b0 0 (gi x b1 0)) b1 1)) b0 2 r_1) b0 3 r_3) b1 4 → (GV mX4_copyFrom 42 [some (.ref b0), some (.ref b1), some (.int 0)] [] K (ui (ui (ui (ui (ui x b0 0 (gi x b1 0)) b0 1 (gi (ui x b0 0 (gi x b1 0)) b1 1)) b0 2 r_1) b0 3 r_3) b0 4 r_5) Q)))) : mSV mX4_copyFrom [.ref b0, .ref b1] K x Q := by
  refine s_V (by decide) (by simp [Value.category]) (Nat.le_of_ble_eq_true rfl) ?_
  show mGM mX4_copyFrom 0 [some (.ref b0), some (.ref b1), none] [] (hp K x) (PV K Q)
  refine r_aload_n (pc := 0) dX4_copyFrom_0 rfl ?_
  refine r_aload_n (pc := 1) dX4_copyFrom_1 rfl ?_
  refine s_getI (pc := 2) dX4_copyFrom_2 fl_X4_9 rfl k_b1 ?_
  refine s_putI (pc := 5) dX4_copyFrom_5 fl_X4_9 rfl rfl k_b0 ?_
  refine r_aload_n (pc := 8) dX4_copyFrom_8 rfl ?_
  refine r_aload_n (pc := 9) dX4_copyFrom_9 rfl ?_
  refine s_getI (pc := 10) dX4_copyFrom_10 fl_X4_15 rfl k_b1 ?_
  refine s_putI (pc := 13) dX4_copyFrom_13 fl_X4_15 rfl rfl k_b0 ?_
  refine r_aload_n (pc := 16) dX4_copyFrom_16 rfl ?_
  refine r_aload_n (pc := 17) dX4_copyFrom_17 rfl ?_
  refine s_getI (pc := 18) dX4_copyFrom_18 fl_X4_18 rfl k_b1 ?_
  obtain ⟨r_1, w_2⟩ : ∃ z : Int32, z = gi (ui (ui x b0 0 (gi x b1 0)) b0 1 (gi (ui x b0 0 (gi x b1 0)) b1 1)) b1 2 := ⟨_, rfl⟩
  rw [← w_2]
  have K0 := K0 r_1 w_2
  refine s_putI (pc := 21) dX4_copyFrom_21 fl_X4_18 rfl rfl k_b0 ?_
  refine r_aload_n (pc := 24) dX4_copyFrom_24 rfl ?_
  refine r_aload_n (pc := 25) dX4_copyFrom_25 rfl ?_
  refine s_getI (pc := 26) dX4_copyFrom_26 fl_X4_21 rfl k_b1 ?_
  obtain ⟨r_3, w_4⟩ : ∃ z : Int32, z = gi (ui (ui (ui x b0 0 (gi x b1 0)) b0 1 (gi (ui x b0 0 (gi x b1 0)) b1 1)) b0 2 r_1) b1 3 := ⟨_, rfl⟩
  rw [← w_4]
  have K0 := K0 r_3 w_4
  refine s_putI (pc := 29) dX4_copyFrom_29 fl_X4_21 rfl rfl k_b0 ?_
  refine r_aload_n (pc := 32) dX4_copyFrom_32 rfl ?_
  refine r_aload_n (pc := 33) dX4_copyFrom_33 rfl ?_
  refine s_getI (pc := 34) dX4_copyFrom_34 fl_X4_24 rfl k_b1 ?_
  obtain ⟨r_5, w_6⟩ : ∃ z : Int32, z = gi (ui (ui (ui (ui x b0 0 (gi x b1 0)) b0 1 (gi (ui x b0 0 (gi x b1 0)) b1 1)) b0 2 r_1) b0 3 r_3) b1 4 := ⟨_, rfl⟩
  rw [← w_6]
  have K0 := K0 r_5 w_6
  refine s_putI (pc := 37) dX4_copyFrom_37 fl_X4_24 rfl rfl k_b0 ?_
  refine r_iconst (pc := 40) (v := 0) dX4_copyFrom_40 (by decide) ?_
  refine r_istore_n (pc := 41) dX4_copyFrom_41 (by decide) ?_
  exact r_le (L' := [some (.ref b0), some (.ref b1), some (.int 0)]) ⟨rfl, ⟨rfl, ⟨rfl, trivial⟩⟩⟩ K0
set_option maxHeartbeats 2000000 in
theorem v_X4_copyFrom_42 {K : Sh} {x : Cn} {Q : Cn → Prop} {b0 : Nat} {b1 : Nat} {l2 : Int32} {b0_5 : Nat} {b1_5 : Nat} {n_b1_5 : Nat} {n_b0_5 : Nat} {b0_6 : Nat} {b1_6 : Nat} {n_b1_6 : Nat} {n_b0_6 : Nat} (k_b0 : kk K b0 = some (4, 0)) (g_b0_5 : gr x b0 5 = some b0_5) (k_b1 : kk K b1 = some (4, 0)) (g_b1_5 : gr x b1 5 = some b1_5) (k_b1_5 : kk K b1_5 = some (20, n_b1_5)) (k_b0_5 : kk K b0_5 = some (20, n_b0_5)) (g_b0_6 : gr x b0 6 = some b0_6) (g_b1_6 : gr x b1 6 = some b1_6) (k_b1_6 : kk K b1_6 = some (20, n_b1_6)) (k_b0_6 : kk K b0_6 = some (20, n_b0_6)) (K0 : (24 ≤ l2 → (GV mX4_copyFrom 80 [some (.ref b0), some (.ref b1), some (.int 0)] [] K x Q)) ∧ (¬ 24 ≤ l2 → (vp_in l2 n_b1_5 ∧ (vp_in l2 n_b0_5 ∧ (vp_in l2 n_b1_6 ∧ (vp_in l2 n_b0_6 ∧ (GV mX4_copyFrom 42 [some (.ref b0), some (.ref b1), some (.int (l2 + 1))] [] K (ui (ui x b0_5 (l2 : Int32).toNatClampNeg (gi x b1_5 (l2 : Int32).toNatClampNeg)) b0_6 (l2 : Int32).toNatClampNeg (gi (ui x b0_5 (l2 : Int32).toNatClampNeg (gi x b1_5 (l2 : Int32).toNatClampNeg)) b1_6 (l2 : Int32).toNatClampNeg)) Q))))))) : GV mX4_copyFrom 42 [some (.ref b0), some (.ref b1), some (.int l2)] [] K x Q := by
  show mGM mX4_copyFrom 42 [some (.ref b0), some (.ref b1), some (.int l2)] [] (hp K x) (PV K Q)
  refine r_iload_n (pc := 42) dX4_copyFrom_42 rfl ?_
  refine r_bipush (pc := 43) (v := 24) dX4_copyFrom_43 (by decide) ?_
  refine r_icmp_ge (pc := 45) (tgt := 78) dX4_copyFrom_45 (by decide) (fun q => ?_) (fun q => ?_)
  · have K0 := K0.1 q
    refine r_iconst (pc := 78) (v := 0) dX4_copyFrom_78 (by decide) ?_
    refine r_istore_n (pc := 79) dX4_copyFrom_79 (by decide) ?_
    exact r_le (L' := [some (.ref b0), some (.ref b1), some (.int 0)]) ⟨rfl, ⟨rfl, ⟨rfl, trivial⟩⟩⟩ K0
  · have K0 := K0.2 q
    refine r_aload_n (pc := 48) dX4_copyFrom_48 rfl ?_
    refine s_getR (pc := 49) dX4_copyFrom_49 fl_X4_27 rfl k_b0 g_b0_5 ?_
    refine r_iload_n (pc := 52) dX4_copyFrom_52 rfl ?_
    refine r_aload_n (pc := 53) dX4_copyFrom_53 rfl ?_
    refine s_getR (pc := 54) dX4_copyFrom_54 fl_X4_27 rfl k_b1 g_b1_5 ?_
    refine r_iload_n (pc := 57) dX4_copyFrom_57 rfl ?_
    obtain ⟨i_2, K0⟩ := K0
    refine s_iald (pc := 58) dX4_copyFrom_58 k_b1_5 i_2 ?_
    obtain ⟨i_3, K0⟩ := K0
    refine s_iast (pc := 59) dX4_copyFrom_59 k_b0_5 i_3 ?_
    refine r_aload_n (pc := 60) dX4_copyFrom_60 rfl ?_
    refine s_getR (pc := 61) dX4_copyFrom_61 fl_X4_31 rfl k_b0 g_b0_6 ?_
    refine r_iload_n (pc := 64) dX4_copyFrom_64 rfl ?_
    refine r_aload_n (pc := 65) dX4_copyFrom_65 rfl ?_
    refine s_getR (pc := 66) dX4_copyFrom_66 fl_X4_31 rfl k_b1 g_b1_6 ?_
    refine r_iload_n (pc := 69) dX4_copyFrom_69 rfl ?_
    obtain ⟨i_4, K0⟩ := K0
    refine s_iald (pc := 70) dX4_copyFrom_70 k_b1_6 i_4 ?_
    obtain ⟨i_5, K0⟩ := K0
    refine s_iast (pc := 71) dX4_copyFrom_71 k_b0_6 i_5 ?_
    refine r_iinc (pc := 72) (v := l2 + 1) dX4_copyFrom_72 rfl rfl (by decide) ?_
    refine r_goto (pc := 75) (L := [some (.ref b0), some (.ref b1), some (.int (l2 + 1))]) (tgt := 42) dX4_copyFrom_75 (by decide) ?_
    exact r_le (L' := [some (.ref b0), some (.ref b1), some (.int (l2 + 1))]) ⟨rfl, ⟨rfl, ⟨rfl, trivial⟩⟩⟩ K0
set_option maxHeartbeats 2000000 in
theorem v_X4_copyFrom_80 {K : Sh} {x : Cn} {Q : Cn → Prop} {b0 : Nat} {b1 : Nat} {l2 : Int32} {b0_7 : Nat} {n_b0_7 : Nat} {b1_7 : Nat} {n_b1_7 : Nat} (k_b0 : kk K b0 = some (4, 0)) (g_b0_7 : gr x b0 7 = some b0_7) (k_b0_7 : kk K b0_7 = some (23, n_b0_7)) (k_b1 : kk K b1 = some (4, 0)) (g_b1_7 : gr x b1 7 = some b1_7) (k_b1_7 : kk K b1_7 = some (23, n_b1_7)) (K0 : ((gi x b0 3) ≤ l2 → (GV mX4_copyFrom 111 [some (.ref b0), some (.ref b1), some (.int 0)] [] K x Q)) ∧ (¬ (gi x b0 3) ≤ l2 → (vp_in l2 n_b0_7 ∧ (∃ c_3 : Nat, gr x b0_7 ((l2 : Int32).toNatClampNeg) = some c_3 ∧ (vp_in l2 n_b1_7 ∧ (∃ c_6 : Nat, gr x b1_7 ((l2 : Int32).toNatClampNeg) = some c_6 ∧ (kk K c_3 = some (5, 0) ∧ (mSV mX5_copyFrom [.ref c_3, .ref c_6] K x (fun y_9 => GV mX4_copyFrom 80 [some (.ref b0), some (.ref b1), some (.int (l2 + 1))] [] K y_9 Q))))))))) : GV mX4_copyFrom 80 [some (.ref b0), some (.ref b1), some (.int l2)] [] K x Q := by
  show mGM mX4_copyFrom 80 [some (.ref b0), some (.ref b1), some (.int l2)] [] (hp K x) (PV K Q)
  refine r_iload_n (pc := 80) dX4_copyFrom_80 rfl ?_
  refine r_aload_n (pc := 81) dX4_copyFrom_81 rfl ?_
  refine s_getI (pc := 82) dX4_copyFrom_82 fl_X4_21 rfl k_b0 ?_
  refine r_icmp_ge (pc := 85) (tgt := 109) dX4_copyFrom_85 (by decide) (fun q => ?_) (fun q => ?_)
  · have K0 := K0.1 q
    refine r_iconst (pc := 109) (v := 0) dX4_copyFrom_109 (by decide) ?_
    refine r_istore_n (pc := 110) dX4_copyFrom_110 (by decide) ?_
    exact r_le (L' := [some (.ref b0), some (.ref b1), some (.int 0)]) ⟨rfl, ⟨rfl, ⟨rfl, trivial⟩⟩⟩ K0
  · have K0 := K0.2 q
    refine r_aload_n (pc := 88) dX4_copyFrom_88 rfl ?_
    refine s_getR (pc := 89) dX4_copyFrom_89 fl_X4_36 rfl k_b0 g_b0_7 ?_
    refine r_iload_n (pc := 92) dX4_copyFrom_92 rfl ?_
    obtain ⟨i_2, K0⟩ := K0
    obtain ⟨c_3, g_4, K0⟩ := K0
    refine s_aald (pc := 93) dX4_copyFrom_93 (by decide) rfl k_b0_7 i_2 g_4 ?_
    refine r_aload_n (pc := 94) dX4_copyFrom_94 rfl ?_
    refine s_getR (pc := 95) dX4_copyFrom_95 fl_X4_36 rfl k_b1 g_b1_7 ?_
    refine r_iload_n (pc := 98) dX4_copyFrom_98 rfl ?_
    obtain ⟨i_5, K0⟩ := K0
    obtain ⟨c_6, g_7, K0⟩ := K0
    refine s_aald (pc := 99) dX4_copyFrom_99 (by decide) rfl k_b1_7 i_5 g_7 ?_
    obtain ⟨e_8, K0⟩ := K0
    refine s_VV (pc := 100) mX5_copyFrom (ci := 5) (a := c_3) (As := [.ref c_6]) dX4_copyFrom_100 lk_X4_51 in_X5_copyFrom mo_X5_copyFrom ⟨by decide, rfl⟩ ⟨by decide, by decide⟩ (Nat.le_of_ble_eq_true rfl) e_8 (mSV_mono K0 (fun y_9 K0 => ?_))
    refine r_iinc (pc := 103) (v := l2 + 1) dX4_copyFrom_103 rfl rfl (by decide) ?_
    refine r_goto (pc := 106) (L := [some (.ref b0), some (.ref b1), some (.int (l2 + 1))]) (tgt := 80) dX4_copyFrom_106 (by decide) ?_
    exact r_le (L' := [some (.ref b0), some (.ref b1), some (.int (l2 + 1))]) ⟨rfl, ⟨rfl, ⟨rfl, trivial⟩⟩⟩ K0
set_option maxHeartbeats 2000000 in
theorem v_X4_copyFrom_111 {K : Sh} {x : Cn} {Q : Cn → Prop} {b0 : Nat} {b1 : Nat} {l2 : Int32} {b0_8 : Nat} {n_b0_8 : Nat} {b1_8 : Nat} {n_b1_8 : Nat} (k_b0 : kk K b0 = some (4, 0)) (g_b0_8 : gr x b0 8 = some b0_8) (k_b0_8 : kk K b0_8 = some (24, n_b0_8)) (k_b1 : kk K b1 = some (4, 0)) (g_b1_8 : gr x b1 8 = some b1_8) (k_b1_8 : kk K b1_8 = some (24, n_b1_8)) (K0 : ((gi x b0 4) ≤ l2 → (Q x)) ∧ (¬ (gi x b0 4) ≤ l2 → (vp_in l2 n_b0_8 ∧ (∃ c_3 : Nat, gr x b0_8 ((l2 : Int32).toNatClampNeg) = some c_3 ∧ (vp_in l2 n_b1_8 ∧ (∃ c_6 : Nat, gr x b1_8 ((l2 : Int32).toNatClampNeg) = some c_6 ∧ (kk K c_3 = some (0, 0) ∧ (mSV mX0_copyFrom [.ref c_3, .ref c_6] K x (fun y_9 => GV mX4_copyFrom 111 [some (.ref b0), some (.ref b1), some (.int (l2 + 1))] [] K y_9 Q))))))))) : GV mX4_copyFrom 111 [some (.ref b0), some (.ref b1), some (.int l2)] [] K x Q := by
  show mGM mX4_copyFrom 111 [some (.ref b0), some (.ref b1), some (.int l2)] [] (hp K x) (PV K Q)
  refine r_iload_n (pc := 111) dX4_copyFrom_111 rfl ?_
  refine r_aload_n (pc := 112) dX4_copyFrom_112 rfl ?_
  refine s_getI (pc := 113) dX4_copyFrom_113 fl_X4_24 rfl k_b0 ?_
  refine r_icmp_ge (pc := 116) (tgt := 140) dX4_copyFrom_116 (by decide) (fun q => ?_) (fun q => ?_)
  · have K0 := K0.1 q
    exact s_ret rfl dX4_copyFrom_140 K0
  · have K0 := K0.2 q
    refine r_aload_n (pc := 119) dX4_copyFrom_119 rfl ?_
    refine s_getR (pc := 120) dX4_copyFrom_120 fl_X4_42 rfl k_b0 g_b0_8 ?_
    refine r_iload_n (pc := 123) dX4_copyFrom_123 rfl ?_
    obtain ⟨i_2, K0⟩ := K0
    obtain ⟨c_3, g_4, K0⟩ := K0
    refine s_aald (pc := 124) dX4_copyFrom_124 (by decide) rfl k_b0_8 i_2 g_4 ?_
    refine r_aload_n (pc := 125) dX4_copyFrom_125 rfl ?_
    refine s_getR (pc := 126) dX4_copyFrom_126 fl_X4_42 rfl k_b1 g_b1_8 ?_
    refine r_iload_n (pc := 129) dX4_copyFrom_129 rfl ?_
    obtain ⟨i_5, K0⟩ := K0
    obtain ⟨c_6, g_7, K0⟩ := K0
    refine s_aald (pc := 130) dX4_copyFrom_130 (by decide) rfl k_b1_8 i_5 g_7 ?_
    obtain ⟨e_8, K0⟩ := K0
    refine s_VV (pc := 131) mX0_copyFrom (ci := 0) (a := c_3) (As := [.ref c_6]) dX4_copyFrom_131 lk_X4_55 in_X0_copyFrom mo_X0_copyFrom ⟨by decide, rfl⟩ ⟨by decide, by decide⟩ (Nat.le_of_ble_eq_true rfl) e_8 (mSV_mono K0 (fun y_9 K0 => ?_))
    refine r_iinc (pc := 134) (v := l2 + 1) dX4_copyFrom_134 rfl rfl (by decide) ?_
    refine r_goto (pc := 137) (L := [some (.ref b0), some (.ref b1), some (.int (l2 + 1))]) (tgt := 111) dX4_copyFrom_137 (by decide) ?_
    exact r_le (L' := [some (.ref b0), some (.ref b1), some (.int (l2 + 1))]) ⟨rfl, ⟨rfl, ⟨rfl, trivial⟩⟩⟩ K0
section
theorem sp_X4_copyFrom {x : Cn} {Q : Cn → Prop} {q p : Nat} {T : TT} {W C S A N : Nat} (hq : Isea q) (r : SRf x q) (E : SEA x p T W C S A N) (hne : p ≠ q) (k : ∀ y, Frq x y q → SEA y q T W C S A N → Q y) : mSV mX4_copyFrom [.ref q, .ref p] KW x Q := by
  have ds := Isea.dis E.1 hq hne
  obtain ⟨v0, v1, v2, v3, v4, v5, v6, v7⟩ := E.2.2.1
  have wf := E.2.2.2
  have hS : S ≤ 24 := wf.2.2.2.2.2.2.1
  have hA : A ≤ 24 := wf.2.2.2.2.2.2.2.2.1
  have hn := E.nums
  obtain ⟨r1, r2, r3, r4, r5, r6, r7, r8, r9⟩ := id r
  have l3 : ∀ n a y, a + n = A → Frq x y q → Hd y q T → Lim y q T 24 → Sln y q T S → Aln y q T a → GV mX4_copyFrom 111 [some (.ref q), some (.ref p), some (.int (nI a))] [] KW y Q := by
    intro n
    induction n with
    | zero =>
      intro a y ha f d l sl al
      have : a = A := by omega
      subst this
      refine v_X4_copyFrom_111 (ks0 hq) (by rw [f.rr]; exact r4) (ks4 hq) (ks0 E.1) (by rw [f.rr]; exact E.2.1.2.2.2.1) (ks4 E.1) ⟨fun _ => ?_, fun z => absurd (by rw [d.2.2.2.2, wf.2.2.2.2.2.2.2.1]; exact Int32.le_refl _) z⟩
      exact k y f ⟨hq, r.keep f.1, ⟨d.1, d.2.1, d.2.2.1, d.2.2.2.1, d.2.2.2.2, l, sl, al⟩, wf⟩
    | succ n ih =>
      intro a y ha f d l sl al
      obtain ⟨j, hj, ej⟩ := r8 a (by omega)
      obtain ⟨p2, e1, e2, e3, e4⟩ := E.ask (s := a) (by omega)
      obtain ⟨j2, hj2, ej2⟩ := E.2.1.2.2.2.2.2.2.2.1 a (by omega)
      have ep2 : p2 = p + 30 + j2 := Option.some.inj (e1.symm.trans ej2)
      refine v_X4_copyFrom_111 (ks0 hq) (by rw [f.rr]; exact r4) (ks4 hq) (ks0 E.1) (by rw [f.rr]; exact E.2.1.2.2.2.1) (ks4 E.1) ⟨fun z => absurd (by rw [d.2.2.2.2, wf.2.2.2.2.2.2.2.1] at z; exact z) (nI_ge (by omega) (by omega)), fun _ => ⟨vp_in_nI (by omega) (by decide), q + 30 + j, by rw [f.rr, nI_clamp (by omega)]; exact ej, vp_in_nI (by omega) (by decide), p2, by rw [f.rr, nI_clamp (by omega)]; exact e1, ks30 hq hj, ?_⟩⟩
      refine sp_X0_copyFrom (ks30 hq hj) e2 (by omega) (fun z hz hc => ?_)
      rw [nI_1]
      have hz0 : ∀ b k, b ≠ q + 30 + j → gi z b k = gi y b k := hz.2
      refine ih (a + 1) z (by omega) (f.eqx hz (by omega)) ?_ ?_ ?_ ?_
      · unfold Hd at d ⊢
        rw [hz0 q 0 (by omega), hz0 q 1 (by omega), hz0 q 2 (by omega), hz0 q 3 (by omega), hz0 q 4 (by omega)]
        exact d
      · intro h hh
        rw [hz0 (q + 1) h (by omega), hz0 (q + 2) h (by omega)]
        exact l h hh
      · intro s ps hs hps
        have hps2 : gr x (q + 3) s = some ps := by rw [← f.rr]; unfold gr at hps ⊢; rw [← hz.1]; exact hps
        obtain ⟨j3, hj3, ej3⟩ := r6 s (by omega)
        have eps : ps = q + 6 + j3 := Option.some.inj (hps2.symm.trans ej3)
        exact (sl s ps hs (by rw [f.rr]; exact hps2)).cg (fun k _ => hz0 ps k (by omega)) (fun _ _ => rfl)
      · intro s ps hs hps
        have hps2 : gr x (q + 4) s = some ps := by rw [← f.rr]; unfold gr at hps ⊢; rw [← hz.1]; exact hps
        by_cases c : s = a
        · subst c
          have eps : ps = q + 30 + j := Option.some.inj (hps2.symm.trans ej)
          subst eps
          intro k hk
          rw [hc k hk, f.2 p2 k (by omega)]
          exact e3 k hk
        · have eps : ps ≠ q + 30 + j := fun e => c (r9 s a (by omega) (by omega) (by rw [hps2, ej, e]))
          exact (al s ps (by omega) (by rw [f.rr]; exact hps2)).cg (fun k _ => hz0 ps k eps) (fun _ _ => rfl)
  have l2 : ∀ n s y, s + n = S → Frq x y q → Hd y q T → Lim y q T 24 → Sln y q T s → GV mX4_copyFrom 80 [some (.ref q), some (.ref p), some (.int (nI s))] [] KW y Q := by
    intro n
    induction n with
    | zero =>
      intro s y hs f d l sl
      have : s = S := by omega
      subst this
      refine v_X4_copyFrom_80 (ks0 hq) (by rw [f.rr]; exact r3) (ks3 hq) (ks0 E.1) (by rw [f.rr]; exact E.2.1.2.2.1) (ks3 E.1) ⟨fun _ => ?_, fun z => absurd (by rw [d.2.2.2.1, wf.2.2.2.2.2.1]; exact Int32.le_refl _) z⟩
      exact l3 A 0 y (by omega) f d l sl (fun s p hs _ => absurd hs (by omega))
    | succ n ih =>
      intro a y ha f d l sl
      obtain ⟨j, hj, ej⟩ := r6 a (by omega)
      obtain ⟨p2, e1, e2, e3, e4, -, e6⟩ := E.ser (s := a) (by omega)
      obtain ⟨j2, hj2, ej2⟩ := E.2.1.2.2.2.2.2.1 a (by omega)
      have ep2 : p2 = p + 6 + j2 := Option.some.inj (e1.symm.trans ej2)
      refine v_X4_copyFrom_80 (ks0 hq) (by rw [f.rr]; exact r3) (ks3 hq) (ks0 E.1) (by rw [f.rr]; exact E.2.1.2.2.1) (ks3 E.1) ⟨fun z => absurd (by rw [d.2.2.2.1, wf.2.2.2.2.2.1] at z; exact z) (nI_ge (by omega) (by omega)), fun _ => ⟨vp_in_nI (by omega) (by decide), q + 6 + j, by rw [f.rr, nI_clamp (by omega)]; exact ej, vp_in_nI (by omega) (by decide), p2, by rw [f.rr, nI_clamp (by omega)]; exact e1, ks6 hq hj, ?_⟩⟩
      refine sp_X5_copyFrom (ks6 hq hj) e2 (by omega) ?_ (fun z hz hc => ?_)
      · rw [f.2 p2 4 (by omega), e3.1 4 (by decide) (by decide)]
        exact e6.2.2.2.2.1
      rw [nI_1]
      have hz0 : ∀ b k, b ≠ q + 6 + j → gi z b k = gi y b k := hz.2
      refine ih (a + 1) z (by omega) (f.eqx hz (by omega)) ?_ ?_ ?_
      · unfold Hd at d ⊢
        rw [hz0 q 0 (by omega), hz0 q 1 (by omega), hz0 q 2 (by omega), hz0 q 3 (by omega), hz0 q 4 (by omega)]
        exact d
      · intro h hh
        rw [hz0 (q + 1) h (by omega), hz0 (q + 2) h (by omega)]
        exact l h hh
      · intro s ps hs hps
        have hps2 : gr x (q + 3) s = some ps := by rw [← f.rr]; unfold gr at hps ⊢; rw [← hz.1]; exact hps
        by_cases c : s = a
        · subst c
          have eps : ps = q + 6 + j := Option.some.inj (hps2.symm.trans ej)
          subst eps
          refine ⟨fun k hk h7 => ?_, ?_⟩
          · rw [hc k hk, f.2 p2 k (by omega)]
            exact e3.1 k hk h7
          · rw [hc 7 (by decide), f.2 p2 7 (by omega)]
            exact e3.2
        · have eps : ps ≠ q + 6 + j := fun e => c (r7 s a (by omega) (by omega) (by rw [hps2, ej, e]))
          exact (sl s ps (by omega) (by rw [f.rr]; exact hps2)).cg (fun k _ => hz0 ps k eps) (fun _ _ => rfl)
  have l1 : ∀ n h y, h + n = 24 → Frq x y q → Hd y q T → Lim y q T h → GV mX4_copyFrom 42 [some (.ref q), some (.ref p), some (.int (nI h))] [] KW y Q := by
    intro n
    induction n with
    | zero =>
      intro h y hh f d l
      have : h = 24 := by omega
      subst this
      refine v_X4_copyFrom_42 (ks0 hq) (by rw [f.rr]; exact r1) (ks0 E.1) (by rw [f.rr]; exact E.2.1.1) (ks1 E.1) (ks1 hq) (by rw [f.rr]; exact r2) (by rw [f.rr]; exact E.2.1.2.1) (ks2 E.1) (ks2 hq) ⟨fun _ => ?_, fun z => absurd (Int32.le_refl _) z⟩
      exact l2 S 0 y (by omega) f d l (fun s p hs _ => absurd hs (by omega))
    | succ n ih =>
      intro h y hh f d l
      refine v_X4_copyFrom_42 (ks0 hq) (by rw [f.rr]; exact r1) (ks0 E.1) (by rw [f.rr]; exact E.2.1.1) (ks1 E.1) (ks1 hq) (by rw [f.rr]; exact r2) (by rw [f.rr]; exact E.2.1.2.1) (ks2 E.1) (ks2 hq) ⟨fun z => absurd z (nI_ge (b := 24) (by omega) (by decide)), fun _ => ⟨vp_in_nI (by omega) (by decide), vp_in_nI (by omega) (by decide), vp_in_nI (by omega) (by decide), vp_in_nI (by omega) (by decide), ?_⟩⟩
      rw [nI_1, nI_clamp (show h < 2 ^ 31 by omega)]
      have eo : ∀ b j, b ≠ q + 1 → b ≠ q + 2 → gi (ui (ui y (q + 1) h (gi y (p + 1) h)) (q + 2) h (gi (ui y (q + 1) h (gi y (p + 1) h)) (p + 2) h)) b j = gi y b j := fun b j c1 c2 => by rw [gi_ui, if_neg (fun z => c2 z.1), gi_ui, if_neg (fun z => c1 z.1)]
      refine ih (h + 1) _ (by omega) ((f.ui (by omega)).ui (by omega)) ?_ ?_
      · unfold Hd at d ⊢
        rw [eo q 0 (by omega) (by omega), eo q 1 (by omega) (by omega), eo q 2 (by omega) (by omega), eo q 3 (by omega) (by omega), eo q 4 (by omega) (by omega)]
        exact d
      · intro i hi
        rw [gi_ui, gi_ui, if_neg (show ¬ (q + 1 = q + 2 ∧ i = h) by omega), gi_ui, gi_ui]
        by_cases c : i = h
        · subst c
          rw [if_pos ⟨rfl, rfl⟩, if_pos ⟨rfl, rfl⟩, if_neg (by omega), f.2 (p + 1) i (by omega), f.2 (p + 2) i (by omega)]
          exact v5 i (by omega)
        · rw [if_neg (fun z => c z.2), if_neg (fun z => c z.2), gi_ui, if_neg (fun z => c z.2)]
          exact l i (by omega)
  refine v_X4_copyFrom_0 (ks0 E.1) (ks0 hq) ?_
  intro a1 e1 a2 e2 a3 e3
  have np : ¬ p = q := hne
  simp only [gi_ui, np, false_and, if_false] at e1 e2 e3
  refine l1 24 0 _ (by omega) (((((Frq.rf x q).ui (by omega)).ui (by omega)).ui (by omega)).ui (by omega) |>.ui (by omega)) ?_ (fun h hh => absurd hh (by omega))
  unfold Hd
  simp [gi_ui, np, e1, e2, e3, v0, v1, v2, v3, v4]

end
end
/-! 45.past.lean.txt -/
section
theorem sub518 (v : Nat) : nI (v + 518) - 518 = nI v := by
  have := pk_sub (a := v + 518) (b := 518) (by omega)
  rw [show v + 518 - 518 = v from Nat.add_sub_cancel v 518] at this
  exact this
/-- the landed one's past -/
def Hs (x : Cn) (C : Nat) (T : TT) (n : Nat) (H : Nat → TT) : Prop := gi x 0 5 = nI n ∧ n ≤ 10 ∧ ∀ j, j < n → ∃ q W S A N, gr x 58 j = some q ∧ SEA x q (H j) W C S A N ∧ ∀ c, c < C → H j (54 + c) = T (54 + c)
def push (H : Nat → TT) (n : Nat) (T : TT) : Nat → TT := fun j => if n = 10 then (if j = 9 then T else H (j + 1)) else (if j = n then T else H j)
def pn (n : Nat) : Nat := if n = 10 then 10 else n + 1
theorem HSr.hs {x : Cn} {T : TT} {C : Nat} (h : HSr x T C) : ∃ n, Hs x C T n (fun j i => gi x 724 (518 * j + i)) ∧ gi x 717 19 = nI n := by
  obtain ⟨n, n1, n2, n3, n4⟩ := h
  exact ⟨n, ⟨n3, n1, n4⟩, n2⟩
theorem CRf.past {x : Cn} (h : CRf x) : (∀ j, j < 10 → SRf x (177 + 54 * j)) ∧ (∀ i, i < 10 → ∃ j, j < 10 ∧ gr x 58 i = some (177 + 54 * j)) ∧ ∀ i j, i < 10 → j < 10 → gr x 58 i = gr x 58 j → i = j := h.2.2.2.2.2.2.2.2.2.2.2.2.2.2.2.2.2.2.2
/-- references change in the row of the past alone -/
theorem CRf.k58 {x y : Cn} (h : CRf x) (e : ∀ a k, a ≠ 58 → gr y a k = gr x a k) (h1 : ∀ i, i < 10 → ∃ j, j < 10 ∧ gr y 58 i = some (177 + 54 * j)) (h2 : ∀ i j, i < 10 → j < 10 → gr y 58 i = gr y 58 j → i = j) : CRf y := by
  have sr : ∀ q, Isea q → SRf x q → SRf y q := by
    intro q hq g
    have hl := hq.lt
    have c : q ≠ 58 ∧ q + 3 ≠ 58 ∧ q + 4 ≠ 58 := by
      rcases hq with rfl | rfl | rfl | ⟨i, hi, rfl⟩ <;> omega
    unfold SRf at g ⊢
    simp only [e q _ c.1, e (q + 3) _ c.2.1, e (q + 4) _ c.2.2]
    exact g
  obtain ⟨a1, a2, a3, a4, a5, a6, a7, a8, a9, a10, a11, a12, a13, a14, a15, a16, a17, a18, a19, a20, -, -⟩ := h
  refine ⟨?_, ?_, ?_, ?_, ?_, ?_, ?_, ?_, ?_, ?_, ?_, ?_, ?_, ?_, ?_, ?_, ?_, sr 60 (by unfold Isea; omega) a18, sr 118 (by unfold Isea; omega) a19, fun j hj => sr _ (Or.inr (Or.inr (Or.inr ⟨j, hj, rfl⟩))) (a20 j hj), h1, h2⟩
  all_goals simp only [e _ _ (show (0 : Nat) ≠ 58 by decide), e _ _ (show (56 : Nat) ≠ 58 by decide), e _ _ (show (59 : Nat) ≠ 58 by decide), e _ _ (show (114 : Nat) ≠ 58 by decide), e _ _ (show (117 : Nat) ≠ 58 by decide), e _ _ (show (175 : Nat) ≠ 58 by decide)]
  all_goals assumption
theorem Hs.mv {x y : Cn} {C n : Nat} {T T' : TT} {H : Nat → TT} (h : Hs x C T n H) (c : CRf x) (h5 : gi y 0 5 = gi x 0 5) (h1 : ∀ a k, 177 ≤ a → a < 717 → gi y a k = gi x a k) (h2 : ∀ a k, a = 58 ∨ (177 ≤ a ∧ a < 717) → gr y a k = gr x a k) (hT : ∀ c, c < C → T' (54 + c) = T (54 + c)) : Hs y C T' n H := by
  obtain ⟨g1, g2, g3⟩ := h
  refine ⟨h5.trans g1, g2, fun j hj => ?_⟩
  obtain ⟨q, W, S, A, N, q1, q2, q3⟩ := g3 j hj
  obtain ⟨i, hi, ei⟩ := c.past.2.1 j (by omega)
  have hq : q = 177 + 54 * i := Option.some.inj (q1.symm.trans ei)
  refine ⟨q, W, S, A, N, by rw [h2 58 j (Or.inl rfl)]; exact q1, q2.mv (fun a k z1 z2 => h2 a k (Or.inr (by omega))) (fun a k z1 z2 _ => h1 a k (by omega) (by omega)) (fun _ _ => rfl), fun c hc => by rw [hT c hc]; exact q3 c hc⟩
/-- ints and references that an act of the landed one may not touch -/
def CFr (x y : Cn) : Prop := ∀ a k, ¬ (2 ≤ a ∧ a < 56) → ¬ (59 ≤ a ∧ a < 175) → ¬ (177 ≤ a ∧ a < 717) → ¬ (a = 0 ∧ k = 5) → gi y a k = gi x a k
theorem CFr.rf (x : Cn) : CFr x x := fun _ _ _ _ _ _ => rfl
theorem CFr.tr {x y z : Cn} (h : CFr x y) (g : CFr y z) : CFr x z := fun a k a1 a2 a3 a4 => (g a k a1 a2 a3 a4).trans (h a k a1 a2 a3 a4)
/-- the same of the reference -/
def RFr (x y : Cn) : Prop := y.2 = x.2 ∧ ∀ a k, a ≠ 718 → a ≠ 719 → a ≠ 721 → a ≠ 722 → a ≠ 723 → a ≠ 724 → ¬ (a = 717 ∧ (k = 6 ∨ k = 7 ∨ k = 8 ∨ k = 9 ∨ k = 10 ∨ k = 13 ∨ k = 14 ∨ k = 18 ∨ k = 19)) → gi y a k = gi x a k
theorem RFr.rf (x : Cn) : RFr x x := ⟨rfl, fun _ _ _ _ _ _ _ _ _ => rfl⟩
theorem RFr.tr {x y z : Cn} (h : RFr x y) (g : RFr y z) : RFr x z := ⟨g.1.trans h.1, fun a k a1 a2 a3 a4 a5 a6 a7 => (g.2 a k a1 a2 a3 a4 a5 a6 a7).trans (h.2 a k a1 a2 a3 a4 a5 a6 a7)⟩
theorem RFr.u8 {x y : Cn} {k : Nat} {v : Int32} (h : RFr x y) : RFr x (ui y 718 k v) := ⟨h.1, fun a j a1 a2 a3 a4 a5 a6 a7 => by rw [gi_ui, if_neg (fun z => a1 z.1)]; exact h.2 a j a1 a2 a3 a4 a5 a6 a7⟩
theorem Rel.fin {x y z : Cn} {W C S A N n : Nat} {T' : TT} {H : Nat → TT} (R : Rel x) (nm : NMr x 56 (gi x 718) C) (f1 : CFr x y) (c : CRf y) (h : Hs y C (gi x 718) n H) (E : SEA y 2 T' W C S A N) (hN : ∀ c, c < C → T' (54 + c) = gi x 718 (54 + c)) (m : MRf y 718) (f2 : RFr y z) (h19 : gi z 717 19 = nI n) (h724 : ∀ j, j < n → ∀ i, i < 518 → gi z 724 (518 * j + i) = H j i) (hT : ∀ i, i < 518 → gi z 718 i = T' i) : Rel z := by
  obtain ⟨r1, r2, r3, r4, r5, -⟩ := R
  have hg : ∀ b k, gr z b k = gr y b k := fun b k => by unfold gr; rw [f2.1]
  have lo : ∀ a k, a < 717 → gi z a k = gi y a k := fun a k h => f2.2 a k (by omega) (by omega) (by omega) (by omega) (by omega) (by omega) (by omega)
  have hC : C ≤ 8 := E.2.2.2.2.2.2.2.1
  have e0 : ∀ a k, (a = 0 ∧ k ≠ 5) ∨ a = 1 ∨ a = 56 ∨ a = 57 ∨ a = 175 ∨ a = 176 → gi z a k = gi x a k := fun a k h => (lo a k (by omega)).trans (f1 a k (by omega) (by omega) (by omega) (by omega))
  have e7 : ∀ a k, (a = 717 ∧ (k = 5 ∨ k = 11 ∨ k = 12 ∨ k = 22)) ∨ a = 720 ∨ a = 725 → gi z a k = gi x a k := fun a k h => (f2.2 a k (by omega) (by omega) (by omega) (by omega) (by omega) (by omega) (by omega)).trans (f1 a k (by omega) (by omega) (by omega) (by omega))
  have hTz : ∀ c, c < C → gi z 718 (54 + c) = gi x 718 (54 + c) := fun c hc => (hT _ (by omega)).trans (hN c hc)
  refine ⟨c.keep f2.1, m.keep f2.1, ?_, ?_, ?_, W, C, S, A, N, ?_, ?_, n, h.2.1, h19, ?_, fun j hj => ?_⟩
  · exact r3
  · exact r4.keep (e0 _ _ (by omega)) (e7 _ _ (by omega)) (fun i => e0 _ _ (by omega)) (fun i => e7 _ _ (by omega))
  · exact r5.keep (e0 _ _ (by omega)) (e7 _ _ (by omega)) (fun i => e0 _ _ (by omega)) (fun i => e7 _ _ (by omega))
  · exact E.mv (fun a k _ _ => hg a k) (fun a k z1 z2 _ => lo a k (by omega)) hT
  · exact nm.keep (e0 _ _ (by omega)) (fun i => e0 _ _ (by omega)) hTz
  · exact (lo 0 5 (by omega)).trans h.1
  · obtain ⟨q, W2, S2, A2, N2, q1, q2, q3⟩ := h.2.2 j hj
    have hl := q2.1.lt
    exact ⟨q, W2, S2, A2, N2, by rw [hg]; exact q1, q2.mv (fun a k _ _ => hg a k) (fun a k z1 z2 _ => lo a k (by omega)) (fun i hi => h724 j hj i hi), fun c hc => by rw [h724 j hj _ (by omega), q3 c hc, hTz c hc]⟩
set_option maxHeartbeats 2000000 in
theorem v_X7_remember_0 {K : Sh} {x : Cn} {Q : Cn → Prop} {b0 : Nat} {b0_4 : Nat} {n_b0_4 : Nat} {b0_2 : Nat} (k_b0 : kk K b0 = some (7, 0)) (g_b0_4 : gr x b0 4 = some b0_4) (k_b0_4 : kk K b0_4 = some (22, n_b0_4)) (g_b0_2 : gr x b0 2 = some b0_2) (K0 : (¬ (gi x b0 5) = 10 → (vp_in (gi x b0 5) n_b0_4 ∧ (∃ c_3 : Nat, gr x b0_4 (((gi x b0 5) : Int32).toNatClampNeg) = some c_3 ∧ (kk K c_3 = some (4, 0) ∧ (mSV mX4_copyFrom [.ref c_3, .ref b0_2] K x (fun y_6 => Q (ui y_6 b0 5 ((gi y_6 b0 5) + 1)))))))) ∧ ((gi x b0 5) = 10 → (vp_in 0 n_b0_4 ∧ (∃ c_8 : Nat, gr x b0_4 ((0 : Int32).toNatClampNeg) = some c_8 ∧ (GV mX7_remember 18 [some (.ref b0), some (.ref c_8), some (.int 1)] [] K x Q))))) : mSV mX7_remember [.ref b0] K x Q := by
  refine s_V (by decide) (by simp [Value.category]) (Nat.le_of_ble_eq_true rfl) ?_
  show mGM mX7_remember 0 [some (.ref b0), none, none] [] (hp K x) (PV K Q)
  refine r_aload_n (pc := 0) dX7_remember_0 rfl ?_
  refine s_getI (pc := 1) dX7_remember_1 fl_X7_35 rfl k_b0 ?_
  refine r_bipush (pc := 4) (v := 10) dX7_remember_4 (by decide) ?_
  refine r_icmp_ne (pc := 6) (tgt := 62) dX7_remember_6 (by decide) (fun q => ?_) (fun q => ?_)
  · have K0 := K0.1 q
    refine r_aload_n (pc := 62) dX7_remember_62 rfl ?_
    refine s_getR (pc := 63) dX7_remember_63 fl_X7_31 rfl k_b0 g_b0_4 ?_
    refine r_aload_n (pc := 66) dX7_remember_66 rfl ?_
    refine s_getI (pc := 67) dX7_remember_67 fl_X7_35 rfl k_b0 ?_
    obtain ⟨i_2, K0⟩ := K0
    obtain ⟨c_3, g_4, K0⟩ := K0
    refine s_aald (pc := 70) dX7_remember_70 (by decide) rfl k_b0_4 i_2 g_4 ?_
    refine r_aload_n (pc := 71) dX7_remember_71 rfl ?_
    refine s_getR (pc := 72) dX7_remember_72 fl_X7_20 rfl k_b0 g_b0_2 ?_
    obtain ⟨e_5, K0⟩ := K0
    refine s_VV (pc := 75) mX4_copyFrom (ci := 4) (a := c_3) (As := [.ref b0_2]) dX7_remember_75 lk_X7_80 in_X4_copyFrom mo_X4_copyFrom ⟨by decide, rfl⟩ ⟨by decide, by decide⟩ (Nat.le_of_ble_eq_true rfl) e_5 (mSV_mono K0 (fun y_6 K0 => ?_))
    refine r_aload_n (pc := 78) dX7_remember_78 rfl ?_
    refine r_dup (pc := 79) dX7_remember_79 rfl ?_
    refine s_getI (pc := 80) dX7_remember_80 fl_X7_35 rfl k_b0 ?_
    refine r_iconst (pc := 83) (v := 1) dX7_remember_83 (by decide) ?_
    refine r_iadd (pc := 84) dX7_remember_84 ?_
    refine s_putI (pc := 85) dX7_remember_85 fl_X7_35 rfl rfl k_b0 ?_
    exact s_ret rfl dX7_remember_88 K0
  · have K0 := K0.2 q
    refine r_aload_n (pc := 9) dX7_remember_9 rfl ?_
    refine s_getR (pc := 10) dX7_remember_10 fl_X7_31 rfl k_b0 g_b0_4 ?_
    refine r_iconst (pc := 13) (v := 0) dX7_remember_13 (by decide) ?_
    obtain ⟨i_7, K0⟩ := K0
    obtain ⟨c_8, g_9, K0⟩ := K0
    refine s_aald (pc := 14) dX7_remember_14 (by decide) rfl k_b0_4 i_7 g_9 ?_
    refine r_astore_n (pc := 15) dX7_remember_15 (by decide) ?_
    refine r_iconst (pc := 16) (L := [some (.ref b0), some (.ref c_8), none]) (v := 1) dX7_remember_16 (by decide) ?_
    refine r_istore_n (pc := 17) dX7_remember_17 (by decide) ?_
    exact r_le (L' := [some (.ref b0), some (.ref c_8), some (.int 1)]) ⟨rfl, ⟨rfl, ⟨rfl, trivial⟩⟩⟩ K0
set_option maxHeartbeats 2000000 in
theorem v_X7_remember_18 {K : Sh} {x : Cn} {Q : Cn → Prop} {b0 : Nat} {b1 : Nat} {l2 : Int32} {b0_4 : Nat} {n_b0_4 : Nat} (k_b0 : kk K b0 = some (7, 0)) (g_b0_4 : gr x b0 4 = some b0_4) (k_b0_4 : kk K b0_4 = some (22, n_b0_4)) (k_b1 : kk K b1 = some (4, 0)) (K0 : (10 ≤ l2 → (vp_in 9 n_b0_4 ∧ (∀ r_3 : Int32, r_3 = gi (ur x b0_4 (9 : Int32).toNatClampNeg (some b1)) b0 5 → (gr (ur x b0_4 (9 : Int32).toNatClampNeg (some b1)) b0 4 = some b0_4 ∧ (∀ r_6 : Int32, r_6 = gi (ui (ur x b0_4 (9 : Int32).toNatClampNeg (some b1)) b0 5 (r_3 - 1)) b0 5 → (vp_in r_6 n_b0_4 ∧ (∃ c_9 : Nat, gr (ur x b0_4 (9 : Int32).toNatClampNeg (some b1)) b0_4 ((r_6 : Int32).toNatClampNeg) = some c_9 ∧ (∃ c_11 : Nat, gr (ur x b0_4 (9 : Int32).toNatClampNeg (some b1)) b0 2 = some c_11 ∧ (kk K c_9 = some (4, 0) ∧ (mSV mX4_copyFrom [.ref c_9, .ref c_11] K (ui (ur x b0_4 (9 : Int32).toNatClampNeg (some b1)) b0 5 (r_3 - 1)) (fun y_14 => Q (ui y_14 b0 5 ((gi y_14 b0 5) + 1))))))))))))) ∧ (¬ 10 ≤ l2 → (vp_in l2 n_b0_4 ∧ (∃ c_16 : Nat, gr x b0_4 ((l2 : Int32).toNatClampNeg) = some c_16 ∧ (kk K c_16 = some (4, 0) ∧ (vp_in (l2 - 1) n_b0_4 ∧ (GV mX7_remember 18 [some (.ref b0), some (.ref b1), some (.int (l2 + 1))] [] K (ur x b0_4 ((l2 - 1) : Int32).toNatClampNeg (some c_16)) Q))))))) : GV mX7_remember 18 [some (.ref b0), some (.ref b1), some (.int l2)] [] K x Q := by
  show mGM mX7_remember 18 [some (.ref b0), some (.ref b1), some (.int l2)] [] (hp K x) (PV K Q)
  refine r_iload_n (pc := 18) dX7_remember_18 rfl ?_
  refine r_bipush (pc := 19) (v := 10) dX7_remember_19 (by decide) ?_
  refine r_icmp_ge (pc := 21) (tgt := 44) dX7_remember_21 (by decide) (fun q => ?_) (fun q => ?_)
  · have K0 := K0.1 q
    refine r_aload_n (pc := 44) dX7_remember_44 rfl ?_
    refine s_getR (pc := 45) dX7_remember_45 fl_X7_31 rfl k_b0 g_b0_4 ?_
    refine r_bipush (pc := 48) (v := 9) dX7_remember_48 (by decide) ?_
    refine r_aload_n (pc := 50) dX7_remember_50 rfl ?_
    obtain ⟨i_2, K0⟩ := K0
    refine s_aast (pc := 51) dX7_remember_51 (by decide) (by decide) rfl k_b0_4 k_b1 i_2 ?_
    refine r_aload_n (pc := 52) dX7_remember_52 rfl ?_
    refine r_dup (pc := 53) dX7_remember_53 rfl ?_
    refine s_getI (pc := 54) dX7_remember_54 fl_X7_35 rfl k_b0 ?_
    obtain ⟨r_3, w_4⟩ : ∃ z : Int32, z = gi (ur x b0_4 (9 : Int32).toNatClampNeg (some b1)) b0 5 := ⟨_, rfl⟩
    rw [← w_4]
    have K0 := K0 r_3 w_4
    refine r_iconst (pc := 57) (v := 1) dX7_remember_57 (by decide) ?_
    refine r_isub (pc := 58) dX7_remember_58 ?_
    refine s_putI (pc := 59) dX7_remember_59 fl_X7_35 rfl rfl k_b0 ?_
    refine r_aload_n (pc := 62) dX7_remember_62 rfl ?_
    obtain ⟨g_5, K0⟩ := K0
    refine s_getR (pc := 63) dX7_remember_63 fl_X7_31 rfl k_b0 g_5 ?_
    refine r_aload_n (pc := 66) dX7_remember_66 rfl ?_
    refine s_getI (pc := 67) dX7_remember_67 fl_X7_35 rfl k_b0 ?_
    obtain ⟨r_6, w_7⟩ : ∃ z : Int32, z = gi (ui (ur x b0_4 (9 : Int32).toNatClampNeg (some b1)) b0 5 (r_3 - 1)) b0 5 := ⟨_, rfl⟩
    rw [← w_7]
    have K0 := K0 r_6 w_7
    obtain ⟨i_8, K0⟩ := K0
    obtain ⟨c_9, g_10, K0⟩ := K0
    refine s_aald (pc := 70) dX7_remember_70 (by decide) rfl k_b0_4 i_8 g_10 ?_
    refine r_aload_n (pc := 71) dX7_remember_71 rfl ?_
    obtain ⟨c_11, g_12, K0⟩ := K0
    refine s_getR (pc := 72) dX7_remember_72 fl_X7_20 rfl k_b0 g_12 ?_
    obtain ⟨e_13, K0⟩ := K0
    refine s_VV (pc := 75) mX4_copyFrom (ci := 4) (a := c_9) (As := [.ref c_11]) dX7_remember_75 lk_X7_80 in_X4_copyFrom mo_X4_copyFrom ⟨by decide, rfl⟩ ⟨by decide, by decide⟩ (Nat.le_of_ble_eq_true rfl) e_13 (mSV_mono K0 (fun y_14 K0 => ?_))
    refine r_aload_n (pc := 78) dX7_remember_78 rfl ?_
    refine r_dup (pc := 79) dX7_remember_79 rfl ?_
    refine s_getI (pc := 80) dX7_remember_80 fl_X7_35 rfl k_b0 ?_
    refine r_iconst (pc := 83) (v := 1) dX7_remember_83 (by decide) ?_
    refine r_iadd (pc := 84) dX7_remember_84 ?_
    refine s_putI (pc := 85) dX7_remember_85 fl_X7_35 rfl rfl k_b0 ?_
    exact s_ret rfl dX7_remember_88 K0
  · have K0 := K0.2 q
    refine r_aload_n (pc := 24) dX7_remember_24 rfl ?_
    refine s_getR (pc := 25) dX7_remember_25 fl_X7_31 rfl k_b0 g_b0_4 ?_
    refine r_iload_n (pc := 28) dX7_remember_28 rfl ?_
    refine r_iconst (pc := 29) (v := 1) dX7_remember_29 (by decide) ?_
    refine r_isub (pc := 30) dX7_remember_30 ?_
    refine r_aload_n (pc := 31) dX7_remember_31 rfl ?_
    refine s_getR (pc := 32) dX7_remember_32 fl_X7_31 rfl k_b0 g_b0_4 ?_
    refine r_iload_n (pc := 35) dX7_remember_35 rfl ?_
    obtain ⟨i_15, K0⟩ := K0
    obtain ⟨c_16, g_17, K0⟩ := K0
    refine s_aald (pc := 36) dX7_remember_36 (by decide) rfl k_b0_4 i_15 g_17 ?_
    obtain ⟨e_18, K0⟩ := K0
    obtain ⟨i_19, K0⟩ := K0
    refine s_aast (pc := 37) dX7_remember_37 (by decide) (by decide) rfl k_b0_4 e_18 i_19 ?_
    refine r_iinc (pc := 38) (v := l2 + 1) dX7_remember_38 rfl rfl (by decide) ?_
    refine r_goto (pc := 41) (L := [some (.ref b0), some (.ref b1), some (.int (l2 + 1))]) (tgt := 18) dX7_remember_41 (by decide) ?_
    exact r_le (L' := [some (.ref b0), some (.ref b1), some (.int (l2 + 1))]) ⟨rfl, ⟨rfl, ⟨rfl, trivial⟩⟩⟩ K0
section
theorem sp_X7_remember {x : Cn} {Q : Cn → Prop} {T : TT} {W C S A N n : Nat} {H : Nat → TT} (c : CRf x) (E : SEA x 2 T W C S A N) (h : Hs x C T n H) (k : ∀ y, CRf y → (∀ a j, ¬ (177 ≤ a ∧ a < 717) → ¬ (a = 0 ∧ j = 5) → gi y a j = gi x a j) → (∀ a j, a ≠ 58 → gr y a j = gr x a j) → Hs y C T (pn n) (push H n T) → Q y) : mSV mX7_remember [.ref 0] KW x Q := by
  obtain ⟨h1, h2, h3⟩ := h
  obtain ⟨p1, p2, p3⟩ := c.past
  have I2 : Isea 2 := Or.inl rfl
  refine v_X7_remember_0 k0 c.2.2.2.1 (show kk KW 58 = some (22, 10) by decide) c.2.1 ?_
  rw [h1, show (10 : Int32) = nI 10 by decide, nI_eq (by omega) (by decide)]
  refine ⟨fun z => ⟨vp_in_nI (by omega) (by decide), ?_⟩, fun z => ⟨v0 (k := 0) (by decide) rfl rfl, ?_⟩⟩
  · obtain ⟨i, hi, ei⟩ := p2 n (by omega)
    have Iq : Isea (177 + 54 * i) := Or.inr (Or.inr (Or.inr ⟨i, hi, rfl⟩))
    refine ⟨177 + 54 * i, by rw [nI_clamp (by omega)]; exact ei, ks0 Iq, ?_⟩
    refine sp_X4_copyFrom Iq (p1 i hi) E (by omega) (fun y f Ey => ?_)
    rw [f.2 0 5 (by omega), h1, nI_1]
    refine k _ (c.keep f.1) (fun a j a1 a2 => ?_) (fun a j _ => f.rr a j) ⟨?_, ?_, fun j hj => ?_⟩
    · rw [gi_ui, if_neg a2]
      exact f.2 a j (by omega)
    · unfold pn
      rw [if_neg z, gi_ui, if_pos ⟨rfl, rfl⟩]
    · unfold pn
      rw [if_neg z]
      omega
    · unfold pn at hj
      rw [if_neg z] at hj
      have ep : push H n T j = if j = n then T else H j := by unfold push; rw [if_neg z]
      rw [ep]
      have low : ∀ a k, 177 ≤ a → gi (ui y 0 5 (nI (n + 1))) a k = gi y a k := fun a k ha => by rw [gi_ui, if_neg (by omega)]
      by_cases cj : j = n
      · rw [if_pos cj, cj]
        exact ⟨177 + 54 * i, W, S, A, N, (f.rr 58 n).trans ei, Ey.mv (fun _ _ _ _ => rfl) (fun a k z1 _ _ => low a k (by omega)) (fun _ _ => rfl), fun _ _ => rfl⟩
      · rw [if_neg cj]
        obtain ⟨q, W2, S2, A2, N2, q1, q2, q3⟩ := h3 j (by omega)
        have hne : q ≠ 177 + 54 * i := fun e => cj (p3 j n (by omega) (by omega) (by rw [q1, ei, e]))
        obtain ⟨i2, hi2, ei2⟩ := p2 j (by omega)
        have hq2 : q = 177 + 54 * i2 := Option.some.inj (q1.symm.trans ei2)
        exact ⟨q, W2, S2, A2, N2, (f.rr 58 j).trans q1, (q2.off Iq hne f).mv (fun _ _ _ _ => rfl) (fun a k z1 _ _ => low a k (by omega)) (fun _ _ => rfl), q3⟩
  · subst z
    obtain ⟨i0, hi0, ei0⟩ := p2 0 (by omega)
    have Iq : Isea (177 + 54 * i0) := Or.inr (Or.inr (Or.inr ⟨i0, hi0, rfl⟩))
    refine ⟨177 + 54 * i0, ei0, ?_⟩
    have key : ∀ m i y, i + m = 10 → 1 ≤ i → y.1 = x.1 → (∀ a k, a ≠ 58 → gr y a k = gr x a k) → (∀ k, gr y 58 k = if k + 1 < i then gr x 58 (k + 1) else gr x 58 k) → GV mX7_remember 18 [some (.ref 0), some (.ref (177 + 54 * i0)), some (.int (nI i))] [] KW y Q := by
      intro m
      induction m with
      | zero =>
        intro i y hi hi1 g1 g2 g3
        have : i = 10 := by omega
        subst this
        have gi0 : ∀ a k, gi y a k = gi x a k := fun a k => by unfold gi; rw [g1]
        refine v_X7_remember_18 k0 (by rw [g2 0 4 (by decide)]; exact c.2.2.2.1) (show kk KW 58 = some (22, 10) by decide) (ks0 Iq) ⟨fun _ => ⟨v0 (k := 9) (by decide) rfl rfl, ?_⟩, fun z => absurd (Int32.le_refl _) z⟩
        intro r3 e3
        have e3' : r3 = nI 10 := by rw [e3, gi_ur, gi0]; exact h1
        refine ⟨by rw [gr_ur, if_neg (by omega), g2 0 4 (by decide)]; exact c.2.2.2.1, ?_⟩
        intro r6 e6
        have e6' : r6 = nI 9 := by rw [e6, gi_ui, if_pos ⟨rfl, rfl⟩, e3']; exact nI_pred 9
        rw [e6', e3', show (nI 10 - 1 : Int32) = nI 9 from nI_pred 9, show (nI 9).toNatClampNeg = 9 by decide, show ((9 : Int32)).toNatClampNeg = 9 by decide]
        have gn : ∀ k, gr (ur y 58 9 (some (177 + 54 * i0))) 58 k = if k = 9 then some (177 + 54 * i0) else if k < 9 then gr x 58 (k + 1) else gr x 58 k := by
          intro k
          rw [gr_ur]
          by_cases c9 : k = 9
          · rw [if_pos ⟨rfl, c9⟩, if_pos c9]
          · rw [if_neg (fun u => c9 u.2), if_neg c9, g3]
            by_cases c8 : k < 9
            · rw [if_pos (by omega), if_pos c8]
            · rw [if_neg (by omega), if_neg c8]
        have go : ∀ a k, a ≠ 58 → gr (ur y 58 9 (some (177 + 54 * i0))) a k = gr x a k := fun a k ha => by rw [gr_ur, if_neg (fun u => ha u.1)]; exact g2 a k ha
        have cw : CRf (ur y 58 9 (some (177 + 54 * i0))) := by
          refine c.k58 go (fun i hi => ?_) (fun i j hi hj e => ?_)
          · rw [gn]
            by_cases c9 : i = 9
            · rw [if_pos c9]; exact ⟨i0, hi0, rfl⟩
            · rw [if_neg c9, if_pos (by omega)]; exact p2 (i + 1) (by omega)
          · rw [gn, gn] at e
            by_cases c9 : i = 9 <;> by_cases d9 : j = 9
            · omega
            · rw [if_pos c9, if_neg d9, if_pos (by omega), ← ei0] at e
              have := p3 0 (j + 1) (by omega) (by omega) e
              omega
            · rw [if_neg c9, if_pos d9, if_pos (by omega), ← ei0] at e
              have := p3 (i + 1) 0 (by omega) (by omega) e
              omega
            · rw [if_neg c9, if_neg d9, if_pos (by omega), if_pos (by omega)] at e
              have := p3 (i + 1) (j + 1) (by omega) (by omega) e
              omega
        refine ⟨vp_in_nI (by omega) (by decide), 177 + 54 * i0, by rw [gn, if_pos rfl], 2, cw.2.1, ks0 Iq, ?_⟩
        have gx1 : ∀ a k, ¬ (a = 0 ∧ k = 5) → gi (ui (ur y 58 9 (some (177 + 54 * i0))) 0 5 (nI 9)) a k = gi x a k := fun a k ha => by rw [gi_ui, if_neg ha, gi_ur, gi0]
        have Ew : SEA (ui (ur y 58 9 (some (177 + 54 * i0))) 0 5 (nI 9)) 2 T W C S A N := E.mv (fun a k z1 z2 => go a k (by omega)) (fun a k z1 z2 _ => gx1 a k (by omega)) (fun _ _ => rfl)
        refine sp_X4_copyFrom Iq ((cw.past.1 i0 hi0).keep rfl) Ew (by omega) (fun v f Ey => ?_)
        rw [f.2 0 5 (by omega), gi_ui, if_pos ⟨rfl, rfl⟩, nI_1]
        have gv : ∀ a k, gr v a k = gr (ur y 58 9 (some (177 + 54 * i0))) a k := fun a k => f.rr a k
        refine k _ (cw.keep f.1) (fun a j a1 a2 => ?_) (fun a j ha => (gv a j).trans (go a j ha)) ⟨?_, ?_, fun j hj => ?_⟩
        · rw [gi_ui, if_neg a2, f.2 a j (by omega)]
          exact gx1 a j a2
        · rfl
        · exact Nat.le_refl _
        · have hj : j < 10 := hj
          have low : ∀ a k, 177 ≤ a → gi (ui v 0 5 (nI (9 + 1))) a k = gi v a k := fun a k ha => by rw [gi_ui, if_neg (by omega)]
          by_cases c9 : j = 9
          · subst c9
            exact ⟨177 + 54 * i0, W, S, A, N, (gv 58 9).trans (by rw [gn, if_pos rfl]), Ey.mv (fun _ _ _ _ => rfl) (fun a k z1 _ _ => low a k (by omega)) (fun _ _ => rfl), fun _ _ => rfl⟩
          · obtain ⟨q, W2, S2, A2, N2, q1, q2, q3⟩ := h3 (j + 1) (by omega)
            have hne : q ≠ 177 + 54 * i0 := fun e => by
              have := p3 (j + 1) 0 (by omega) (by omega) (by rw [q1, ei0, e])
              omega
            obtain ⟨i2, hi2, ei2⟩ := p2 (j + 1) (by omega)
            have hq2 : q = 177 + 54 * i2 := Option.some.inj (q1.symm.trans ei2)
            have ep : push H 10 T j = H (j + 1) := by unfold push; rw [if_pos rfl, if_neg c9]
            rw [ep]
            have q2' : SEA (ui (ur y 58 9 (some (177 + 54 * i0))) 0 5 (nI 9)) q (H (j + 1)) W2 C S2 A2 N2 := q2.mv (fun a k z1 z2 => go a k (by omega)) (fun a k z1 z2 _ => gx1 a k (by omega)) (fun _ _ => rfl)
            exact ⟨q, W2, S2, A2, N2, (gv 58 j).trans (by rw [gn, if_neg c9, if_pos (by omega)]; exact q1), (q2'.off Iq hne f).mv (fun _ _ _ _ => rfl) (fun a k z1 _ _ => low a k (by omega)) (fun _ _ => rfl), q3⟩
      | succ m ih =>
        intro i y hi hi1 g1 g2 g3
        obtain ⟨j, hj, ej⟩ := p2 i (by omega)
        refine v_X7_remember_18 k0 (by rw [g2 0 4 (by decide)]; exact c.2.2.2.1) (show kk KW 58 = some (22, 10) by decide) (ks0 Iq) ⟨fun z => absurd z (nI_ge (b := 10) (by omega) (by decide)), fun _ => ⟨vp_in_nI (by omega) (by decide), 177 + 54 * j, ?_, ks0 (Or.inr (Or.inr (Or.inr ⟨j, hj, rfl⟩))), ?_⟩⟩
        · rw [nI_clamp (by omega), g3, if_neg (by omega)]
          exact ej
        · obtain ⟨i', rfl⟩ : ∃ i', i = i' + 1 := ⟨i - 1, by omega⟩
          rw [nI_pred, nI_1, nI_clamp (by omega)]
          refine ⟨vp_in_nI (by omega) (by decide), ih (i' + 1 + 1) _ (by omega) (by omega) g1 (fun a k ha => by rw [gr_ur, if_neg (fun u => ha u.1)]; exact g2 a k ha) (fun k => ?_)⟩
          rw [gr_ur]
          by_cases ck : k = i'
          · rw [if_pos ⟨rfl, ck⟩, if_pos (by omega), ck]
            exact ej.symm
          · rw [if_neg (fun u => ck u.2), g3]
            by_cases cl : k + 1 < i' + 1
            · rw [if_pos cl, if_pos (by omega)]
            · rw [if_neg cl, if_neg (by omega)]
    exact key 9 1 x (by omega) (by omega) rfl (fun _ _ _ => rfl) (fun k => by rw [if_neg (by omega)])
end
set_option maxHeartbeats 2000000 in
theorem v_X8_keeps_0 {K : Sh} {x : Cn} {Q : Cn → Prop} {b0 : Nat}  (k_b0 : kk K b0 = some (8, 0)) (K0 : (¬ (gi x b0 19) = 10 → (GV mX8_keeps 54 [some (.ref b0), some (.int 0)] [] K x Q)) ∧ ((gi x b0 19) = 10 → (GV mX8_keeps 13 [some (.ref b0), some (.int 518)] [] K x Q))) : mSV mX8_keeps [.ref b0] K x Q := by
  refine s_V (by decide) (by simp [Value.category]) (Nat.le_of_ble_eq_true rfl) ?_
  show mGM mX8_keeps 0 [some (.ref b0), none] [] (hp K x) (PV K Q)
  refine r_aload_n (pc := 0) dX8_keeps_0 rfl ?_
  refine s_getI (pc := 1) dX8_keeps_1 fl_X8_262 rfl k_b0 ?_
  refine r_bipush (pc := 4) (v := 10) dX8_keeps_4 (by decide) ?_
  refine r_icmp_ne (pc := 6) (tgt := 52) dX8_keeps_6 (by decide) (fun q => ?_) (fun q => ?_)
  · have K0 := K0.1 q
    refine r_iconst (pc := 52) (v := 0) dX8_keeps_52 (by decide) ?_
    refine r_istore_n (pc := 53) dX8_keeps_53 (by decide) ?_
    exact r_le (L' := [some (.ref b0), some (.int 0)]) ⟨rfl, ⟨rfl, trivial⟩⟩ K0
  · have K0 := K0.2 q
    refine r_sipush (pc := 9) (v := 518) dX8_keeps_9 (by decide) ?_
    refine r_istore_n (pc := 12) dX8_keeps_12 (by decide) ?_
    exact r_le (L' := [some (.ref b0), some (.int 518)]) ⟨rfl, ⟨rfl, trivial⟩⟩ K0
set_option maxHeartbeats 2000000 in
theorem v_X8_keeps_13 {K : Sh} {x : Cn} {Q : Cn → Prop} {b0 : Nat} {l1 : Int32} {b0_20 : Nat} {n_b0_20 : Nat} (k_b0 : kk K b0 = some (8, 0)) (g_b0_20 : gr x b0 20 = some b0_20) (k_b0_20 : kk K b0_20 = some (20, n_b0_20)) (K0 : (5180 ≤ l1 → (GV mX8_keeps 54 [some (.ref b0), some (.int 0)] [] K (ui x b0 19 ((gi x b0 19) - 1)) Q)) ∧ (¬ 5180 ≤ l1 → (vp_in l1 n_b0_20 ∧ (vp_in (l1 - 518) n_b0_20 ∧ (GV mX8_keeps 13 [some (.ref b0), some (.int (l1 + 1))] [] K (ui x b0_20 ((l1 - 518) : Int32).toNatClampNeg (gi x b0_20 (l1 : Int32).toNatClampNeg)) Q))))) : GV mX8_keeps 13 [some (.ref b0), some (.int l1)] [] K x Q := by
  show mGM mX8_keeps 13 [some (.ref b0), some (.int l1)] [] (hp K x) (PV K Q)
  refine r_iload_n (pc := 13) dX8_keeps_13 rfl ?_
  refine r_sipush (pc := 14) (v := 5180) dX8_keeps_14 (by decide) ?_
  refine r_icmp_ge (pc := 17) (tgt := 42) dX8_keeps_17 (by decide) (fun q => ?_) (fun q => ?_)
  · have K0 := K0.1 q
    refine r_aload_n (pc := 42) dX8_keeps_42 rfl ?_
    refine r_dup (pc := 43) dX8_keeps_43 rfl ?_
    refine s_getI (pc := 44) dX8_keeps_44 fl_X8_262 rfl k_b0 ?_
    refine r_iconst (pc := 47) (v := 1) dX8_keeps_47 (by decide) ?_
    refine r_isub (pc := 48) dX8_keeps_48 ?_
    refine s_putI (pc := 49) dX8_keeps_49 fl_X8_262 rfl rfl k_b0 ?_
    refine r_iconst (pc := 52) (v := 0) dX8_keeps_52 (by decide) ?_
    refine r_istore_n (pc := 53) dX8_keeps_53 (by decide) ?_
    exact r_le (L' := [some (.ref b0), some (.int 0)]) ⟨rfl, ⟨rfl, trivial⟩⟩ K0
  · have K0 := K0.2 q
    refine r_aload_n (pc := 20) dX8_keeps_20 rfl ?_
    refine s_getR (pc := 21) dX8_keeps_21 fl_X8_36 rfl k_b0 g_b0_20 ?_
    refine r_iload_n (pc := 24) dX8_keeps_24 rfl ?_
    refine r_sipush (pc := 25) (v := 518) dX8_keeps_25 (by decide) ?_
    refine r_isub (pc := 28) dX8_keeps_28 ?_
    refine r_aload_n (pc := 29) dX8_keeps_29 rfl ?_
    refine s_getR (pc := 30) dX8_keeps_30 fl_X8_36 rfl k_b0 g_b0_20 ?_
    refine r_iload_n (pc := 33) dX8_keeps_33 rfl ?_
    obtain ⟨i_2, K0⟩ := K0
    refine s_iald (pc := 34) dX8_keeps_34 k_b0_20 i_2 ?_
    obtain ⟨i_3, K0⟩ := K0
    refine s_iast (pc := 35) dX8_keeps_35 k_b0_20 i_3 ?_
    refine r_iinc (pc := 36) (v := l1 + 1) dX8_keeps_36 rfl rfl (by decide) ?_
    refine r_goto (pc := 39) (L := [some (.ref b0), some (.int (l1 + 1))]) (tgt := 13) dX8_keeps_39 (by decide) ?_
    exact r_le (L' := [some (.ref b0), some (.int (l1 + 1))]) ⟨rfl, ⟨rfl, trivial⟩⟩ K0
set_option maxHeartbeats 2000000 in
theorem v_X8_keeps_54 {K : Sh} {x : Cn} {Q : Cn → Prop} {b0 : Nat} {l1 : Int32} {b0_20 : Nat} {b0_1 : Nat} {n_b0_1 : Nat} {n_b0_20 : Nat} (k_b0 : kk K b0 = some (8, 0)) (g_b0_20 : gr x b0 20 = some b0_20) (g_b0_1 : gr x b0 1 = some b0_1) (k_b0_1 : kk K b0_1 = some (20, n_b0_1)) (k_b0_20 : kk K b0_20 = some (20, n_b0_20)) (K0 : (518 ≤ l1 → (Q (ui x b0 19 ((gi x b0 19) + 1)))) ∧ (¬ 518 ≤ l1 → (vp_in l1 n_b0_1 ∧ (vp_in ((518 * (gi x b0 19)) + l1) n_b0_20 ∧ (GV mX8_keeps 54 [some (.ref b0), some (.int (l1 + 1))] [] K (ui x b0_20 (((518 * (gi x b0 19)) + l1) : Int32).toNatClampNeg (gi x b0_1 (l1 : Int32).toNatClampNeg)) Q))))) : GV mX8_keeps 54 [some (.ref b0), some (.int l1)] [] K x Q := by
  show mGM mX8_keeps 54 [some (.ref b0), some (.int l1)] [] (hp K x) (PV K Q)
  refine r_iload_n (pc := 54) dX8_keeps_54 rfl ?_
  refine r_sipush (pc := 55) (v := 518) dX8_keeps_55 (by decide) ?_
  refine r_icmp_ge (pc := 58) (tgt := 88) dX8_keeps_58 (by decide) (fun q => ?_) (fun q => ?_)
  · have K0 := K0.1 q
    refine r_aload_n (pc := 88) dX8_keeps_88 rfl ?_
    refine r_dup (pc := 89) dX8_keeps_89 rfl ?_
    refine s_getI (pc := 90) dX8_keeps_90 fl_X8_262 rfl k_b0 ?_
    refine r_iconst (pc := 93) (v := 1) dX8_keeps_93 (by decide) ?_
    refine r_iadd (pc := 94) dX8_keeps_94 ?_
    refine s_putI (pc := 95) dX8_keeps_95 fl_X8_262 rfl rfl k_b0 ?_
    exact s_ret rfl dX8_keeps_98 K0
  · have K0 := K0.2 q
    refine r_aload_n (pc := 61) dX8_keeps_61 rfl ?_
    refine s_getR (pc := 62) dX8_keeps_62 fl_X8_36 rfl k_b0 g_b0_20 ?_
    refine r_sipush (pc := 65) (v := 518) dX8_keeps_65 (by decide) ?_
    refine r_aload_n (pc := 68) dX8_keeps_68 rfl ?_
    refine s_getI (pc := 69) dX8_keeps_69 fl_X8_262 rfl k_b0 ?_
    refine r_imul (pc := 72) dX8_keeps_72 ?_
    refine r_iload_n (pc := 73) dX8_keeps_73 rfl ?_
    refine r_iadd (pc := 74) dX8_keeps_74 ?_
    refine r_aload_n (pc := 75) dX8_keeps_75 rfl ?_
    refine s_getR (pc := 76) dX8_keeps_76 fl_X8_9 rfl k_b0 g_b0_1 ?_
    refine r_iload_n (pc := 79) dX8_keeps_79 rfl ?_
    obtain ⟨i_2, K0⟩ := K0
    refine s_iald (pc := 80) dX8_keeps_80 k_b0_1 i_2 ?_
    obtain ⟨i_3, K0⟩ := K0
    refine s_iast (pc := 81) dX8_keeps_81 k_b0_20 i_3 ?_
    refine r_iinc (pc := 82) (v := l1 + 1) dX8_keeps_82 rfl rfl (by decide) ?_
    refine r_goto (pc := 85) (L := [some (.ref b0), some (.int (l1 + 1))]) (tgt := 54) dX8_keeps_85 (by decide) ?_
    exact r_le (L' := [some (.ref b0), some (.int (l1 + 1))]) ⟨rfl, ⟨rfl, trivial⟩⟩ K0
section
theorem sp_X8_keeps {x : Cn} {Q : Cn → Prop} {n : Nat} (M : MRf x 718) (hn : n ≤ 10) (h19 : gi x 717 19 = nI n) (k : ∀ y, RFr x y → (∀ a j, a ≠ 724 → ¬ (a = 717 ∧ j = 19) → gi y a j = gi x a j) → gi y 717 19 = nI (pn n) → (∀ j, j < pn n → ∀ i, i < 518 → gi y 724 (518 * j + i) = push (fun j i => gi x 724 (518 * j + i)) n (gi x 718) j i) → Q y) : mSV mX8_keeps [.ref 717] KW x Q := by
  have k724 : kk KW 724 = some (20, 5180) := by decide
  have k2 : ∀ m v y, m < 10 → gi y 717 19 = nI m → y.2 = x.2 → (∀ a j, a ≠ 724 → ¬ (a = 717 ∧ j = 19) → gi y a j = gi x a j) → v ≤ 518 → (∀ i, i < v → gi y 724 (518 * m + i) = gi x 718 i) → (∀ z, z.2 = x.2 → (∀ a j, a ≠ 724 → ¬ (a = 717 ∧ j = 19) → gi z a j = gi x a j) → gi z 717 19 = nI (m + 1) → (∀ i, i < 518 → gi z 724 (518 * m + i) = gi x 718 i) → (∀ i, i < 518 * m → gi z 724 i = gi y 724 i) → Q z) → GV mX8_keeps 54 [some (.ref 717), some (.int (nI v))] [] KW y Q := by
    intro m v y hm
    generalize hd : 518 - v = d
    induction d generalizing v y with
    | zero =>
      intro y1 y2 y3 hv y4 kq
      have : v = 518 := by omega
      subst this
      refine v_X8_keeps_54 km ((M.keep y2).2.2.2.2.2.2.2.1) ((M.keep y2).1) km1 k724 ⟨fun _ => ?_, fun z => absurd (Int32.le_refl _) z⟩
      rw [y1, nI_1]
      exact kq _ y2 (fun a j a1 a2 => by rw [gi_ui, if_neg a2]; exact y3 a j a1 a2) rfl (fun i hi => by rw [gi_ui, if_neg (by omega)]; exact y4 i hi) (fun i hi => by rw [gi_ui, if_neg (by omega)])
    | succ d ih =>
      intro y1 y2 y3 hv y4 kq
      refine v_X8_keeps_54 km ((M.keep y2).2.2.2.2.2.2.2.1) ((M.keep y2).1) km1 k724 ⟨fun z => absurd z (nI_ge (b := 518) (by omega) (by decide)), fun _ => ⟨vp_in_nI (by omega) (by decide), ?_⟩⟩
      rw [y1, show (518 : Int32) = nI 518 by decide, pk_mul, nI_add, nI_clamp (show v < 2 ^ 31 by omega), nI_clamp (show 518 * m + v < 2 ^ 31 by omega), nI_1]
      refine ⟨vp_in_nI (by omega) (by decide), ih (v + 1) _ (by omega) ?_ y2 (fun a j a1 a2 => by rw [gi_ui, if_neg (fun u => a1 u.1)]; exact y3 a j a1 a2) (by omega) (fun i hi => ?_) (fun z z1 z2 z3 z4 z5 => kq z z1 z2 z3 z4 (fun i hi => ?_))⟩
      · rw [gi_ui, if_neg (by omega)]; exact y1
      · rw [gi_ui]
        by_cases c : i = v
        · rw [c, if_pos ⟨rfl, rfl⟩]
          exact y3 718 v (by decide) (by omega)
        · rw [if_neg (by omega)]
          exact y4 i (by omega)
      · rw [z5 i hi, gi_ui, if_neg (by omega)]
  have fr : ∀ y, y.2 = x.2 → (∀ a j, a ≠ 724 → ¬ (a = 717 ∧ j = 19) → gi y a j = gi x a j) → RFr x y := fun y y1 y2 => ⟨y1, fun a j a1 a2 a3 a4 a5 a6 a7 => y2 a j a6 (fun u => a7 (by omega))⟩
  refine v_X8_keeps_0 km ?_
  rw [h19, show (10 : Int32) = nI 10 by decide, nI_eq (by omega) (by decide)]
  refine ⟨fun z => k2 n 0 x (by omega) h19 rfl (fun _ _ _ _ => rfl) (by omega) (fun i hi => absurd hi (by omega)) (fun y y1 y2 y3 y4 y5 => k y (fr y y1 y2) y2 ?_ (fun j hj i hi => ?_)), fun z => ?_⟩
  · unfold pn; rw [if_neg z]; exact y3
  · unfold pn at hj
    rw [if_neg z] at hj
    unfold push
    rw [if_neg z]
    by_cases c : j = n
    · rw [if_pos c, c]; exact y4 i hi
    · rw [if_neg c]; exact y5 _ (by omega)
  · subst z
    have k1 : ∀ d v y, v + d = 5180 → 518 ≤ v → y.2 = x.2 → (∀ a j, a ≠ 724 → gi y a j = gi x a j) → (∀ i, gi y 724 i = if i + 518 < v then gi x 724 (i + 518) else gi x 724 i) → GV mX8_keeps 13 [some (.ref 717), some (.int (nI v))] [] KW y Q := by
      intro d
      induction d with
      | zero =>
        intro v y hv h5 y1 y2 y3
        have : v = 5180 := by omega
        subst this
        refine v_X8_keeps_13 km ((M.keep y1).2.2.2.2.2.2.2.1) k724 ⟨fun _ => ?_, fun z => absurd (Int32.le_refl _) z⟩
        rw [y2 717 19 (by decide), h19, nI_pred]
        refine k2 9 0 _ (by omega) rfl y1 (fun a j a1 a2 => by rw [gi_ui, if_neg a2]; exact y2 a j a1) (by omega) (fun i hi => absurd hi (by omega)) (fun z z1 z2 z3 z4 z5 => k z (fr z z1 z2) z2 z3 (fun j hj i hi => ?_))
        have hj : j < 10 := hj
        unfold push
        rw [if_pos rfl]
        by_cases c : j = 9
        · rw [if_pos c, c]; exact z4 i hi
        · rw [if_neg c, z5 _ (by omega), gi_ui, if_neg (by omega), y3, if_pos (by omega)]
          congr 1
          omega
      | succ d ih =>
        intro v y hv h5 y1 y2 y3
        obtain ⟨v', rfl⟩ : ∃ v', v = v' + 518 := ⟨v - 518, by omega⟩
        refine v_X8_keeps_13 km ((M.keep y1).2.2.2.2.2.2.2.1) k724 ⟨fun z => absurd z (nI_ge (b := 5180) (by omega) (by decide)), fun _ => ⟨vp_in_nI (by omega) (by decide), ?_⟩⟩
        rw [sub518, nI_clamp (show v' < 2 ^ 31 by omega), nI_clamp (show v' + 518 < 2 ^ 31 by omega), nI_1]
        refine ⟨vp_in_nI (by omega) (by decide), ih (v' + 518 + 1) _ (by omega) (by omega) y1 (fun a j a1 => by rw [gi_ui, if_neg (fun u => a1 u.1)]; exact y2 a j a1) (fun i => ?_)⟩
        rw [gi_ui]
        by_cases c : i = v'
        · rw [if_pos ⟨rfl, c⟩, if_pos (by omega), c, y3, if_neg (by omega)]
        · rw [if_neg (fun u => c u.2), y3]
          by_cases c2 : i + 518 < v' + 518
          · rw [if_pos c2, if_pos (by omega)]
          · rw [if_neg c2, if_neg (by omega)]
    exact k1 (5180 - 518) 518 x (by omega) (by omega) rfl (fun _ _ _ => rfl) (fun i => by rw [if_neg (by omega)])
end
set_option maxHeartbeats 2000000 in
theorem v_X7_undo_0 {K : Sh} {x : Cn} {Q : Int32 → Cn → Prop} {b0 : Nat} {b0_2 : Nat} {b0_4 : Nat} {n_b0_4 : Nat} (k_b0 : kk K b0 = some (7, 0)) (g_b0_2 : gr x b0 2 = some b0_2) (g_b0_4 : gr x b0 4 = some b0_4) (k_b0_4 : kk K b0_4 = some (22, n_b0_4)) (k_b0_2 : kk K b0_2 = some (4, 0)) (K0 : (¬ (gi x b0 5) = 0 → (vp_in (gi (ui x b0 5 ((gi x b0 5) - 1)) b0 5) n_b0_4 ∧ (∃ c_3 : Nat, gr x b0_4 (((gi (ui x b0 5 ((gi x b0 5) - 1)) b0 5) : Int32).toNatClampNeg) = some c_3 ∧ (mSV mX4_copyFrom [.ref b0_2, .ref c_3] K (ui x b0 5 ((gi x b0 5) - 1)) (fun y_5 => Q (gi y_5 b0 5) y_5))))) ∧ ((gi x b0 5) = 0 → (Q (-1) x))) : mSI mX7_undo [.ref b0] K x Q := by
  refine s_I (by decide) (by simp [Value.category]) (Nat.le_of_ble_eq_true rfl) ?_
  show mGM mX7_undo 0 [some (.ref b0)] [] (hp K x) (PI K Q)
  refine r_aload_n (pc := 0) dX7_undo_0 rfl ?_
  refine s_getI (pc := 1) dX7_undo_1 fl_X7_35 rfl k_b0 ?_
  refine r_if_ne (pc := 4) (tgt := 9) dX7_undo_4 (by decide) (fun q => ?_) (fun q => ?_)
  · have K0 := K0.1 q
    refine r_aload_n (pc := 9) dX7_undo_9 rfl ?_
    refine r_dup (pc := 10) dX7_undo_10 rfl ?_
    refine s_getI (pc := 11) dX7_undo_11 fl_X7_35 rfl k_b0 ?_
    refine r_iconst (pc := 14) (v := 1) dX7_undo_14 (by decide) ?_
    refine r_isub (pc := 15) dX7_undo_15 ?_
    refine s_putI (pc := 16) dX7_undo_16 fl_X7_35 rfl rfl k_b0 ?_
    refine r_aload_n (pc := 19) dX7_undo_19 rfl ?_
    refine s_getR (pc := 20) dX7_undo_20 fl_X7_20 rfl k_b0 g_b0_2 ?_
    refine r_aload_n (pc := 23) dX7_undo_23 rfl ?_
    refine s_getR (pc := 24) dX7_undo_24 fl_X7_31 rfl k_b0 g_b0_4 ?_
    refine r_aload_n (pc := 27) dX7_undo_27 rfl ?_
    refine s_getI (pc := 28) dX7_undo_28 fl_X7_35 rfl k_b0 ?_
    obtain ⟨i_2, K0⟩ := K0
    obtain ⟨c_3, g_4, K0⟩ := K0
    refine s_aald (pc := 31) dX7_undo_31 (by decide) rfl k_b0_4 i_2 g_4 ?_
    refine s_VV (pc := 32) mX4_copyFrom (ci := 4) (a := b0_2) (As := [.ref c_3]) dX7_undo_32 lk_X7_80 in_X4_copyFrom mo_X4_copyFrom ⟨by decide, rfl⟩ ⟨by decide, by decide⟩ (Nat.le_of_ble_eq_true rfl) k_b0_2 (mSV_mono K0 (fun y_5 K0 => ?_))
    refine r_aload_n (pc := 35) dX7_undo_35 rfl ?_
    refine s_getI (pc := 36) dX7_undo_36 fl_X7_35 rfl k_b0 ?_
    exact s_iret rfl dX7_undo_39 K0
  · have K0 := K0.2 q
    refine r_iconst (pc := 7) (v := (-1)) dX7_undo_7 (by decide) ?_
    exact s_iret rfl dX7_undo_8 K0
set_option maxHeartbeats 2000000 in
theorem v_X8_undo_0 {K : Sh} {x : Cn} {Q : Int32 → Cn → Prop} {b0 : Nat}  (k_b0 : kk K b0 = some (8, 0)) (K0 : (¬ (gi x b0 19) = 0 → (GI mX8_undo 21 [some (.ref b0), some (.int 0)] [] K (ui x b0 19 ((gi x b0 19) - 1)) Q)) ∧ ((gi x b0 19) = 0 → (Q (-1) x))) : mSI mX8_undo [.ref b0] K x Q := by
  refine s_I (by decide) (by simp [Value.category]) (Nat.le_of_ble_eq_true rfl) ?_
  show mGM mX8_undo 0 [some (.ref b0), none] [] (hp K x) (PI K Q)
  refine r_aload_n (pc := 0) dX8_undo_0 rfl ?_
  refine s_getI (pc := 1) dX8_undo_1 fl_X8_262 rfl k_b0 ?_
  refine r_if_ne (pc := 4) (tgt := 9) dX8_undo_4 (by decide) (fun q => ?_) (fun q => ?_)
  · have K0 := K0.1 q
    refine r_aload_n (pc := 9) dX8_undo_9 rfl ?_
    refine r_dup (pc := 10) dX8_undo_10 rfl ?_
    refine s_getI (pc := 11) dX8_undo_11 fl_X8_262 rfl k_b0 ?_
    refine r_iconst (pc := 14) (v := 1) dX8_undo_14 (by decide) ?_
    refine r_isub (pc := 15) dX8_undo_15 ?_
    refine s_putI (pc := 16) dX8_undo_16 fl_X8_262 rfl rfl k_b0 ?_
    refine r_iconst (pc := 19) (v := 0) dX8_undo_19 (by decide) ?_
    refine r_istore_n (pc := 20) dX8_undo_20 (by decide) ?_
    exact r_le (L' := [some (.ref b0), some (.int 0)]) ⟨rfl, ⟨rfl, trivial⟩⟩ K0
  · have K0 := K0.2 q
    refine r_iconst (pc := 7) (v := (-1)) dX8_undo_7 (by decide) ?_
    exact s_iret rfl dX8_undo_8 K0
set_option maxHeartbeats 2000000 in
theorem v_X8_undo_21 {K : Sh} {x : Cn} {Q : Int32 → Cn → Prop} {b0 : Nat} {l1 : Int32} {b0_1 : Nat} {b0_20 : Nat} {n_b0_20 : Nat} {n_b0_1 : Nat} (k_b0 : kk K b0 = some (8, 0)) (g_b0_1 : gr x b0 1 = some b0_1) (g_b0_20 : gr x b0 20 = some b0_20) (k_b0_20 : kk K b0_20 = some (20, n_b0_20)) (k_b0_1 : kk K b0_1 = some (20, n_b0_1)) (K0 : (518 ≤ l1 → (Q (gi x b0 19) x)) ∧ (¬ 518 ≤ l1 → (vp_in ((518 * (gi x b0 19)) + l1) n_b0_20 ∧ (vp_in l1 n_b0_1 ∧ (GI mX8_undo 21 [some (.ref b0), some (.int (l1 + 1))] [] K (ui x b0_1 (l1 : Int32).toNatClampNeg (gi x b0_20 (((518 * (gi x b0 19)) + l1) : Int32).toNatClampNeg)) Q))))) : GI mX8_undo 21 [some (.ref b0), some (.int l1)] [] K x Q := by
  show mGM mX8_undo 21 [some (.ref b0), some (.int l1)] [] (hp K x) (PI K Q)
  refine r_iload_n (pc := 21) dX8_undo_21 rfl ?_
  refine r_sipush (pc := 22) (v := 518) dX8_undo_22 (by decide) ?_
  refine r_icmp_ge (pc := 25) (tgt := 55) dX8_undo_25 (by decide) (fun q => ?_) (fun q => ?_)
  · have K0 := K0.1 q
    refine r_aload_n (pc := 55) dX8_undo_55 rfl ?_
    refine s_getI (pc := 56) dX8_undo_56 fl_X8_262 rfl k_b0 ?_
    exact s_iret rfl dX8_undo_59 K0
  · have K0 := K0.2 q
    refine r_aload_n (pc := 28) dX8_undo_28 rfl ?_
    refine s_getR (pc := 29) dX8_undo_29 fl_X8_9 rfl k_b0 g_b0_1 ?_
    refine r_iload_n (pc := 32) dX8_undo_32 rfl ?_
    refine r_aload_n (pc := 33) dX8_undo_33 rfl ?_
    refine s_getR (pc := 34) dX8_undo_34 fl_X8_36 rfl k_b0 g_b0_20 ?_
    refine r_sipush (pc := 37) (v := 518) dX8_undo_37 (by decide) ?_
    refine r_aload_n (pc := 40) dX8_undo_40 rfl ?_
    refine s_getI (pc := 41) dX8_undo_41 fl_X8_262 rfl k_b0 ?_
    refine r_imul (pc := 44) dX8_undo_44 ?_
    refine r_iload_n (pc := 45) dX8_undo_45 rfl ?_
    refine r_iadd (pc := 46) dX8_undo_46 ?_
    obtain ⟨i_2, K0⟩ := K0
    refine s_iald (pc := 47) dX8_undo_47 k_b0_20 i_2 ?_
    obtain ⟨i_3, K0⟩ := K0
    refine s_iast (pc := 48) dX8_undo_48 k_b0_1 i_3 ?_
    refine r_iinc (pc := 49) (v := l1 + 1) dX8_undo_49 rfl rfl (by decide) ?_
    refine r_goto (pc := 52) (L := [some (.ref b0), some (.int (l1 + 1))]) (tgt := 21) dX8_undo_52 (by decide) ?_
    exact r_le (L' := [some (.ref b0), some (.int (l1 + 1))]) ⟨rfl, ⟨rfl, trivial⟩⟩ K0
theorem eq_undo : Both mX7_undo mX8_undo [] := by
  intro x R
  obtain ⟨W, C, S, A, N, E, nm, hs⟩ := R.sea
  obtain ⟨n, hh, h19⟩ := hs.hs
  obtain ⟨g1, g2, g3⟩ := id hh
  refine v_X7_undo_0 k0 R.1.2.1 R.1.2.2.2.1 (show kk KW 58 = some (22, 10) by decide) (ks0 E.1) ?_
  rw [g1, nI_z (by omega)]
  refine ⟨fun z => ?_, fun z => v_X8_undo_0 km ?_⟩
  · obtain ⟨m, rfl⟩ : ∃ m, n = m + 1 := ⟨n - 1, by omega⟩
    rw [nI_pred, gi_ui, if_pos ⟨rfl, rfl⟩, nI_clamp (by omega)]
    obtain ⟨q, W2, S2, A2, N2, q1, q2, q3⟩ := g3 m (by omega)
    obtain ⟨i, hi, ei⟩ := R.1.past.2.1 m (by omega)
    have hq : q = 177 + 54 * i := Option.some.inj (q1.symm.trans ei)
    refine ⟨vp_in_nI (by omega) (by decide), q, q1, ?_⟩
    have eo : ∀ a k, ¬ (a = 0 ∧ k = 5) → gi (ui x 0 5 (nI m)) a k = gi x a k := fun a k h => by rw [gi_ui, if_neg h]
    refine sp_X4_copyFrom E.1 (E.2.1.keep rfl) (q2.mv (y := ui x 0 5 (nI m)) (fun _ _ _ _ => rfl) (fun a k z1 z2 _ => eo a k (by omega)) (fun _ _ => rfl)) (by omega) (fun y f Ey => ?_)
    rw [f.2 0 5 (by omega), gi_ui, if_pos ⟨rfl, rfl⟩]
    have c2 : CRf y := R.1.keep f.1
    have m2 : MRf y 718 := R.2.1.keep f.1
    have eo2 : ∀ a k, ¬ (2 ≤ a ∧ a < 56) → ¬ (a = 0 ∧ k = 5) → gi y a k = gi x a k := fun a k h1 h2 => (f.2 a k (by omega)).trans (eo a k h2)
    have hh2 : Hs y C (gi x 718) m (fun j i => gi x 724 (518 * j + i)) := by
      refine ⟨(f.2 0 5 (by omega)).trans rfl, by omega, fun j hj => ?_⟩
      obtain ⟨q', W3, S3, A3, N3, p1, p2, p3⟩ := g3 j (by omega)
      obtain ⟨i', hi', ei'⟩ := R.1.past.2.1 j (by omega)
      have hq' : q' = 177 + 54 * i' := Option.some.inj (p1.symm.trans ei')
      exact ⟨q', W3, S3, A3, N3, (f.rr 58 j).trans p1, p2.mv (fun a k _ _ => f.rr a k) (fun a k z1 z2 _ => eo2 a k (by omega) (by omega)) (fun _ _ => rfl), p3⟩
    refine v_X8_undo_0 km ?_
    rw [eo2 717 19 (by omega) (by omega), h19, nI_z (by omega)]
    refine ⟨fun _ => ?_, fun z => absurd z (by omega)⟩
    rw [nI_pred]
    have key : ∀ d v w, v + d = 518 → w.2 = y.2 → gi w 717 19 = nI m → (∀ a k, a ≠ 718 → ¬ (a = 717 ∧ k = 19) → gi w a k = gi y a k) → (∀ i, i < v → gi w 718 i = gi x 724 (518 * m + i)) → GI mX8_undo 21 [some (.ref 717), some (.int (nI v))] [] KW w (fun r' z => nI m = r' ∧ Rel z) := by
      intro d
      induction d with
      | zero =>
        intro v w hv w1 w2 w3 w4
        have : v = 518 := by omega
        subst this
        have m3 := m2.keep w1
        refine v_X8_undo_21 km m3.1 m3.2.2.2.2.2.2.2.1 (show kk KW 724 = some (20, 5180) by decide) km1 ⟨fun _ => ?_, fun z => absurd (Int32.le_refl _) z⟩
        rw [w2]
        refine ⟨rfl, R.fin nm (y := y) (fun a k a1 a2 a3 a4 => eo2 a k a1 a4) c2 hh2 Ey q3 m2 ⟨w1, fun a k a1 a2 a3 a4 a5 a6 a7 => w3 a k a1 (fun u => a7 (by omega))⟩ w2 (fun j hj i hi => ?_) w4⟩
        rw [w3 724 _ (by decide) (by omega), eo2 724 _ (by omega) (by omega)]
      | succ d ih =>
        intro v w hv w1 w2 w3 w4
        have m3 := m2.keep w1
        refine v_X8_undo_21 km m3.1 m3.2.2.2.2.2.2.2.1 (show kk KW 724 = some (20, 5180) by decide) km1 ⟨fun z => absurd z (nI_ge (b := 518) (by omega) (by decide)), fun _ => ?_⟩
        rw [w2, show (518 : Int32) = nI 518 by decide, pk_mul, nI_add, nI_clamp (show v < 2 ^ 31 by omega), nI_clamp (show 518 * m + v < 2 ^ 31 by omega), nI_1]
        refine ⟨vp_in_nI (by omega) (by decide), vp_in_nI (by omega) (by decide), ih (v + 1) _ (by omega) w1 ?_ (fun a k a1 a2 => ?_) (fun i hi => ?_)⟩
        · rw [gi_ui, if_neg (by omega)]; exact w2
        · rw [gi_ui, if_neg (fun u => a1 u.1)]; exact w3 a k a1 a2
        · rw [gi_ui]
          by_cases c : i = v
          · rw [if_pos ⟨rfl, c⟩, c, w3 724 _ (by decide) (by omega), eo2 724 _ (by omega) (by omega)]
          · rw [if_neg (fun u => c u.2)]
            exact w4 i (by omega)
    exact key 518 0 _ (by omega) rfl rfl (fun a k a1 a2 => by rw [gi_ui, if_neg a2]) (fun i hi => absurd hi (by omega))
  · rw [h19, nI_z (by omega)]
    exact ⟨fun w => absurd z w, fun _ => ⟨rfl, R⟩⟩
end
/-! 46.acts.lean.txt -/
section
def uT (T : TT) (k : Nat) (v : Int32) : TT := fun i => if i = k then v else T i
theorem gi_718 (x : Cn) (k : Nat) (v : Int32) : gi (ui x 718 k v) 718 = uT (gi x 718) k v := by
  funext i
  rw [gi_ui]
  unfold uT
  by_cases c : i = k
  · rw [if_pos ⟨rfl, c⟩, if_pos c]
  · rw [if_neg (fun z => c z.2), if_neg c]
theorem uT_at (T : TT) (k : Nat) (v : Int32) : uT T k v k = v := if_pos rfl
theorem uT_ne (T : TT) {k i : Nat} (v : Int32) (h : i ≠ k) : uT T k v i = T i := if_neg h
theorem so_uT (T : TT) (s k s' k' : Nat) (v : Int32) (hk : k < 12) (hk' : k' < 12) : so (uT T (62 + 12 * s + k) v) s' k' = if s' = s ∧ k' = k then v else so T s' k' := by
  unfold so uT
  by_cases c : s' = s ∧ k' = k
  · rw [if_pos c, if_pos (by rw [c.1, c.2])]
  · rw [if_neg c, if_neg (by omega)]
/-- a series changes -/
theorem SEA.upS {x y : Cn} {q : Nat} {T T' : TT} {W C S A N s p : Nat} (E : SEA x q T W C S A N) (hs : s < S) (hp : gr x (q + 3) s = some p) (f : EQx x y p) (hT : ∀ i, i < 518 → ¬ (62 + 12 * s ≤ i ∧ i < 74 + 12 * s) → T' i = T i) (hS : SER y p T' s) (hw : Wse T' C W s) : SEA y q T' W C S A N := by
  obtain ⟨e1, e2, ⟨v0, v1, v2, v3, v4, v5, v6, v7⟩, w1, w2, w3, w4, w5, w6, w7, w8, w9, w10, w11, w12, w13, w14⟩ := E
  have hg : ∀ b k, gr y b k = gr x b k := fun b k => by unfold gr; rw [f.1]
  obtain ⟨r1, r2, r3, r4, r5, r6, r7, r8, r9⟩ := id e2
  obtain ⟨j, hj, ej⟩ := r6 s (by omega)
  have ep : p = q + 6 + j := Option.some.inj (hp.symm.trans ej)
  refine ⟨e1, e2.keep f.1, ⟨?_, ?_, ?_, ?_, ?_, ?_, ?_, ?_⟩, ?_⟩
  · rw [f.2 q 0 (by omega), hT 0 (by decide) (by omega)]; exact v0
  · rw [f.2 q 1 (by omega), hT 4 (by decide) (by omega)]; exact v1
  · rw [f.2 q 2 (by omega), hT 5 (by decide) (by omega)]; exact v2
  · rw [f.2 q 3 (by omega), hT 2 (by decide) (by omega)]; exact v3
  · rw [f.2 q 4 (by omega), hT 3 (by decide) (by omega)]; exact v4
  · intro h hh
    rw [f.2 (q + 1) h (by omega), f.2 (q + 2) h (by omega), hT _ (by omega) (by omega), hT _ (by omega) (by omega)]
    exact v5 h hh
  · intro s' p' hs' hp'
    rw [hg] at hp'
    by_cases c : s' = s
    · rw [c] at hp' ⊢
      have : p' = p := Option.some.inj (hp'.symm.trans hp)
      rw [this]
      exact hS
    · have hne : p' ≠ p := fun e => c (r7 s' s (by omega) (by omega) (by rw [hp', hp, e]))
      exact (v6 s' p' hs' hp').cg (fun k _ => f.2 p' k hne) (fun k hk => hT _ (by omega) (by omega))
  · intro a p' ha hp'
    rw [hg] at hp'
    obtain ⟨j', hj', ej'⟩ := r8 a (by omega)
    have ep' : p' = q + 30 + j' := Option.some.inj (hp'.symm.trans ej')
    exact (v7 a p' ha hp').cg (fun k _ => f.2 p' k (by omega)) (fun k hk => hT _ (by omega) (by omega))
  · refine ⟨by rw [hT 0 (by decide) (by omega)]; exact w1, w2, w3, by rw [hT 1 (by decide) (by omega)]; exact w4, w5, by rw [hT 2 (by decide) (by omega)]; exact w6, w7, by rw [hT 3 (by decide) (by omega)]; exact w8, w9, by rw [hT 4 (by decide) (by omega)]; exact w10, w11, fun h hh => by rw [hT _ (by omega) (by omega), hT _ (by omega) (by omega)]; exact w12 h hh, fun s' hs' => ?_, fun a ha => (w14 a ha).cg (fun k hk => hT _ (by omega) (by omega))⟩
    by_cases c : s' = s
    · rw [c]; exact hw
    · exact (w13 s' hs').cg (fun k hk => hT _ (by omega) (by omega))
/-! weeks go from one kind to another -/
def goT (T : TT) (s : Nat) (w : Int32) (k o : Nat) : TT := uT (uT T (62 + 12 * s + (7 + k)) (so T s (7 + k) &&& (w ^^^ (-1)))) (62 + 12 * s + (7 + o)) (so T s (7 + o) ||| w)
theorem so_goT (T : TT) (s : Nat) (w : Int32) {k o : Nat} (hk : k < 5) (ho : o < 5) {j : Nat} (hj : j < 12) : so (goT T s w k o) s j = if j = 7 + o then so T s (7 + o) ||| w else if j = 7 + k then so T s (7 + k) &&& (w ^^^ (-1)) else so T s j := by
  unfold goT
  rw [so_uT _ _ _ _ _ _ (by omega) hj, so_uT _ _ _ _ _ _ (by omega) hj]
  by_cases c : j = 7 + o
  · rw [if_pos ⟨rfl, c⟩, if_pos c]
  · rw [if_neg (fun z => c z.2), if_neg c]
    by_cases d : j = 7 + k
    · rw [if_pos ⟨rfl, d⟩, if_pos d]
    · rw [if_neg (fun z => d z.2), if_neg d]
theorem goT_off (T : TT) (s : Nat) (w : Int32) {k o : Nat} (hk : k < 5) (ho : o < 5) (i : Nat) (h : ¬ (62 + 12 * s ≤ i ∧ i < 74 + 12 * s)) : goT T s w k o i = T i := by
  unfold goT
  rw [uT_ne _ _ (by omega), uT_ne _ _ (by omega)]
theorem tb_all (T : TT) (s i : Nat) : tb (bas T s ||| so T s 11) i = true ↔ ∃ j, j < 5 ∧ tb (so T s (7 + j)) i = true := by
  rw [tb_or, tb_bas]
  simp only [Bool.or_eq_true]
  constructor
  · rintro ((((h | h) | h) | h) | h)
    · exact ⟨0, by decide, h⟩
    · exact ⟨1, by decide, h⟩
    · exact ⟨2, by decide, h⟩
    · exact ⟨3, by decide, h⟩
    · exact ⟨4, by decide, h⟩
  · rintro ⟨j, hj, h⟩
    have : j = 0 ∨ j = 1 ∨ j = 2 ∨ j = 3 ∨ j = 4 := by omega
    rcases this with rfl | rfl | rfl | rfl | rfl
    · exact Or.inl (Or.inl (Or.inl (Or.inl h)))
    · exact Or.inl (Or.inl (Or.inl (Or.inr h)))
    · exact Or.inl (Or.inl (Or.inr h))
    · exact Or.inl (Or.inr h)
    · exact Or.inr h
theorem tb_goT {T : TT} {s : Nat} {w : Int32} {k o i : Nat} (hk : k < 5) (ho : o < 5) (hi : i < 32) {j : Nat} (hj : j < 5) : tb (so (goT T s w k o) s (7 + j)) i = if j = o then (tb (so T s (7 + o)) i || tb w i) else if j = k then (tb (so T s (7 + k)) i && !tb w i) else tb (so T s (7 + j)) i := by
  rw [so_goT T s w hk ho (by omega)]
  by_cases c : j = o
  · rw [if_pos (by omega), if_pos c, tb_or]
  · rw [if_neg (by omega), if_neg c]
    by_cases d : j = k
    · rw [if_pos (by omega), if_pos d, tb_and, tb_not _ hi]
    · rw [if_neg (by omega), if_neg d]
theorem all_goT {T : TT} {s : Nat} {w : Int32} {k o : Nat} (hk : k < 5) (ho : o < 5) (hko : k ≠ o) (hw : ∀ i, i < 32 → tb w i = true → tb (so T s (7 + k)) i = true) : bas (goT T s w k o) s ||| so (goT T s w k o) s 11 = bas T s ||| so T s 11 := by
  apply tb_ext
  intro i hi
  rw [Bool.eq_iff_iff, tb_all, tb_all]
  constructor
  · rintro ⟨j, hj, h⟩
    rw [tb_goT hk ho hi hj] at h
    by_cases c : j = o
    · rw [if_pos c, Bool.or_eq_true] at h
      rcases h with h | h
      · exact ⟨o, ho, h⟩
      · exact ⟨k, hk, hw i hi h⟩
    · rw [if_neg c] at h
      by_cases d : j = k
      · rw [if_pos d, Bool.and_eq_true] at h
        exact ⟨k, hk, h.1⟩
      · rw [if_neg d] at h
        exact ⟨j, hj, h⟩
  · rintro ⟨j, hj, h⟩
    by_cases u : tb w i = true
    · exact ⟨o, ho, by rw [tb_goT hk ho hi ho, if_pos rfl, u, Bool.or_true]⟩
    · refine ⟨j, hj, ?_⟩
      rw [tb_goT hk ho hi hj]
      by_cases c : j = o
      · rw [if_pos c, ← c, h, Bool.true_or]
      · rw [if_neg c]
        by_cases d : j = k
        · rw [if_pos d, ← d, h, Bool.eq_false_iff.mpr u]; rfl
        · rw [if_neg d]; exact h
theorem Wse.go {T : TT} {C W s : Nat} {w : Int32} {k o : Nat} (g : Wse T C W s) (hk : k < 5) (ho : o < 5) (hko : k ≠ o) (hw : ∀ i, i < 32 → tb w i = true → tb (so T s (7 + k)) i = true) : Wse (goT T s w k o) C W s := by
  obtain ⟨g1, g2, g3, g4, g5, g6, g7, g8⟩ := g
  have lo : ∀ j, j < 7 → so (goT T s w k o) s j = so T s j := fun j hj => by rw [so_goT T s w hk ho (by omega), if_neg (by omega), if_neg (by omega)]
  have src : ∀ i j, j < 5 → i < 32 → tb (so (goT T s w k o) s (7 + j)) i = true → (tb w i = true ∧ j = o) ∨ (tb (so T s (7 + j)) i = true ∧ (j = k → ¬ tb w i = true)) := by
    intro i j hj hi h
    rw [tb_goT hk ho hi hj] at h
    by_cases c : j = o
    · rw [if_pos c, Bool.or_eq_true] at h
      rcases h with h | h
      · exact Or.inr ⟨by rw [c]; exact h, fun e => absurd (e.symm.trans c) hko⟩
      · exact Or.inl ⟨h, c⟩
    · rw [if_neg c] at h
      by_cases d : j = k
      · rw [if_pos d, Bool.and_eq_true, Bool.not_eq_true'] at h
        exact Or.inr ⟨by rw [d]; exact h.1, fun _ e => by rw [h.2] at e; cases e⟩
      · rw [if_neg d] at h
        exact Or.inr ⟨h, fun e => absurd e d⟩
  refine ⟨by rw [lo 0 (by decide)]; exact g1, by rw [lo 1 (by decide)]; exact g2, by rw [lo 2 (by decide)]; exact g3, by rw [lo 3 (by decide)]; exact g4, by rw [lo 4 (by decide)]; exact g5, by rw [lo 5 (by decide), lo 6 (by decide)]; exact g6, fun i hi a b ha hb h1 h2 => ?_, fun i a ha h => ?_⟩
  · rcases src i a ha hi h1 with ⟨u1, u2⟩ | ⟨u1, u2⟩ <;> rcases src i b hb hi h2 with ⟨u3, u4⟩ | ⟨u3, u4⟩
    · omega
    · have := g7 i hi k b hk hb (hw i hi u1) u3
      exact absurd u1 (u4 this.symm)
    · have := g7 i hi k a hk ha (hw i hi u3) u1
      exact absurd u3 (u2 this.symm)
    · exact g7 i hi a b ha hb u1 u3
  · by_cases hi : i < 32
    · rcases src i a ha hi h with ⟨u1, u2⟩ | ⟨u1, u2⟩
      · exact g8 i k hk (hw i hi u1)
      · exact g8 i a ha u1
    · rw [tb_ge _ (by omega)] at h
      cases h
/-! what class and reference show between their acts -/
def AC (x y : Cn) (W C S A N n : Nat) (T : TT) (H : Nat → TT) : Prop := CFr x y ∧ CRf y ∧ MRf y 718 ∧ Hs y C (gi x 718) n H ∧ SEA y 2 T W C S A N
def RS (z : Cn) (T : TT) (n : Nat) (H : Nat → TT) : Prop := MRf z 718 ∧ gi z 718 = T ∧ gi z 717 19 = nI n ∧ n ≤ 10 ∧ ∀ j, j < n → ∀ i, i < 518 → gi z 724 (518 * j + i) = H j i
theorem Rel.ac {x : Cn} (R : Rel x) : ∃ W C S A N n H, AC x x W C S A N n (gi x 718) H ∧ RS x (gi x 718) n H ∧ NMr x 56 (gi x 718) C := by
  obtain ⟨W, C, S, A, N, E, nm, hs⟩ := R.sea
  obtain ⟨n, hh, h19⟩ := hs.hs
  exact ⟨W, C, S, A, N, n, _, ⟨CFr.rf x, R.1, R.2.1, hh, E⟩, ⟨R.2.1, rfl, h19, hh.2.1, fun _ _ _ _ => rfl⟩, nm⟩
theorem AC.rs {x y : Cn} {W C S A N n m : Nat} {T T0 : TT} {H H0 : Nat → TT} (a : AC x y W C S A N n T H) (r : RS x T0 m H0) : RS y T0 m H0 := by
  have e : ∀ b k, 717 ≤ b → gi y b k = gi x b k := fun b k hb => a.1 b k (by omega) (by omega) (by omega) (by omega)
  exact ⟨a.2.2.1, by rw [show gi y 718 = gi x 718 from funext (fun k => e 718 k (by decide))]; exact r.2.1, by rw [e _ _ (by decide)]; exact r.2.2.1, r.2.2.2.1, fun j hj i hi => by rw [e _ _ (by decide)]; exact r.2.2.2.2 j hj i hi⟩
theorem AC.fin {x y z : Cn} {W C S A N n : Nat} {T : TT} {H : Nat → TT} (R : Rel x) (nm : NMr x 56 (gi x 718) C) (a : AC x y W C S A N n T H) (hT : ∀ c, c < C → T (54 + c) = gi x 718 (54 + c)) (f : RFr y z) (r : RS z T n H) : Rel z :=
  R.fin nm a.1 a.2.1 a.2.2.2.1 a.2.2.2.2 hT a.2.2.1 f r.2.2.1 r.2.2.2.2 (fun i _ => congrFun r.2.1 i)
/-- the landed one's season alone changes -/
theorem AC.up {x y z : Cn} {W C S A N W' S' A' N' n : Nat} {T T' : TT} {H : Nat → TT} (a : AC x y W C S A N n T H) (h1 : ∀ b k, ¬ (2 ≤ b ∧ b < 56) → gi z b k = gi y b k) (h2 : z.2 = y.2) (E : SEA z 2 T' W' C S' A' N') : AC x z W' C S' A' N' n T' H :=
  ⟨fun b k a1 a2 a3 a4 => (h1 b k a1).trans (a.1 b k a1 a2 a3 a4), a.2.1.keep h2, a.2.2.1.keep h2, a.2.2.2.1.mv a.2.1 (h1 0 5 (by omega)) (fun b k g1 g2 => h1 b k (by omega)) (fun b k _ => by unfold gr; rw [h2]) (fun _ _ => rfl), E⟩
theorem AC.e7 {x y z : Cn} {W C S A N n : Nat} {T : TT} {H : Nat → TT} (a : AC x y W C S A N n T H) (h : EQx y z 7) : AC x z W C S A N n T H := a.up (fun b k g => h.2 b k (by omega)) h.1 (a.2.2.2.2.eqx h (Or.inl rfl))
theorem AC.ser {x y z : Cn} {W C S A N n s p : Nat} {T T' : TT} {H : Nat → TT} (a : AC x y W C S A N n T H) (hs : s < S) (hp : gr y 5 s = some p) (f : EQx y z p) (hT : ∀ i, i < 518 → ¬ (62 + 12 * s ≤ i ∧ i < 74 + 12 * s) → T' i = T i) (hS : SER z p T' s) (hw : Wse T' C W s) : AC x z W C S A N n T' H := by
  have E := a.2.2.2.2
  have hS24 : S ≤ 24 := E.nums.2.2.2.2.2.2.1
  obtain ⟨j, hj, ej⟩ := E.2.1.2.2.2.2.2.1 s (by omega)
  have ep : p = 2 + 6 + j := Option.some.inj (hp.symm.trans ej)
  exact a.up (fun b k g => f.2 b k (by omega)) f.1 (E.upS hs hp f hT hS hw)
theorem AC.rem {x y : Cn} {Q : Cn → Prop} {W C S A N n : Nat} {T : TT} {H : Nat → TT} (a : AC x y W C S A N n T H) (hT : ∀ c, c < C → T (54 + c) = gi x 718 (54 + c)) (k : ∀ z, AC x z W C S A N (pn n) T (push H n T) → (∀ b j, 2 ≤ b → b < 56 → gi z b j = gi y b j) → (∀ b j, b ≠ 58 → gr z b j = gr y b j) → Q z) : mSV mX7_remember [.ref 0] KW y Q := by
  obtain ⟨a1, a2, a3, a4, a5⟩ := a
  have a4' : Hs y C T n H := ⟨a4.1, a4.2.1, fun j hj => by
    obtain ⟨q, W2, S2, A2, N2, q1, q2, q3⟩ := a4.2.2 j hj
    exact ⟨q, W2, S2, A2, N2, q1, q2, fun c hc => (q3 c hc).trans (hT c hc).symm⟩⟩
  refine sp_X7_remember a2 a5 a4' (fun z z1 z2 z3 z4 => k z ⟨fun b j b1 b2 b3 b4 => (z2 b j b3 b4).trans (a1 b j b1 b2 b3 b4), z1, ?_, ?_, a5.mv (fun b j g1 g2 => z3 b j (by omega)) (fun b j g1 g2 _ => z2 b j (by omega) (by omega)) (fun _ _ => rfl)⟩ (fun b j g1 g2 => z2 b j (by omega) (by omega)) z3)
  · unfold MRf at a3 ⊢
    simp only [z3 717 _ (by decide)]
    exact a3
  · exact ⟨z4.1, z4.2.1, fun j hj => by
      obtain ⟨q, W2, S2, A2, N2, q1, q2, q3⟩ := z4.2.2 j hj
      exact ⟨q, W2, S2, A2, N2, q1, q2, fun c hc => (q3 c hc).trans (hT c hc)⟩⟩
theorem RS.keeps {x : Cn} {Q : Cn → Prop} {n : Nat} {T : TT} {H : Nat → TT} (r : RS x T n H) (k : ∀ y, RFr x y → RS y T (pn n) (push H n T) → Q y) : mSV mX8_keeps [.ref 717] KW x Q := by
  obtain ⟨r1, r2, r3, r4, r5⟩ := r
  refine sp_X8_keeps r1 r4 r3 (fun y f y1 y2 y3 => k y f ⟨r1.keep f.1, ?_, y2, ?_, fun j hj i hi => ?_⟩)
  · rw [← r2]
    funext i
    exact y1 718 i (by decide) (by omega)
  · unfold pn
    by_cases c : n = 10
    · rw [if_pos c]; exact Nat.le_refl _
    · rw [if_neg c]; omega
  · rw [y3 j hj i hi, r2]
    unfold pn at hj
    unfold push
    by_cases c : n = 10
    · rw [if_pos c] at hj
      rw [if_pos c, if_pos c]
      by_cases d : j = 9
      · rw [if_pos d, if_pos d]
      · rw [if_neg d, if_neg d]
        exact r5 (j + 1) (by omega) i hi
    · rw [if_neg c] at hj
      rw [if_neg c, if_neg c]
      by_cases d : j = n
      · rw [if_pos d, if_pos d]
      · rw [if_neg d, if_neg d]
        exact r5 j (by omega) i hi
theorem RS.u8 {x : Cn} {n k : Nat} {T : TT} {H : Nat → TT} {v : Int32} (r : RS x T n H) : RS (ui x 718 k v) (uT T k v) n H := by
  obtain ⟨r1, r2, r3, r4, r5⟩ := r
  exact ⟨r1.keep rfl, by rw [gi_718, r2], by rw [gi_ui, if_neg (by omega)]; exact r3, r4, fun j hj i hi => by rw [gi_ui, if_neg (by omega)]; exact r5 j hj i hi⟩
set_option maxHeartbeats 2000000 in
theorem v_X8_lays_0 {K : Sh} {x : Cn} {Q : Cn → Prop} {b0 : Nat} {l1 : Int32} {l2 : Int32} {l3 : Int32} {b0_3 : Nat} {n_b0_3 : Nat} (k_b0 : kk K b0 = some (8, 0)) (g_b0_3 : gr x b0 3 = some b0_3) (k_b0_3 : kk K b0_3 = some (20, n_b0_3)) (K0 : vp_in ((62 + (12 * l1)) + l2) n_b0_3 ∧ (Q (ui x b0_3 (((62 + (12 * l1)) + l2) : Int32).toNatClampNeg l3))) : mSV mX8_lays [.ref b0, .int l1, .int l2, .int l3] K x Q := by
  refine s_V (by decide) (by simp [Value.category]) (Nat.le_of_ble_eq_true rfl) ?_
  show mGM mX8_lays 0 [some (.ref b0), some (.int l1), some (.int l2), some (.int l3)] [] (hp K x) (PV K Q)
  refine r_aload_n (pc := 0) dX8_lays_0 rfl ?_
  refine s_getR (pc := 1) dX8_lays_1 fl_X8_16 rfl k_b0 g_b0_3 ?_
  refine r_bipush (pc := 4) (v := 62) dX8_lays_4 (by decide) ?_
  refine r_bipush (pc := 6) (v := 12) dX8_lays_6 (by decide) ?_
  refine r_iload_n (pc := 8) dX8_lays_8 rfl ?_
  refine r_imul (pc := 9) dX8_lays_9 ?_
  refine r_iadd (pc := 10) dX8_lays_10 ?_
  refine r_iload_n (pc := 11) dX8_lays_11 rfl ?_
  refine r_iadd (pc := 12) dX8_lays_12 ?_
  refine r_iload_n (pc := 13) dX8_lays_13 rfl ?_
  obtain ⟨i_1, K0⟩ := K0
  refine s_iast (pc := 14) dX8_lays_14 k_b0_3 i_1 ?_
  exact s_ret rfl dX8_lays_15 K0
section
theorem sp_X8_lays {x : Cn} {Q : Cn → Prop} {t s k : Nat} {v : Int32} (M : MRf x t) (ht : kk KW t = some (20, 518)) (hs : s < 24) (hk : k < 12) (q : Q (ui x t (62 + 12 * s + k) v)) : mSV mX8_lays [.ref 717, .int (nI s), .int (nI k), .int v] KW x Q := by
  refine v_X8_lays_0 km M.2.2.1 ht ⟨iv1 hs k rfl hk, ?_⟩
  rw [ic1 hs k rfl hk]
  exact q
end
set_option maxHeartbeats 2000000 in
theorem v_X8_goes_0 {K : Sh} {x : Cn} {Q : Cn → Prop} {b0 : Nat} {l1 : Int32} {l2 : Int32} {l3 : Int32} {l4 : Int32} {b0_3 : Nat} {n_b0_3 : Nat} (k_b0 : kk K b0 = some (8, 0)) (g_b0_3 : gr x b0 3 = some b0_3) (k_b0_3 : kk K b0_3 = some (20, n_b0_3)) (K0 : (l24 l1 n_b0_3) ∧ ((l12 (7 + l3)) ∧ (mSV mX8_lays [.ref b0, .int l1, .int (7 + l3), .int ((so (gi x b0_3) (l1 : Int32).toNatClampNeg ((7 + l3) : Int32).toNatClampNeg) &&& (l2 ^^^ (-1)))] K x (fun y_3 => gr y_3 b0 3 = some b0_3 ∧ ((l12 (7 + l4)) ∧ (mSV mX8_lays [.ref b0, .int l1, .int (7 + l4), .int ((so (gi y_3 b0_3) (l1 : Int32).toNatClampNeg ((7 + l4) : Int32).toNatClampNeg) ||| l2)] K y_3 (fun y_6 => Q y_6))))))) : mSV mX8_goes [.ref b0, .int l1, .int l2, .int l3, .int l4] K x Q := by
  refine s_V (by decide) (by simp [Value.category]) (Nat.le_of_ble_eq_true rfl) ?_
  show mGM mX8_goes 0 [some (.ref b0), some (.int l1), some (.int l2), some (.int l3), some (.int l4)] [] (hp K x) (PV K Q)
  refine r_aload_n (pc := 0) dX8_goes_0 rfl ?_
  refine r_iload_n (pc := 1) dX8_goes_1 rfl ?_
  refine r_bipush (pc := 2) (v := 7) dX8_goes_2 (by decide) ?_
  refine r_iload_n (pc := 4) dX8_goes_4 rfl ?_
  refine r_iadd (pc := 5) dX8_goes_5 ?_
  refine r_aload_n (pc := 6) dX8_goes_6 rfl ?_
  refine r_iload_n (pc := 7) dX8_goes_7 rfl ?_
  refine r_bipush (pc := 8) (v := 7) dX8_goes_8 (by decide) ?_
  refine r_iload_n (pc := 10) dX8_goes_10 rfl ?_
  refine r_iadd (pc := 11) dX8_goes_11 ?_
  obtain ⟨p_1, K0⟩ := K0
  obtain ⟨p_2, K0⟩ := K0
  refine s_VI (pc := 12) mX8_one (ci := 8) (a := b0) (As := [.int l1, .int (7 + l3)]) dX8_goes_12 lk_X8_67 in_X8_one mo_X8_one ⟨by decide, rfl⟩ ⟨by decide, by decide⟩ (Nat.le_of_ble_eq_true rfl) k_b0 (sr_X8_one k_b0 g_b0_3 k_b0_3 p_1 p_2 ?_)
  refine r_iload_n (pc := 15) dX8_goes_15 rfl ?_
  refine r_iconst (pc := 16) (v := (-1)) dX8_goes_16 (by decide) ?_
  refine r_ixor (pc := 17) dX8_goes_17 ?_
  refine r_iand (pc := 18) dX8_goes_18 ?_
  refine s_VV (pc := 19) mX8_lays (ci := 8) (a := b0) (As := [.int l1, .int (7 + l3), .int ((so (gi x b0_3) (l1 : Int32).toNatClampNeg ((7 + l3) : Int32).toNatClampNeg) &&& (l2 ^^^ (-1)))]) dX8_goes_19 lk_X8_230 in_X8_lays mo_X8_lays ⟨by decide, rfl⟩ ⟨by decide, by decide⟩ (Nat.le_of_ble_eq_true rfl) k_b0 (mSV_mono K0 (fun y_3 K0 => ?_))
  refine r_aload_n (pc := 22) dX8_goes_22 rfl ?_
  refine r_iload_n (pc := 23) dX8_goes_23 rfl ?_
  refine r_bipush (pc := 24) (v := 7) dX8_goes_24 (by decide) ?_
  refine r_iload (pc := 26) dX8_goes_26 rfl ?_
  refine r_iadd (pc := 28) dX8_goes_28 ?_
  refine r_aload_n (pc := 29) dX8_goes_29 rfl ?_
  refine r_iload_n (pc := 30) dX8_goes_30 rfl ?_
  refine r_bipush (pc := 31) (v := 7) dX8_goes_31 (by decide) ?_
  refine r_iload (pc := 33) dX8_goes_33 rfl ?_
  refine r_iadd (pc := 35) dX8_goes_35 ?_
  obtain ⟨g_4, K0⟩ := K0
  obtain ⟨p_5, K0⟩ := K0
  refine s_VI (pc := 36) mX8_one (ci := 8) (a := b0) (As := [.int l1, .int (7 + l4)]) dX8_goes_36 lk_X8_67 in_X8_one mo_X8_one ⟨by decide, rfl⟩ ⟨by decide, by decide⟩ (Nat.le_of_ble_eq_true rfl) k_b0 (sr_X8_one k_b0 g_4 k_b0_3 p_1 p_5 ?_)
  refine r_iload_n (pc := 39) dX8_goes_39 rfl ?_
  refine r_ior (pc := 40) dX8_goes_40 ?_
  refine s_VV (pc := 41) mX8_lays (ci := 8) (a := b0) (As := [.int l1, .int (7 + l4), .int ((so (gi y_3 b0_3) (l1 : Int32).toNatClampNeg ((7 + l4) : Int32).toNatClampNeg) ||| l2)]) dX8_goes_41 lk_X8_230 in_X8_lays mo_X8_lays ⟨by decide, rfl⟩ ⟨by decide, by decide⟩ (Nat.le_of_ble_eq_true rfl) k_b0 (mSV_mono K0 (fun y_6 K0 => ?_))
  exact s_ret rfl dX8_goes_44 K0
section
theorem sp_X8_goes {x : Cn} {Q : Cn → Prop} {n s k o : Nat} {T : TT} {H : Nat → TT} {w : Int32} (r : RS x T n H) (hs : s < 24) (hk : k < 5) (ho : o < 5) (hko : k ≠ o) (q : ∀ y, RFr x y → RS y (goT T s w k o) n H → Q y) : mSV mX8_goes [.ref 717, .int (nI s), .int w, .int (nI k), .int (nI o)] KW x Q := by
  have M := r.1
  have e7 : ∀ j, (7 : Int32) + nI j = nI (7 + j) := fun j => by rw [show (7 : Int32) = nI 7 by decide, nI_add]
  have l7 : ∀ j, j < 5 → l12 (nI (7 + j)) := fun j hj => ⟨nI_pos' (by omega), nI_lt (b := 12) (by omega) (by decide)⟩
  refine v_X8_goes_0 km M.2.2.1 km1 ⟨l24_nI hs rfl, ?_⟩
  rw [e7, e7, nI_clamp (by omega), nI_clamp (by omega), nI_clamp (by omega), r.2.1]
  refine ⟨l7 k hk, sp_X8_lays M km1 hs (by omega) ⟨M.2.2.1, l7 o ho, ?_⟩⟩
  rw [gi_718, r.2.1, so_uT _ _ _ _ _ _ (by omega) (by omega), if_neg (by omega)]
  exact sp_X8_lays (M.keep rfl) km1 hs (by omega) (q _ (RFr.rf x).u8.u8 r.u8.u8)
theorem stt_tb {T : TT} {s w k : Nat} (hk : k < 5) (h : stt T s w = nI k) : tb (so T s (7 + k)) w = true := by
  unfold stt at h
  simp only [lpR] at h
  have hn : ∀ j : Nat, j < 5 → nI j = nI k → j = k := fun j hj e => (nI_eq (by omega) (by omega)).mp e
  by_cases c0 : tb (so T s (7 + 0)) w = true
  · rw [if_pos c0] at h
    rw [← hn 0 (by decide) h]; exact c0
  rw [if_neg c0] at h
  by_cases c1 : tb (so T s (7 + (0 + 1))) w = true
  · simp only [c1, if_true] at h
    rw [← hn 1 (by decide) h]; exact c1
  simp only [c1, if_false] at h
  by_cases c2 : tb (so T s (7 + (0 + 1 + 1))) w = true
  · simp only [c2, if_true] at h
    rw [← hn 2 (by decide) h]; exact c2
  simp only [c2, if_false] at h
  by_cases c3 : tb (so T s (7 + (0 + 1 + 1 + 1))) w = true
  · simp only [c3, if_true] at h
    rw [← hn 3 (by decide) h]; exact c3
  simp only [c3, if_false] at h
  by_cases c4 : tb (so T s (7 + (0 + 1 + 1 + 1 + 1))) w = true
  · simp only [c4, if_true] at h
    rw [← hn 4 (by decide) h]; exact c4
  simp only [c4, if_false] at h
  exact absurd (h ▸ nI_pos (n := k) (by omega)) (fun z => z (by decide))

end
end

/-! lines, the reference -/
def HD (T : TT) (W C S A : Nat) : Prop := T 0 = nI W ∧ (5 ≤ W ∧ W ≤ 30) ∧ T 1 = nI C ∧ C ≤ 8 ∧ T 2 = nI S ∧ S ≤ 24 ∧ T 3 = nI A ∧ A ≤ 24 ∧ T 4 = nI 0
def RQ (y : Cn) (b : TT) (n p : Nat) (T : TT) (lim : Int32) (W C S A : Nat) : Prop := RG y b n p ∧ gi y 717 13 = lim ∧ gi y 717 14 = b2i (0 < S) ∧ gi y 719 = T ∧ HD T W C S A
theorem RQ.t {x y : Cn} {b : TT} {n p p' : Nat} {T : TT} {lim : Int32} {W C S A : Nat} (c : RQ x b n p T lim W C S A) (f : TFr x y) (g : RG y b n p') : RQ y b n p' T lim W C S A := ⟨g, (f.2 717 13 (by omega)).trans c.2.1, (f.2 717 14 (by omega)).trans c.2.2.1, (funext fun i => f.2 719 i (by omega)).trans c.2.2.2.1, c.2.2.2.2⟩
theorem RQ.m {x : Cn} {b : TT} {n p : Nat} {T : TT} {lim : Int32} {W C S A : Nat} (c : RQ x b n p T lim W C S A) : MRf x 719 := c.1.1.2.2.2.2
theorem MRf.tf {x y : Cn} (M : MRf x 719) (f : TFr x y) : MRf y 719 := M.keep f.1
theorem gi_719 (x : Cn) (k : Nat) (v : Int32) : gi (ui x 719 k v) 719 = uT (gi x 719) k v := by
  funext i
  rw [gi_ui]
  unfold uT
  by_cases h : i = k
  · rw [if_pos ⟨rfl, h⟩, if_pos h]
  · rw [if_neg (fun z => h z.2), if_neg h]
set_option maxHeartbeats 2000000 in
theorem v_X8_readLimit_0 {K : Sh} {x : Cn} {Q : Cn → Prop} {b0 : Nat}  (k_b0 : kk K b0 = some (8, 0)) (K0 : ((gi x b0 14) = 0 → (GV mX8_readLimit 16 [some (.ref b0), none, none, none] [] K x Q)) ∧ (¬ (gi x b0 14) = 0 → (mSV mX8_errs [.ref b0, .int 5, .int (gi x b0 8)] K x (fun y_2 => GV mX8_readLimit 16 [some (.ref b0), none, none, none] [] K y_2 Q)))) : mSV mX8_readLimit [.ref b0] K x Q := by
  refine s_V (by decide) (by simp [Value.category]) (Nat.le_of_ble_eq_true rfl) ?_
  show mGM mX8_readLimit 0 [some (.ref b0), none, none, none] [] (hp K x) (PV K Q)
  refine r_aload_n (pc := 0) dX8_readLimit_0 rfl ?_
  refine s_getI (pc := 1) dX8_readLimit_1 fl_X8_207 rfl k_b0 ?_
  refine r_if_eq (pc := 4) (tgt := 16) dX8_readLimit_4 (by decide) (fun q => ?_) (fun q => ?_)
  · have K0 := K0.1 q
    exact r_le (L' := [some (.ref b0), none, none, none]) ⟨rfl, trivial⟩ K0
  · have K0 := K0.2 q
    refine r_aload_n (pc := 7) dX8_readLimit_7 rfl ?_
    refine r_iconst (pc := 8) (v := 5) dX8_readLimit_8 (by decide) ?_
    refine r_aload_n (pc := 9) dX8_readLimit_9 rfl ?_
    refine s_getI (pc := 10) dX8_readLimit_10 fl_X8_116 rfl k_b0 ?_
    refine s_VV (pc := 13) mX8_errs (ci := 8) (a := b0) (As := [.int 5, .int (gi x b0 8)]) dX8_readLimit_13 lk_X8_157 in_X8_errs mo_X8_errs ⟨by decide, rfl⟩ ⟨by decide, by decide⟩ (Nat.le_of_ble_eq_true rfl) k_b0 (mSV_mono K0 (fun y_2 K0 => ?_))
    exact r_le (L' := [some (.ref b0), none, none, none]) ⟨rfl, trivial⟩ K0
set_option maxHeartbeats 2000000 in
theorem v_X8_readLimit_16 {K : Sh} {x : Cn} {Q : Cn → Prop} {b0 : Nat}  (k_b0 : kk K b0 = some (8, 0)) (K0 : mSV mX8_passes [.ref b0, .ref (mSB + 12)] K x (fun y_1 => GV mX8_readLimit 22 [some (.ref b0), none, none, none] [] K y_1 Q)) : GV mX8_readLimit 16 [some (.ref b0), none, none, none] [] K x Q := by
  show mGM mX8_readLimit 16 [some (.ref b0), none, none, none] [] (hp K x) (PV K Q)
  refine r_aload_n (pc := 16) dX8_readLimit_16 rfl ?_
  refine r_ldcS (pc := 17) (j := 12) dX8_readLimit_17 rfl ?_
  refine s_VV (pc := 19) mX8_passes (ci := 8) (a := b0) (As := [.ref (mSB + 12)]) dX8_readLimit_19 lk_X8_211 in_X8_passes mo_X8_passes ⟨by decide, rfl⟩ ⟨by decide, by decide⟩ (Nat.le_of_ble_eq_true rfl) k_b0 (mSV_mono K0 (fun y_1 K0 => ?_))
  exact r_le (L' := [some (.ref b0), none, none, none]) ⟨rfl, trivial⟩ K0
set_option maxHeartbeats 2000000 in
theorem v_X8_readLimit_22 {K : Sh} {x : Cn} {Q : Cn → Prop} {b0 : Nat}  (k_b0 : kk K b0 = some (8, 0)) (K0 : (¬ (gi x b0 11 = 0) → (GV mX8_readLimit 75 [some (.ref b0), none, none, none] [] K x Q)) ∧ ((gi x b0 11 = 0) → ((¬ (gi x b0 9) = 2 → (GV mX8_readLimit 75 [some (.ref b0), none, none, none] [] K x Q)) ∧ ((gi x b0 9) = 2 → ((¬ (0 ≤ (gi x b0 10) ∧ (gi x b0 10) ≤ 23) → (GV mX8_readLimit 75 [some (.ref b0), none, none, none] [] K x Q)) ∧ ((0 ≤ (gi x b0 10) ∧ (gi x b0 10) ≤ 23) → ((¬ (f_has (gi x b0 13) (gi x b0 10)) → (GV mX8_readLimit 75 [some (.ref b0), none, none, none] [] K x Q)) ∧ ((f_has (gi x b0 13) (gi x b0 10)) → (mSV mX8_errs [.ref b0, .int 3, .int (gi x b0 8)] K x (fun y_5 => GV mX8_readLimit 75 [some (.ref b0), none, none, none] [] K y_5 Q)))))))))) : GV mX8_readLimit 22 [some (.ref b0), none, none, none] [] K x Q := by
  show mGM mX8_readLimit 22 [some (.ref b0), none, none, none] [] (hp K x) (PV K Q)
  refine r_aload_n (pc := 22) dX8_readLimit_22 rfl ?_
  refine s_VI (pc := 23) mX8_good (ci := 8) (a := b0) (As := []) dX8_readLimit_23 lk_X8_104 in_X8_good mo_X8_good ⟨by decide, rfl⟩ ⟨by decide, by decide⟩ (Nat.le_of_ble_eq_true rfl) k_b0 (sp_X8_good k_b0 ?_)
  refine r_if_eq (pc := 26) (tgt := 75) dX8_readLimit_26 (by decide) (fun q => ?_) (fun q => ?_)
  · have q := (b2i_z _).mp q
    have K0 := K0.1 q
    exact r_le (L' := [some (.ref b0), none, none, none]) ⟨rfl, trivial⟩ K0
  · have q := b2i_nz q
    have K0 := K0.2 q
    refine r_aload_n (pc := 29) dX8_readLimit_29 rfl ?_
    refine s_getI (pc := 30) dX8_readLimit_30 fl_X8_119 rfl k_b0 ?_
    refine r_iconst (pc := 33) (v := 2) dX8_readLimit_33 (by decide) ?_
    refine r_icmp_ne (pc := 34) (tgt := 75) dX8_readLimit_34 (by decide) (fun q => ?_) (fun q => ?_)
    · have K0 := K0.1 q
      exact r_le (L' := [some (.ref b0), none, none, none]) ⟨rfl, trivial⟩ K0
    · have K0 := K0.2 q
      refine r_aload_n (pc := 37) dX8_readLimit_37 rfl ?_
      refine s_getI (pc := 38) dX8_readLimit_38 fl_X8_130 rfl k_b0 ?_
      refine r_i2l (pc := 41) dX8_readLimit_41 ?_
      refine r_lconst (pc := 42) (v := 0) dX8_readLimit_42 (by decide) ?_
      refine r_ldc2 (pc := 43) (v := 23) dX8_readLimit_43 cn_X8_55 ?_
      refine s_SI (pc := 46) mX8_in (As := [.long (((gi x b0 10) : Int32).toInt64), .long 0, .long 23]) dX8_readLimit_46 lk_X8_45 st_X8_in mo_X8_in ⟨by decide, by decide⟩ (Nat.le_of_ble_eq_true rfl) (sq_X8_in (v := (gi x b0 10)) (lo := 0) (hi := 23) rfl (by decide) (by decide) ?_)
      refine r_if_eq (pc := 49) (tgt := 75) dX8_readLimit_49 (by decide) (fun q => ?_) (fun q => ?_)
      · have q := (b2i_z _).mp q
        have K0 := K0.1 q
        exact r_le (L' := [some (.ref b0), none, none, none]) ⟨rfl, trivial⟩ K0
      · have q := b2i_nz q
        have K0 := K0.2 q
        refine r_aload_n (pc := 52) dX8_readLimit_52 rfl ?_
        refine s_getI (pc := 53) dX8_readLimit_53 fl_X8_215 rfl k_b0 ?_
        refine r_aload_n (pc := 56) dX8_readLimit_56 rfl ?_
        refine s_getI (pc := 57) dX8_readLimit_57 fl_X8_130 rfl k_b0 ?_
        refine s_SI (pc := 60) mX8_has (As := [.int (gi x b0 13), .int (gi x b0 10)]) dX8_readLimit_60 lk_X8_75 st_X8_has mo_X8_has ⟨by decide, by decide⟩ (Nat.le_of_ble_eq_true rfl) (sp_X8_has  ?_)
        refine r_if_eq (pc := 63) (tgt := 75) dX8_readLimit_63 (by decide) (fun q => ?_) (fun q => ?_)
        · have q := (b2i_z _).mp q
          have K0 := K0.1 q
          exact r_le (L' := [some (.ref b0), none, none, none]) ⟨rfl, trivial⟩ K0
        · have q := b2i_nz q
          have K0 := K0.2 q
          refine r_aload_n (pc := 66) dX8_readLimit_66 rfl ?_
          refine r_iconst (pc := 67) (v := 3) dX8_readLimit_67 (by decide) ?_
          refine r_aload_n (pc := 68) dX8_readLimit_68 rfl ?_
          refine s_getI (pc := 69) dX8_readLimit_69 fl_X8_116 rfl k_b0 ?_
          refine s_VV (pc := 72) mX8_errs (ci := 8) (a := b0) (As := [.int 3, .int (gi x b0 8)]) dX8_readLimit_72 lk_X8_157 in_X8_errs mo_X8_errs ⟨by decide, rfl⟩ ⟨by decide, by decide⟩ (Nat.le_of_ble_eq_true rfl) k_b0 (mSV_mono K0 (fun y_5 K0 => ?_))
          exact r_le (L' := [some (.ref b0), none, none, none]) ⟨rfl, trivial⟩ K0
set_option maxHeartbeats 2000000 in
theorem v_X8_readLimit_75 {K : Sh} {x : Cn} {Q : Cn → Prop} {b0 : Nat}  (k_b0 : kk K b0 = some (8, 0)) (K0 : mSI mX8_number [.ref b0, .int 0, .int 23] K x (fun r_2 y_1 => GV mX8_readLimit 83 [some (.ref b0), some (.int r_2), none, none] [] K y_1 Q)) : GV mX8_readLimit 75 [some (.ref b0), none, none, none] [] K x Q := by
  show mGM mX8_readLimit 75 [some (.ref b0), none, none, none] [] (hp K x) (PV K Q)
  refine r_aload_n (pc := 75) dX8_readLimit_75 rfl ?_
  refine r_iconst (pc := 76) (v := 0) dX8_readLimit_76 (by decide) ?_
  refine r_bipush (pc := 77) (v := 23) dX8_readLimit_77 (by decide) ?_
  refine s_VI (pc := 79) mX8_number (ci := 8) (a := b0) (As := [.int 0, .int 23]) dX8_readLimit_79 lk_X8_218 in_X8_number mo_X8_number ⟨by decide, rfl⟩ ⟨by decide, by decide⟩ (Nat.le_of_ble_eq_true rfl) k_b0 (mSI_mono K0 (fun r_2 y_1 K0 => ?_))
  refine r_istore_n (pc := 82) dX8_readLimit_82 (by decide) ?_
  exact r_le (L' := [some (.ref b0), some (.int r_2), none, none]) ⟨rfl, ⟨rfl, trivial⟩⟩ K0
set_option maxHeartbeats 2000000 in
theorem v_X8_readLimit_83 {K : Sh} {x : Cn} {Q : Cn → Prop} {b0 : Nat} {l1 : Int32}  (k_b0 : kk K b0 = some (8, 0)) (K0 : mSI mX8_number [.ref b0, .int 0, .int 9] K x (fun r_2 y_1 => GV mX8_readLimit 91 [some (.ref b0), some (.int l1), some (.int r_2), none] [] K y_1 Q)) : GV mX8_readLimit 83 [some (.ref b0), some (.int l1), none, none] [] K x Q := by
  show mGM mX8_readLimit 83 [some (.ref b0), some (.int l1), none, none] [] (hp K x) (PV K Q)
  refine r_aload_n (pc := 83) dX8_readLimit_83 rfl ?_
  refine r_iconst (pc := 84) (v := 0) dX8_readLimit_84 (by decide) ?_
  refine r_bipush (pc := 85) (v := 9) dX8_readLimit_85 (by decide) ?_
  refine s_VI (pc := 87) mX8_number (ci := 8) (a := b0) (As := [.int 0, .int 9]) dX8_readLimit_87 lk_X8_218 in_X8_number mo_X8_number ⟨by decide, rfl⟩ ⟨by decide, by decide⟩ (Nat.le_of_ble_eq_true rfl) k_b0 (mSI_mono K0 (fun r_2 y_1 K0 => ?_))
  refine r_istore_n (pc := 90) dX8_readLimit_90 (by decide) ?_
  exact r_le (L' := [some (.ref b0), some (.int l1), some (.int r_2), none]) ⟨rfl, ⟨rfl, ⟨rfl, trivial⟩⟩⟩ K0
set_option maxHeartbeats 2000000 in
theorem v_X8_readLimit_91 {K : Sh} {x : Cn} {Q : Cn → Prop} {b0 : Nat} {l1 : Int32} {l2 : Int32}  (k_b0 : kk K b0 = some (8, 0)) (K0 : mSV mX8_passes [.ref b0, .ref (mSB + 13)] K x (fun y_1 => GV mX8_readLimit 97 [some (.ref b0), some (.int l1), some (.int l2), none] [] K y_1 Q)) : GV mX8_readLimit 91 [some (.ref b0), some (.int l1), some (.int l2), none] [] K x Q := by
  show mGM mX8_readLimit 91 [some (.ref b0), some (.int l1), some (.int l2), none] [] (hp K x) (PV K Q)
  refine r_aload_n (pc := 91) dX8_readLimit_91 rfl ?_
  refine r_ldcS (pc := 92) (j := 13) dX8_readLimit_92 rfl ?_
  refine s_VV (pc := 94) mX8_passes (ci := 8) (a := b0) (As := [.ref (mSB + 13)]) dX8_readLimit_94 lk_X8_211 in_X8_passes mo_X8_passes ⟨by decide, rfl⟩ ⟨by decide, by decide⟩ (Nat.le_of_ble_eq_true rfl) k_b0 (mSV_mono K0 (fun y_1 K0 => ?_))
  exact r_le (L' := [some (.ref b0), some (.int l1), some (.int l2), none]) ⟨rfl, ⟨rfl, ⟨rfl, trivial⟩⟩⟩ K0
set_option maxHeartbeats 2000000 in
theorem v_X8_readLimit_97 {K : Sh} {x : Cn} {Q : Cn → Prop} {b0 : Nat} {l1 : Int32} {l2 : Int32}  (k_b0 : kk K b0 = some (8, 0)) (K0 : mSI mX8_number [.ref b0, .int 0, .int l2] K x (fun r_2 y_1 => GV mX8_readLimit 104 [some (.ref b0), some (.int l1), some (.int l2), some (.int r_2)] [] K y_1 Q)) : GV mX8_readLimit 97 [some (.ref b0), some (.int l1), some (.int l2), none] [] K x Q := by
  show mGM mX8_readLimit 97 [some (.ref b0), some (.int l1), some (.int l2), none] [] (hp K x) (PV K Q)
  refine r_aload_n (pc := 97) dX8_readLimit_97 rfl ?_
  refine r_iconst (pc := 98) (v := 0) dX8_readLimit_98 (by decide) ?_
  refine r_iload_n (pc := 99) dX8_readLimit_99 rfl ?_
  refine s_VI (pc := 100) mX8_number (ci := 8) (a := b0) (As := [.int 0, .int l2]) dX8_readLimit_100 lk_X8_218 in_X8_number mo_X8_number ⟨by decide, rfl⟩ ⟨by decide, by decide⟩ (Nat.le_of_ble_eq_true rfl) k_b0 (mSI_mono K0 (fun r_2 y_1 K0 => ?_))
  refine r_istore_n (pc := 103) dX8_readLimit_103 (by decide) ?_
  exact r_le (L' := [some (.ref b0), some (.int l1), some (.int l2), some (.int r_2)]) ⟨rfl, ⟨rfl, ⟨rfl, ⟨rfl, trivial⟩⟩⟩⟩ K0
set_option maxHeartbeats 2000000 in
theorem v_X8_readLimit_104 {K : Sh} {x : Cn} {Q : Cn → Prop} {b0 : Nat} {l1 : Int32} {l2 : Int32} {l3 : Int32} {b0_3 : Nat} {n_b0_3 : Nat} (k_b0 : kk K b0 = some (8, 0)) (g_b0_3 : gr x b0 3 = some b0_3) (k_b0_3 : kk K b0_3 = some (20, n_b0_3)) (K0 : ((gi x b0 11 = 0) → (vp_in (6 + (2 * l1)) n_b0_3 ∧ (vp_in ((6 + (2 * l1)) + 1) n_b0_3 ∧ (Q (ui (ui (ui x b0 13 ((gi x b0 13) ||| (1 <<< (l1 &&& 31)))) b0_3 ((6 + (2 * l1)) : Int32).toNatClampNeg l2) b0_3 (((6 + (2 * l1)) + 1) : Int32).toNatClampNeg l3))))) ∧ (¬ (gi x b0 11 = 0) → (Q x))) : GV mX8_readLimit 104 [some (.ref b0), some (.int l1), some (.int l2), some (.int l3)] [] K x Q := by
  show mGM mX8_readLimit 104 [some (.ref b0), some (.int l1), some (.int l2), some (.int l3)] [] (hp K x) (PV K Q)
  refine r_aload_n (pc := 104) dX8_readLimit_104 rfl ?_
  refine s_VI (pc := 105) mX8_good (ci := 8) (a := b0) (As := []) dX8_readLimit_105 lk_X8_104 in_X8_good mo_X8_good ⟨by decide, rfl⟩ ⟨by decide, by decide⟩ (Nat.le_of_ble_eq_true rfl) k_b0 (sp_X8_good k_b0 ?_)
  refine r_if_ne (pc := 108) (tgt := 112) dX8_readLimit_108 (by decide) (fun q => ?_) (fun q => ?_)
  · have q := b2i_nz q
    have K0 := K0.1 q
    refine r_aload_n (pc := 112) dX8_readLimit_112 rfl ?_
    refine r_dup (pc := 113) dX8_readLimit_113 rfl ?_
    refine s_getI (pc := 114) dX8_readLimit_114 fl_X8_215 rfl k_b0 ?_
    refine r_iconst (pc := 117) (v := 1) dX8_readLimit_117 (by decide) ?_
    refine r_iload_n (pc := 118) dX8_readLimit_118 rfl ?_
    refine r_ishl (pc := 119) dX8_readLimit_119 ?_
    refine r_ior (pc := 120) dX8_readLimit_120 ?_
    refine s_putI (pc := 121) dX8_readLimit_121 fl_X8_215 rfl rfl k_b0 ?_
    refine r_aload_n (pc := 124) dX8_readLimit_124 rfl ?_
    refine s_getR (pc := 125) dX8_readLimit_125 fl_X8_16 rfl k_b0 g_b0_3 ?_
    refine r_bipush (pc := 128) (v := 6) dX8_readLimit_128 (by decide) ?_
    refine r_iconst (pc := 130) (v := 2) dX8_readLimit_130 (by decide) ?_
    refine r_iload_n (pc := 131) dX8_readLimit_131 rfl ?_
    refine r_imul (pc := 132) dX8_readLimit_132 ?_
    refine r_iadd (pc := 133) dX8_readLimit_133 ?_
    refine r_iload_n (pc := 134) dX8_readLimit_134 rfl ?_
    obtain ⟨i_2, K0⟩ := K0
    refine s_iast (pc := 135) dX8_readLimit_135 k_b0_3 i_2 ?_
    refine r_aload_n (pc := 136) dX8_readLimit_136 rfl ?_
    refine s_getR (pc := 137) dX8_readLimit_137 fl_X8_16 rfl k_b0 g_b0_3 ?_
    refine r_bipush (pc := 140) (v := 6) dX8_readLimit_140 (by decide) ?_
    refine r_iconst (pc := 142) (v := 2) dX8_readLimit_142 (by decide) ?_
    refine r_iload_n (pc := 143) dX8_readLimit_143 rfl ?_
    refine r_imul (pc := 144) dX8_readLimit_144 ?_
    refine r_iadd (pc := 145) dX8_readLimit_145 ?_
    refine r_iconst (pc := 146) (v := 1) dX8_readLimit_146 (by decide) ?_
    refine r_iadd (pc := 147) dX8_readLimit_147 ?_
    refine r_iload_n (pc := 148) dX8_readLimit_148 rfl ?_
    obtain ⟨i_3, K0⟩ := K0
    refine s_iast (pc := 149) dX8_readLimit_149 k_b0_3 i_3 ?_
    exact s_ret rfl dX8_readLimit_150 K0
  · have q := (b2i_z _).mp q
    have K0 := K0.2 q
    exact s_ret rfl dX8_readLimit_111 K0
section
theorem lp_X8_readLimit_b {x : Cn} {Q : Cn → Prop} (h : Bd x) (M : MRf x 719) (k : Q x) : (∀ l1 l2 l3, GV mX8_readLimit 104 [some (.ref 717), some (.int l1), some (.int l2), some (.int l3)] [] KW x Q) ∧ (∀ l1 l2, GV mX8_readLimit 97 [some (.ref 717), some (.int l1), some (.int l2), none] [] KW x Q) ∧ (∀ l1 l2, GV mX8_readLimit 91 [some (.ref 717), some (.int l1), some (.int l2), none] [] KW x Q) ∧ (∀ l1, GV mX8_readLimit 83 [some (.ref 717), some (.int l1), none, none] [] KW x Q) ∧ GV mX8_readLimit 75 [some (.ref 717), none, none, none] [] KW x Q ∧ GV mX8_readLimit 22 [some (.ref 717), none, none, none] [] KW x Q ∧ GV mX8_readLimit 16 [some (.ref 717), none, none, none] [] KW x Q := by
  have a1 : ∀ l1 l2 l3, GV mX8_readLimit 104 [some (.ref 717), some (.int l1), some (.int l2), some (.int l3)] [] KW x Q := fun l1 l2 l3 => v_X8_readLimit_104 km M.2.2.1 km2 ⟨fun z => absurd z h, fun _ => k⟩
  have a2 : ∀ l1 l2, GV mX8_readLimit 97 [some (.ref 717), some (.int l1), some (.int l2), none] [] KW x Q := fun l1 l2 => v_X8_readLimit_97 km (sp_X8_number_b h (a1 _ _ _))
  have a3 : ∀ l1 l2, GV mX8_readLimit 91 [some (.ref 717), some (.int l1), some (.int l2), none] [] KW x Q := fun l1 l2 => v_X8_readLimit_91 km (sp_X8_passes_b (by omega) M.2.2.2.1 h (a2 _ _))
  have a4 : ∀ l1, GV mX8_readLimit 83 [some (.ref 717), some (.int l1), none, none] [] KW x Q := fun l1 => v_X8_readLimit_83 km (sp_X8_number_b h (a3 _ _))
  have a5 : GV mX8_readLimit 75 [some (.ref 717), none, none, none] [] KW x Q := v_X8_readLimit_75 km (sp_X8_number_b h (a4 _))
  have a6 : GV mX8_readLimit 22 [some (.ref 717), none, none, none] [] KW x Q := v_X8_readLimit_22 km ⟨fun _ => a5, fun z => absurd z h⟩
  exact ⟨a1, a2, a3, a4, a5, a6, v_X8_readLimit_16 km (sp_X8_passes_b (by omega) M.2.2.2.1 h a6)⟩
def okL1 (b : TT) (n p : Nat) (lim : Int32) (S : Nat) : Prop := S = 0 ∧ nb b n (nxt b n 1 p) 0 23 ∧ ¬ tb lim (tV b n (nxt b n 1 p)) = true ∧ nb b n (nxt b n 2 p) 0 9 ∧ iw b n (nxt b n 3 p) 12 ∧ nb b n (nxt b n 4 p) 0 (tV b n (nxt b n 2 p))
theorem sp_X8_readLimit {x : Cn} {Q : Cn → Prop} {b : TT} {n p : Nat} {T : TT} {lim : Int32} {W C S A : Nat} (c : RQ x b n p T lim W C S A) (o8 : iw b n p 8) (k1 : okL1 b n p lim S → ∀ y, QFr x y → RQ y b n (nxt b n 5 p) (lTT b n p T) (lmL b n p lim) W C S A → Q y) (k0 : ¬ okL1 b n p lim S → ∀ y, QFr x y → Bd y → Q y) : mSV mX8_readLimit [.ref 717] KW x Q := by
  have M := c.m
  refine v_X8_readLimit_0 km ?_
  rw [c.2.2.1, b2i_z]
  refine ⟨fun z => ?_, fun z => sp_X8_errs (by decide) (fun y f h => (lp_X8_readLimit_b h (M.tf f) (k0 (fun o => z (by have := o.1; omega)) y f.q h)).2.2.2.2.2.2)⟩
  have o0 : S = 0 := by omega
  refine v_X8_readLimit_16 km (sp_X8_passes wj_8 c.1 (fun _ y1 f1 g1 => ?_) (fun o => absurd o8 o))
  have c1 := c.t f1.t g1
  have F1 : QFr x y1 := f1.q
  have ek : gi y1 717 9 = 2 ↔ tK b n (tE b n p) = 2 := g1.2.1.k 2 (by omega)
  have go : (nb b n (nxt b n 1 p) 0 23 → ¬ tb lim (tV b n (nxt b n 1 p)) = true) → GV mX8_readLimit 75 [some (.ref 717), none, none, none] [] KW y1 Q := by
    intro o2
    refine v_X8_readLimit_75 km (sp_X8_number (lo := 0) (hi := 23) (by omega) (by omega) g1 (fun o1 y2 f2 g2 => ?_) (fun o1 y2 f2 h => (lp_X8_readLimit_b h (c1.m.tf f2) (k0 (fun o => o1 o.2.1) y2 (F1.tr f2.q) h)).2.2.2.1 _))
    have c2 := c1.t f2.t g2
    have F2 := F1.tr f2.q
    refine v_X8_readLimit_83 km (sp_X8_number (lo := 0) (hi := 9) (by omega) (by omega) g2 (fun o3 y3 f3 g3 => ?_) (fun o3 y3 f3 h => (lp_X8_readLimit_b h (c2.m.tf f3) (k0 (fun o => o3 o.2.2.2.1) y3 (F2.tr f3.q) h)).2.2.1 _ _))
    have c3 := c2.t f3.t g3
    have F3 := F2.tr f3.q
    have h9 : tV b n (nxt b n 2 p) ≤ 9 := o3.2.2
    refine v_X8_readLimit_91 km (sp_X8_passes wj_12 g3 (fun o4 y4 f4 g4 => ?_) (fun o4 y4 f4 h => (lp_X8_readLimit_b h (c3.m.tf f4) (k0 (fun o => o4 o.2.2.2.2.1) y4 (F3.tr f4.q) h)).2.1 _ _))
    have c4 := c3.t f4.t g4
    have F4 := F3.tr f4.q
    refine v_X8_readLimit_97 km (sp_X8_number (lo := 0) (hi := tV b n (nxt b n 2 p)) (by omega) (by omega) g4 (fun o5 y5 f5 g5 => ?_) (fun o5 y5 f5 h => (lp_X8_readLimit_b h (c4.m.tf f5) (k0 (fun o => o5 o.2.2.2.2.2) y5 (F4.tr f5.q) h)).1 _ _ _))
    have c5 := c4.t f5.t g5
    have F5 := F4.tr f5.q
    have h23 : tV b n (nxt b n 1 p) ≤ 23 := o1.2.2
    have i6 : (6 : Int32) + 2 * nI (tV b n (nxt b n 1 p)) = nI (6 + 2 * tV b n (nxt b n 1 p)) := by rw [show (6 : Int32) = nI 6 from rfl, show (2 : Int32) = nI 2 from rfl, pk_mul, nI_add]
    have i7 : nI (6 + 2 * tV b n (nxt b n 1 p)) + 1 = nI (7 + 2 * tV b n (nxt b n 1 p)) := by rw [← nI_succ]; congr 1; omega
    refine v_X8_readLimit_104 km c5.m.2.2.1 km2 ⟨fun _ => ?_, fun z => absurd g5.2.2.2 z⟩
    show vp_in ((6 : Int32) + 2 * nI (tV b n (nxt b n 1 p))) 518 ∧ vp_in (((6 : Int32) + 2 * nI (tV b n (nxt b n 1 p))) + 1) 518 ∧ Q (ui (ui (ui y5 717 13 (gi y5 717 13 ||| (1 <<< (nI (tV b n (nxt b n 1 p)) &&& 31)))) 719 ((6 : Int32) + 2 * nI (tV b n (nxt b n 1 p)) : Int32).toNatClampNeg (nI (tV b n (nxt b n 2 p)))) 719 (((6 : Int32) + 2 * nI (tV b n (nxt b n 1 p))) + 1 : Int32).toNatClampNeg (nI (tV b n (nxt b n 4 p))))
    rw [i6, i7, nI_clamp (by omega), nI_clamp (by omega)]
    refine ⟨vp_in_nI (by omega) (by decide), vp_in_nI (by omega) (by decide), k1 ⟨o0, o1, o2 o1, o3, o4, o5⟩ _ (((F5.u (by omega)).u (by omega)).u (by omega)) ⟨((g5.u (by omega)).u (by omega)).u (by omega), ?_, ?_, ?_, ?_⟩⟩
    · rw [gi_ui, if_neg (by omega), gi_ui, if_neg (by omega), gi_ui, if_pos ⟨rfl, rfl⟩, c5.2.1]; rfl
    · rw [gi_ui, if_neg (by omega), gi_ui, if_neg (by omega), gi_ui, if_neg (by omega)]; exact c5.2.2.1
    · rw [gi_719, gi_719, show gi (ui y5 717 13 (gi y5 717 13 ||| (1 <<< (nI (tV b n (nxt b n 1 p)) &&& 31)))) 719 = gi y5 719 from funext (fun i => by rw [gi_ui, if_neg (by omega)]), c5.2.2.2.1]; rfl
    · have e : ∀ i, i < 5 → lTT b n p T i = T i := fun i hi => by unfold lTT lmT; rw [uT_ne _ _ (by omega), uT_ne _ _ (by omega)]
      obtain ⟨h0, hw, h1, hc, h2, hs, h3, ha, h4⟩ := c5.2.2.2.2
      exact ⟨(e 0 (by omega)).trans h0, hw, (e 1 (by omega)).trans h1, hc, (e 2 (by omega)).trans h2, hs, (e 3 (by omega)).trans h3, ha, (e 4 (by omega)).trans h4⟩
  refine v_X8_readLimit_22 km ⟨fun z => absurd g1.2.2.2 z, fun _ => ?_⟩
  rw [ek]
  refine ⟨fun z => go (fun o => absurd o.1 z), fun z => ?_⟩
  have hv := g1.2.1.2.2.2.1 z
  have hm : min (tV b n (tE b n p)) 9999 ≤ 9999 := Nat.min_le_right _ _
  have ei : (0 ≤ gi y1 717 10 ∧ gi y1 717 10 ≤ 23) ↔ nb b n (nxt b n 1 p) 0 23 := by
    rw [hv]
    have e1 : (0 : Int32) ≤ nI (min (tV b n (tE b n p)) 9999) ↔ True := ⟨fun _ => trivial, fun _ => nI_pos' (by omega)⟩
    have e2 : nI (min (tV b n (tE b n p)) 9999) ≤ 23 ↔ min (tV b n (tE b n p)) 9999 ≤ 23 := nI_leI (a := min (tV b n (tE b n p)) 9999) (b := 23) (by omega) (by omega)
    rw [e1, e2]
    constructor
    · intro w
      have w2 := w.2
      exact ⟨z, Nat.zero_le _, show tV b n (tE b n p) ≤ 23 by omega⟩
    · intro w
      have w2 : tV b n (tE b n p) ≤ 23 := w.2.2
      exact ⟨trivial, by omega⟩
  rw [ei]
  refine ⟨fun o => go (fun w => absurd w o), fun o => ?_⟩
  have h23 : tV b n (tE b n p) ≤ 23 := o.2.2
  rw [hv, show min (tV b n (tE b n p)) 9999 = tV b n (tE b n p) by omega, c1.2.1, f_has_tb lim (show tV b n (tE b n p) < 32 by omega)]
  exact ⟨fun w => go (fun _ => w), fun w => sp_X8_errs (by decide) (fun y f h => (lp_X8_readLimit_b h (c1.m.tf f) (k0 (fun o' => o'.2.2.1 w) y (F1.tr f.q) h)).2.2.2.2.1)⟩
def okC1 (b : TT) (n p : Nat) (T : TT) (C : Nat) : Prop := C < 8 ∧ nmd b n (nxt b n 1 p) ∧ fnd T C (vnm b n (nxt b n 1 p)) = -1
end
set_option maxHeartbeats 2000000 in
theorem v_X8_readCarrier_0 {K : Sh} {x : Cn} {Q : Cn → Prop} {b0 : Nat} {b0_3 : Nat} {n_b0_3 : Nat} (k_b0 : kk K b0 = some (8, 0)) (g_b0_3 : gr x b0 3 = some b0_3) (k_b0_3 : kk K b0_3 = some (20, n_b0_3)) (K0 : vp_in 1 n_b0_3 ∧ ((¬ (gi x b0_3 1) = 8 → (GV mX8_readCarrier 20 [some (.ref b0), none] [] K x Q)) ∧ ((gi x b0_3 1) = 8 → (mSV mX8_errs [.ref b0, .int 5, .int (gi x b0 8)] K x (fun y_3 => GV mX8_readCarrier 20 [some (.ref b0), none] [] K y_3 Q))))) : mSV mX8_readCarrier [.ref b0] K x Q := by
  refine s_V (by decide) (by simp [Value.category]) (Nat.le_of_ble_eq_true rfl) ?_
  show mGM mX8_readCarrier 0 [some (.ref b0), none] [] (hp K x) (PV K Q)
  refine r_aload_n (pc := 0) dX8_readCarrier_0 rfl ?_
  refine s_getR (pc := 1) dX8_readCarrier_1 fl_X8_16 rfl k_b0 g_b0_3 ?_
  refine r_iconst (pc := 4) (v := 1) dX8_readCarrier_4 (by decide) ?_
  obtain ⟨i_1, K0⟩ := K0
  refine s_iald (pc := 5) dX8_readCarrier_5 k_b0_3 i_1 ?_
  refine r_bipush (pc := 6) (v := 8) dX8_readCarrier_6 (by decide) ?_
  refine r_icmp_ne (pc := 8) (tgt := 20) dX8_readCarrier_8 (by decide) (fun q => ?_) (fun q => ?_)
  · have K0 := K0.1 q
    exact r_le (L' := [some (.ref b0), none]) ⟨rfl, trivial⟩ K0
  · have K0 := K0.2 q
    refine r_aload_n (pc := 11) dX8_readCarrier_11 rfl ?_
    refine r_iconst (pc := 12) (v := 5) dX8_readCarrier_12 (by decide) ?_
    refine r_aload_n (pc := 13) dX8_readCarrier_13 rfl ?_
    refine s_getI (pc := 14) dX8_readCarrier_14 fl_X8_116 rfl k_b0 ?_
    refine s_VV (pc := 17) mX8_errs (ci := 8) (a := b0) (As := [.int 5, .int (gi x b0 8)]) dX8_readCarrier_17 lk_X8_157 in_X8_errs mo_X8_errs ⟨by decide, rfl⟩ ⟨by decide, by decide⟩ (Nat.le_of_ble_eq_true rfl) k_b0 (mSV_mono K0 (fun y_3 K0 => ?_))
    exact r_le (L' := [some (.ref b0), none]) ⟨rfl, trivial⟩ K0
set_option maxHeartbeats 2000000 in
theorem v_X8_readCarrier_20 {K : Sh} {x : Cn} {Q : Cn → Prop} {b0 : Nat}  (k_b0 : kk K b0 = some (8, 0)) (K0 : mSV mX8_passes [.ref b0, .ref (mSB + 14)] K x (fun y_1 => GV mX8_readCarrier 26 [some (.ref b0), none] [] K y_1 Q)) : GV mX8_readCarrier 20 [some (.ref b0), none] [] K x Q := by
  show mGM mX8_readCarrier 20 [some (.ref b0), none] [] (hp K x) (PV K Q)
  refine r_aload_n (pc := 20) dX8_readCarrier_20 rfl ?_
  refine r_ldcS (pc := 21) (j := 14) dX8_readCarrier_21 rfl ?_
  refine s_VV (pc := 23) mX8_passes (ci := 8) (a := b0) (As := [.ref (mSB + 14)]) dX8_readCarrier_23 lk_X8_211 in_X8_passes mo_X8_passes ⟨by decide, rfl⟩ ⟨by decide, by decide⟩ (Nat.le_of_ble_eq_true rfl) k_b0 (mSV_mono K0 (fun y_1 K0 => ?_))
  exact r_le (L' := [some (.ref b0), none]) ⟨rfl, trivial⟩ K0
set_option maxHeartbeats 2000000 in
theorem v_X8_readCarrier_26 {K : Sh} {x : Cn} {Q : Cn → Prop} {b0 : Nat}  (k_b0 : kk K b0 = some (8, 0)) (K0 : mSI mX8_nameHere [.ref b0] K x (fun r_2 y_1 => GV mX8_readCarrier 31 [some (.ref b0), some (.int r_2)] [] K y_1 Q)) : GV mX8_readCarrier 26 [some (.ref b0), none] [] K x Q := by
  show mGM mX8_readCarrier 26 [some (.ref b0), none] [] (hp K x) (PV K Q)
  refine r_aload_n (pc := 26) dX8_readCarrier_26 rfl ?_
  refine s_VI (pc := 27) mX8_nameHere (ci := 8) (a := b0) (As := []) dX8_readCarrier_27 lk_X8_221 in_X8_nameHere mo_X8_nameHere ⟨by decide, rfl⟩ ⟨by decide, by decide⟩ (Nat.le_of_ble_eq_true rfl) k_b0 (mSI_mono K0 (fun r_2 y_1 K0 => ?_))
  refine r_istore_n (pc := 30) dX8_readCarrier_30 (by decide) ?_
  exact r_le (L' := [some (.ref b0), some (.int r_2)]) ⟨rfl, ⟨rfl, trivial⟩⟩ K0
set_option maxHeartbeats 2000000 in
theorem v_X8_readCarrier_31 {K : Sh} {x : Cn} {Q : Cn → Prop} {b0 : Nat} {l1 : Int32}  (k_b0 : kk K b0 = some (8, 0)) (K0 : (¬ (gi x b0 11 = 0) → (GV mX8_readCarrier 56 [some (.ref b0), some (.int l1)] [] K x Q)) ∧ ((gi x b0 11 = 0) → (mSI mX8_findName [.ref b0, .int l1] K x (fun r_3 y_2 => (r_3 = (-1) → (GV mX8_readCarrier 56 [some (.ref b0), some (.int l1)] [] K y_2 Q)) ∧ (¬ r_3 = (-1) → (mSV mX8_errs [.ref b0, .int 3, .int (gi y_2 b0 8)] K y_2 (fun y_5 => GV mX8_readCarrier 56 [some (.ref b0), some (.int l1)] [] K y_5 Q))))))) : GV mX8_readCarrier 31 [some (.ref b0), some (.int l1)] [] K x Q := by
  show mGM mX8_readCarrier 31 [some (.ref b0), some (.int l1)] [] (hp K x) (PV K Q)
  refine r_aload_n (pc := 31) dX8_readCarrier_31 rfl ?_
  refine s_VI (pc := 32) mX8_good (ci := 8) (a := b0) (As := []) dX8_readCarrier_32 lk_X8_104 in_X8_good mo_X8_good ⟨by decide, rfl⟩ ⟨by decide, by decide⟩ (Nat.le_of_ble_eq_true rfl) k_b0 (sp_X8_good k_b0 ?_)
  refine r_if_eq (pc := 35) (tgt := 56) dX8_readCarrier_35 (by decide) (fun q => ?_) (fun q => ?_)
  · have q := (b2i_z _).mp q
    have K0 := K0.1 q
    exact r_le (L' := [some (.ref b0), some (.int l1)]) ⟨rfl, ⟨rfl, trivial⟩⟩ K0
  · have q := b2i_nz q
    have K0 := K0.2 q
    refine r_aload_n (pc := 38) dX8_readCarrier_38 rfl ?_
    refine r_iload_n (pc := 39) dX8_readCarrier_39 rfl ?_
    refine s_VI (pc := 40) mX8_findName (ci := 8) (a := b0) (As := [.int l1]) dX8_readCarrier_40 lk_X8_224 in_X8_findName mo_X8_findName ⟨by decide, rfl⟩ ⟨by decide, by decide⟩ (Nat.le_of_ble_eq_true rfl) k_b0 (mSI_mono K0 (fun r_3 y_2 K0 => ?_))
    refine r_iconst (pc := 43) (v := (-1)) dX8_readCarrier_43 (by decide) ?_
    refine r_icmp_eq (pc := 44) (tgt := 56) dX8_readCarrier_44 (by decide) (fun q => ?_) (fun q => ?_)
    · have K0 := K0.1 q
      exact r_le (L' := [some (.ref b0), some (.int l1)]) ⟨rfl, ⟨rfl, trivial⟩⟩ K0
    · have K0 := K0.2 q
      refine r_aload_n (pc := 47) dX8_readCarrier_47 rfl ?_
      refine r_iconst (pc := 48) (v := 3) dX8_readCarrier_48 (by decide) ?_
      refine r_aload_n (pc := 49) dX8_readCarrier_49 rfl ?_
      refine s_getI (pc := 50) dX8_readCarrier_50 fl_X8_116 rfl k_b0 ?_
      refine s_VV (pc := 53) mX8_errs (ci := 8) (a := b0) (As := [.int 3, .int (gi y_2 b0 8)]) dX8_readCarrier_53 lk_X8_157 in_X8_errs mo_X8_errs ⟨by decide, rfl⟩ ⟨by decide, by decide⟩ (Nat.le_of_ble_eq_true rfl) k_b0 (mSV_mono K0 (fun y_5 K0 => ?_))
      exact r_le (L' := [some (.ref b0), some (.int l1)]) ⟨rfl, ⟨rfl, trivial⟩⟩ K0
set_option maxHeartbeats 2000000 in
theorem v_X8_readCarrier_56 {K : Sh} {x : Cn} {Q : Cn → Prop} {b0 : Nat} {l1 : Int32} {b0_3 : Nat} {n_b0_3 : Nat} (k_b0 : kk K b0 = some (8, 0)) (g_b0_3 : gr x b0 3 = some b0_3) (k_b0_3 : kk K b0_3 = some (20, n_b0_3)) (K0 : ((gi x b0 11 = 0) → (vp_in 1 n_b0_3 ∧ (vp_in (54 + (gi x b0_3 1)) n_b0_3 ∧ (mSV mX8_advance [.ref b0] K (ui (ui x b0_3 ((54 + (gi x b0_3 1)) : Int32).toNatClampNeg l1) b0_3 1 ((gi (ui x b0_3 ((54 + (gi x b0_3 1)) : Int32).toNatClampNeg l1) b0_3 1) + 1)) (fun y_4 => GV mX8_readCarrier 93 [some (.ref b0), some (.int l1)] [] K y_4 Q))))) ∧ (¬ (gi x b0 11 = 0) → (Q x))) : GV mX8_readCarrier 56 [some (.ref b0), some (.int l1)] [] K x Q := by
  show mGM mX8_readCarrier 56 [some (.ref b0), some (.int l1)] [] (hp K x) (PV K Q)
  refine r_aload_n (pc := 56) dX8_readCarrier_56 rfl ?_
  refine s_VI (pc := 57) mX8_good (ci := 8) (a := b0) (As := []) dX8_readCarrier_57 lk_X8_104 in_X8_good mo_X8_good ⟨by decide, rfl⟩ ⟨by decide, by decide⟩ (Nat.le_of_ble_eq_true rfl) k_b0 (sp_X8_good k_b0 ?_)
  refine r_if_ne (pc := 60) (tgt := 64) dX8_readCarrier_60 (by decide) (fun q => ?_) (fun q => ?_)
  · have q := b2i_nz q
    have K0 := K0.1 q
    refine r_aload_n (pc := 64) dX8_readCarrier_64 rfl ?_
    refine s_getR (pc := 65) dX8_readCarrier_65 fl_X8_16 rfl k_b0 g_b0_3 ?_
    refine r_bipush (pc := 68) (v := 54) dX8_readCarrier_68 (by decide) ?_
    refine r_aload_n (pc := 70) dX8_readCarrier_70 rfl ?_
    refine s_getR (pc := 71) dX8_readCarrier_71 fl_X8_16 rfl k_b0 g_b0_3 ?_
    refine r_iconst (pc := 74) (v := 1) dX8_readCarrier_74 (by decide) ?_
    obtain ⟨i_2, K0⟩ := K0
    refine s_iald (pc := 75) dX8_readCarrier_75 k_b0_3 i_2 ?_
    refine r_iadd (pc := 76) dX8_readCarrier_76 ?_
    refine r_iload_n (pc := 77) dX8_readCarrier_77 rfl ?_
    obtain ⟨i_3, K0⟩ := K0
    refine s_iast (pc := 78) dX8_readCarrier_78 k_b0_3 i_3 ?_
    refine r_aload_n (pc := 79) dX8_readCarrier_79 rfl ?_
    refine s_getR (pc := 80) dX8_readCarrier_80 fl_X8_16 rfl k_b0 g_b0_3 ?_
    refine r_iconst (pc := 83) (v := 1) dX8_readCarrier_83 (by decide) ?_
    refine r_dup2 (pc := 84) dX8_readCarrier_84 rfl rfl ?_
    refine s_iald (pc := 85) dX8_readCarrier_85 k_b0_3 i_2 ?_
    refine r_iconst (pc := 86) (v := 1) dX8_readCarrier_86 (by decide) ?_
    refine r_iadd (pc := 87) dX8_readCarrier_87 ?_
    refine s_iast (pc := 88) dX8_readCarrier_88 k_b0_3 i_2 ?_
    refine r_aload_n (pc := 89) dX8_readCarrier_89 rfl ?_
    refine s_VV (pc := 90) mX8_advance (ci := 8) (a := b0) (As := []) dX8_readCarrier_90 lk_X8_151 in_X8_advance mo_X8_advance ⟨by decide, rfl⟩ ⟨by decide, by decide⟩ (Nat.le_of_ble_eq_true rfl) k_b0 (mSV_mono K0 (fun y_4 K0 => ?_))
    exact r_le (L' := [some (.ref b0), some (.int l1)]) ⟨rfl, ⟨rfl, trivial⟩⟩ K0
  · have q := (b2i_z _).mp q
    have K0 := K0.2 q
    exact s_ret rfl dX8_readCarrier_63 K0
set_option maxHeartbeats 2000000 in
theorem v_X8_readCarrier_93 {K : Sh} {x : Cn} {Q : Cn → Prop} {b0 : Nat} {l1 : Int32}   (K0 : Q x) : GV mX8_readCarrier 93 [some (.ref b0), some (.int l1)] [] K x Q := by
  show mGM mX8_readCarrier 93 [some (.ref b0), some (.int l1)] [] (hp K x) (PV K Q)
  exact s_ret rfl dX8_readCarrier_93 K0
section
theorem sp_X8_readCarrier {x : Cn} {Q : Cn → Prop} {b : TT} {n p : Nat} {T : TT} {lim : Int32} {W C S A : Nat} (c : RQ x b n p T lim W C S A) (o9 : iw b n p 9) (k1 : okC1 b n p T C → ∀ y, QFr x y → RQ y b n (nxt b n 2 p) (caT T C (vnm b n (nxt b n 1 p))) lim W (C + 1) S A → Q y) (k0 : ¬ okC1 b n p T C → ∀ y, QFr x y → Bd y → Q y) : mSV mX8_readCarrier [.ref 717] KW x Q := by
  have M := c.m
  obtain ⟨h0, hw, h1, hc, h2, hs, h3, ha, h4⟩ := id c.2.2.2.2
  have b56 : ∀ y l1, Bd y → MRf y 719 → Q y → GV mX8_readCarrier 56 [some (.ref 717), some (.int l1)] [] KW y Q := fun y l1 h M k => v_X8_readCarrier_56 km M.2.2.1 km2 ⟨fun z => absurd z h, fun _ => k⟩
  have b31 : ∀ y l1, Bd y → MRf y 719 → Q y → GV mX8_readCarrier 31 [some (.ref 717), some (.int l1)] [] KW y Q := fun y l1 h M k => v_X8_readCarrier_31 km ⟨fun _ => b56 y l1 h M k, fun z => absurd z h⟩
  have b20 : ∀ y, Bd y → MRf y 719 → Q y → GV mX8_readCarrier 20 [some (.ref 717), none] [] KW y Q := fun y h M k => v_X8_readCarrier_20 km (sp_X8_passes_b (by omega) M.2.2.2.1 h (v_X8_readCarrier_26 km (sp_X8_nameHere_b h (b31 y 0 h M k))))
  refine v_X8_readCarrier_0 km M.2.2.1 km2 ?_
  have e1 : gi x 719 1 = nI C := by rw [c.2.2.2.1]; exact h1
  have eC : nI C = 8 ↔ C = 8 := nI_eq (a := C) (b := 8) (by omega) (by omega)
  rw [e1, eC]
  refine ⟨iv0 1 518 rfl (by omega) (by decide), fun z => ?_, fun z => sp_X8_errs (by decide) (fun y f h => b20 y h (M.tf f) (k0 (fun o => by have := o.1; omega) y f.q h))⟩
  refine v_X8_readCarrier_20 km (sp_X8_passes wj_9 c.1 (fun _ y1 f1 g1 => ?_) (fun o => absurd o9 o))
  have c1 := c.t f1.t g1
  have F1 : QFr x y1 := f1.q
  have M1 := c1.m
  refine v_X8_readCarrier_26 km (sp_X8_nameHere g1 (fun o1 => ?_) (fun o1 y f h => b31 y 0 h (M1.tf f) (k0 (fun o => o1 o.2.1) y (F1.tr f.q) h)))
  refine v_X8_readCarrier_31 km ⟨fun z => absurd g1.2.2.2 z, fun _ => sp_X8_findName M1 km2 (C := C) (by rw [c1.2.2.2.1]; exact h1) hc ?_⟩
  rw [c1.2.2.2.1]
  refine ⟨fun o2 => ?_, fun o2 => sp_X8_errs (by decide) (fun y f h => b56 y _ h (M1.tf f) (k0 (fun o => o2 o.2.2) y (F1.tr f.q) h))⟩
  have y1C : gi y1 719 1 = nI C := by rw [c1.2.2.2.1]; exact h1
  refine v_X8_readCarrier_56 km M1.2.2.1 km2 ⟨fun _ => ?_, fun z => absurd g1.2.2.2 z⟩
  have i54 : (54 : Int32) + nI C = nI (54 + C) := by rw [show (54 : Int32) = nI 54 from rfl, nI_add]
  rw [y1C, i54, nI_clamp (by omega), gi_ui, if_neg (by omega), y1C, ← nI_succ]
  refine ⟨iv0 1 518 rfl (by omega) (by decide), vp_in_nI (by omega) (by decide), ?_⟩
  have g2 : RG (ui (ui y1 719 (54 + C) (nI (vnm b n (tE b n p)))) 719 1 (nI (C + 1))) b n (tE b n p) := (g1.u (by omega)).u (by omega)
  have c2 : RQ (ui (ui y1 719 (54 + C) (nI (vnm b n (tE b n p)))) 719 1 (nI (C + 1))) b n (tE b n p) (caT T C (vnm b n (tE b n p))) lim W (C + 1) S A := by
    refine ⟨g2, by rw [gi_ui, if_neg (by omega), gi_ui, if_neg (by omega)]; exact c1.2.1, by rw [gi_ui, if_neg (by omega), gi_ui, if_neg (by omega)]; exact c1.2.2.1, by rw [gi_719, gi_719, c1.2.2.2.1]; rfl, ?_⟩
    have e : ∀ i, i < 54 → i ≠ 1 → caT T C (vnm b n (tE b n p)) i = T i := fun i hi h => by unfold caT; rw [uT_ne _ _ h, uT_ne _ _ (by omega)]
    exact ⟨(e 0 (by omega) (by omega)).trans h0, hw, by unfold caT; rw [uT_at], by omega, (e 2 (by omega) (by omega)).trans h2, hs, (e 3 (by omega) (by omega)).trans h3, ha, (e 4 (by omega) (by omega)).trans h4⟩
  exact ad_r g2 (fun y3 f3 g3 => v_X8_readCarrier_93 (k1 ⟨by omega, o1, o2⟩ y3 (((F1.u (by omega)).u (by omega)).tr f3.q) (c2.t f3.t g3)))
/-! who, when, which weeks -/
end
set_option maxHeartbeats 2000000 in
theorem v_X8_readCommon_0 {K : Sh} {x : Cn} {Q : Cn → Prop} {b0 : Nat}  (k_b0 : kk K b0 = some (8, 0)) (K0 : mSI mX8_nameHere [.ref b0] K x (fun r_2 y_1 => mSI mX8_findName [.ref b0, .int r_2] K y_1 (fun r_4 y_3 => GV mX8_readCommon 9 [some (.ref b0), some (.int r_4), none] [] K y_3 Q))) : mSV mX8_readCommon [.ref b0] K x Q := by
  refine s_V (by decide) (by simp [Value.category]) (Nat.le_of_ble_eq_true rfl) ?_
  show mGM mX8_readCommon 0 [some (.ref b0), none, none] [] (hp K x) (PV K Q)
  refine r_aload_n (pc := 0) dX8_readCommon_0 rfl ?_
  refine r_aload_n (pc := 1) dX8_readCommon_1 rfl ?_
  refine s_VI (pc := 2) mX8_nameHere (ci := 8) (a := b0) (As := []) dX8_readCommon_2 lk_X8_221 in_X8_nameHere mo_X8_nameHere ⟨by decide, rfl⟩ ⟨by decide, by decide⟩ (Nat.le_of_ble_eq_true rfl) k_b0 (mSI_mono K0 (fun r_2 y_1 K0 => ?_))
  refine s_VI (pc := 5) mX8_findName (ci := 8) (a := b0) (As := [.int r_2]) dX8_readCommon_5 lk_X8_224 in_X8_findName mo_X8_findName ⟨by decide, rfl⟩ ⟨by decide, by decide⟩ (Nat.le_of_ble_eq_true rfl) k_b0 (mSI_mono K0 (fun r_4 y_3 K0 => ?_))
  refine r_istore_n (pc := 8) dX8_readCommon_8 (by decide) ?_
  exact r_le (L' := [some (.ref b0), some (.int r_4), none]) ⟨rfl, ⟨rfl, trivial⟩⟩ K0
set_option maxHeartbeats 2000000 in
theorem v_X8_readCommon_9 {K : Sh} {x : Cn} {Q : Cn → Prop} {b0 : Nat} {l1 : Int32}  (k_b0 : kk K b0 = some (8, 0)) (K0 : (¬ (gi x b0 11 = 0) → (GV mX8_readCommon 30 [some (.ref b0), some (.int l1), none] [] K x Q)) ∧ ((gi x b0 11 = 0) → ((¬ l1 = (-1) → (GV mX8_readCommon 30 [some (.ref b0), some (.int l1), none] [] K x Q)) ∧ (l1 = (-1) → (mSV mX8_errs [.ref b0, .int 4, .int (gi x b0 8)] K x (fun y_3 => GV mX8_readCommon 30 [some (.ref b0), some (.int l1), none] [] K y_3 Q)))))) : GV mX8_readCommon 9 [some (.ref b0), some (.int l1), none] [] K x Q := by
  show mGM mX8_readCommon 9 [some (.ref b0), some (.int l1), none] [] (hp K x) (PV K Q)
  refine r_aload_n (pc := 9) dX8_readCommon_9 rfl ?_
  refine s_VI (pc := 10) mX8_good (ci := 8) (a := b0) (As := []) dX8_readCommon_10 lk_X8_104 in_X8_good mo_X8_good ⟨by decide, rfl⟩ ⟨by decide, by decide⟩ (Nat.le_of_ble_eq_true rfl) k_b0 (sp_X8_good k_b0 ?_)
  refine r_if_eq (pc := 13) (tgt := 30) dX8_readCommon_13 (by decide) (fun q => ?_) (fun q => ?_)
  · have q := (b2i_z _).mp q
    have K0 := K0.1 q
    exact r_le (L' := [some (.ref b0), some (.int l1), none]) ⟨rfl, ⟨rfl, trivial⟩⟩ K0
  · have q := b2i_nz q
    have K0 := K0.2 q
    refine r_iload_n (pc := 16) dX8_readCommon_16 rfl ?_
    refine r_iconst (pc := 17) (v := (-1)) dX8_readCommon_17 (by decide) ?_
    refine r_icmp_ne (pc := 18) (tgt := 30) dX8_readCommon_18 (by decide) (fun q => ?_) (fun q => ?_)
    · have K0 := K0.1 q
      exact r_le (L' := [some (.ref b0), some (.int l1), none]) ⟨rfl, ⟨rfl, trivial⟩⟩ K0
    · have K0 := K0.2 q
      refine r_aload_n (pc := 21) dX8_readCommon_21 rfl ?_
      refine r_iconst (pc := 22) (v := 4) dX8_readCommon_22 (by decide) ?_
      refine r_aload_n (pc := 23) dX8_readCommon_23 rfl ?_
      refine s_getI (pc := 24) dX8_readCommon_24 fl_X8_116 rfl k_b0 ?_
      refine s_VV (pc := 27) mX8_errs (ci := 8) (a := b0) (As := [.int 4, .int (gi x b0 8)]) dX8_readCommon_27 lk_X8_157 in_X8_errs mo_X8_errs ⟨by decide, rfl⟩ ⟨by decide, by decide⟩ (Nat.le_of_ble_eq_true rfl) k_b0 (mSV_mono K0 (fun y_3 K0 => ?_))
      exact r_le (L' := [some (.ref b0), some (.int l1), none]) ⟨rfl, ⟨rfl, trivial⟩⟩ K0
set_option maxHeartbeats 2000000 in
theorem v_X8_readCommon_30 {K : Sh} {x : Cn} {Q : Cn → Prop} {b0 : Nat} {l1 : Int32}  (k_b0 : kk K b0 = some (8, 0)) (K0 : (¬ (gi x b0 11 = 0) → (GV mX8_readCommon 41 [some (.ref b0), some (.int l1), none] [] K x Q)) ∧ ((gi x b0 11 = 0) → (mSV mX8_advance [.ref b0] K x (fun y_2 => GV mX8_readCommon 41 [some (.ref b0), some (.int l1), none] [] K y_2 Q)))) : GV mX8_readCommon 30 [some (.ref b0), some (.int l1), none] [] K x Q := by
  show mGM mX8_readCommon 30 [some (.ref b0), some (.int l1), none] [] (hp K x) (PV K Q)
  refine r_aload_n (pc := 30) dX8_readCommon_30 rfl ?_
  refine s_VI (pc := 31) mX8_good (ci := 8) (a := b0) (As := []) dX8_readCommon_31 lk_X8_104 in_X8_good mo_X8_good ⟨by decide, rfl⟩ ⟨by decide, by decide⟩ (Nat.le_of_ble_eq_true rfl) k_b0 (sp_X8_good k_b0 ?_)
  refine r_if_eq (pc := 34) (tgt := 41) dX8_readCommon_34 (by decide) (fun q => ?_) (fun q => ?_)
  · have q := (b2i_z _).mp q
    have K0 := K0.1 q
    exact r_le (L' := [some (.ref b0), some (.int l1), none]) ⟨rfl, ⟨rfl, trivial⟩⟩ K0
  · have q := b2i_nz q
    have K0 := K0.2 q
    refine r_aload_n (pc := 37) dX8_readCommon_37 rfl ?_
    refine s_VV (pc := 38) mX8_advance (ci := 8) (a := b0) (As := []) dX8_readCommon_38 lk_X8_151 in_X8_advance mo_X8_advance ⟨by decide, rfl⟩ ⟨by decide, by decide⟩ (Nat.le_of_ble_eq_true rfl) k_b0 (mSV_mono K0 (fun y_2 K0 => ?_))
    exact r_le (L' := [some (.ref b0), some (.int l1), none]) ⟨rfl, ⟨rfl, trivial⟩⟩ K0
set_option maxHeartbeats 2000000 in
theorem v_X8_readCommon_41 {K : Sh} {x : Cn} {Q : Cn → Prop} {b0 : Nat} {l1 : Int32}  (k_b0 : kk K b0 = some (8, 0)) (K0 : mSI mX8_dayHere [.ref b0] K x (fun r_2 y_1 => GV mX8_readCommon 46 [some (.ref b0), some (.int l1), some (.int r_2)] [] K y_1 Q)) : GV mX8_readCommon 41 [some (.ref b0), some (.int l1), none] [] K x Q := by
  show mGM mX8_readCommon 41 [some (.ref b0), some (.int l1), none] [] (hp K x) (PV K Q)
  refine r_aload_n (pc := 41) dX8_readCommon_41 rfl ?_
  refine s_VI (pc := 42) mX8_dayHere (ci := 8) (a := b0) (As := []) dX8_readCommon_42 lk_X8_182 in_X8_dayHere mo_X8_dayHere ⟨by decide, rfl⟩ ⟨by decide, by decide⟩ (Nat.le_of_ble_eq_true rfl) k_b0 (mSI_mono K0 (fun r_2 y_1 K0 => ?_))
  refine r_istore_n (pc := 45) dX8_readCommon_45 (by decide) ?_
  exact r_le (L' := [some (.ref b0), some (.int l1), some (.int r_2)]) ⟨rfl, ⟨rfl, ⟨rfl, trivial⟩⟩⟩ K0
set_option maxHeartbeats 2000000 in
theorem v_X8_readCommon_46 {K : Sh} {x : Cn} {Q : Cn → Prop} {b0 : Nat} {l1 : Int32} {l2 : Int32}  (k_b0 : kk K b0 = some (8, 0)) (K0 : (¬ l2 = (-1) → (GV mX8_readCommon 60 [some (.ref b0), some (.int l1), some (.int l2)] [] K x Q)) ∧ (l2 = (-1) → (mSV mX8_errs [.ref b0, .int 1, .int (gi x b0 8)] K x (fun y_2 => GV mX8_readCommon 60 [some (.ref b0), some (.int l1), some (.int l2)] [] K y_2 Q)))) : GV mX8_readCommon 46 [some (.ref b0), some (.int l1), some (.int l2)] [] K x Q := by
  show mGM mX8_readCommon 46 [some (.ref b0), some (.int l1), some (.int l2)] [] (hp K x) (PV K Q)
  refine r_iload_n (pc := 46) dX8_readCommon_46 rfl ?_
  refine r_iconst (pc := 47) (v := (-1)) dX8_readCommon_47 (by decide) ?_
  refine r_icmp_ne (pc := 48) (tgt := 60) dX8_readCommon_48 (by decide) (fun q => ?_) (fun q => ?_)
  · have K0 := K0.1 q
    exact r_le (L' := [some (.ref b0), some (.int l1), some (.int l2)]) ⟨rfl, ⟨rfl, ⟨rfl, trivial⟩⟩⟩ K0
  · have K0 := K0.2 q
    refine r_aload_n (pc := 51) dX8_readCommon_51 rfl ?_
    refine r_iconst (pc := 52) (v := 1) dX8_readCommon_52 (by decide) ?_
    refine r_aload_n (pc := 53) dX8_readCommon_53 rfl ?_
    refine s_getI (pc := 54) dX8_readCommon_54 fl_X8_116 rfl k_b0 ?_
    refine s_VV (pc := 57) mX8_errs (ci := 8) (a := b0) (As := [.int 1, .int (gi x b0 8)]) dX8_readCommon_57 lk_X8_157 in_X8_errs mo_X8_errs ⟨by decide, rfl⟩ ⟨by decide, by decide⟩ (Nat.le_of_ble_eq_true rfl) k_b0 (mSV_mono K0 (fun y_2 K0 => ?_))
    exact r_le (L' := [some (.ref b0), some (.int l1), some (.int l2)]) ⟨rfl, ⟨rfl, ⟨rfl, trivial⟩⟩⟩ K0
set_option maxHeartbeats 2000000 in
theorem v_X8_readCommon_60 {K : Sh} {x : Cn} {Q : Cn → Prop} {b0 : Nat} {l1 : Int32} {l2 : Int32}  (k_b0 : kk K b0 = some (8, 0)) (K0 : (¬ (gi x b0 11 = 0) → (GV mX8_readCommon 71 [some (.ref b0), some (.int l1), some (.int l2)] [] K x Q)) ∧ ((gi x b0 11 = 0) → (mSV mX8_advance [.ref b0] K x (fun y_2 => GV mX8_readCommon 71 [some (.ref b0), some (.int l1), some (.int l2)] [] K y_2 Q)))) : GV mX8_readCommon 60 [some (.ref b0), some (.int l1), some (.int l2)] [] K x Q := by
  show mGM mX8_readCommon 60 [some (.ref b0), some (.int l1), some (.int l2)] [] (hp K x) (PV K Q)
  refine r_aload_n (pc := 60) dX8_readCommon_60 rfl ?_
  refine s_VI (pc := 61) mX8_good (ci := 8) (a := b0) (As := []) dX8_readCommon_61 lk_X8_104 in_X8_good mo_X8_good ⟨by decide, rfl⟩ ⟨by decide, by decide⟩ (Nat.le_of_ble_eq_true rfl) k_b0 (sp_X8_good k_b0 ?_)
  refine r_if_eq (pc := 64) (tgt := 71) dX8_readCommon_64 (by decide) (fun q => ?_) (fun q => ?_)
  · have q := (b2i_z _).mp q
    have K0 := K0.1 q
    exact r_le (L' := [some (.ref b0), some (.int l1), some (.int l2)]) ⟨rfl, ⟨rfl, ⟨rfl, trivial⟩⟩⟩ K0
  · have q := b2i_nz q
    have K0 := K0.2 q
    refine r_aload_n (pc := 67) dX8_readCommon_67 rfl ?_
    refine s_VV (pc := 68) mX8_advance (ci := 8) (a := b0) (As := []) dX8_readCommon_68 lk_X8_151 in_X8_advance mo_X8_advance ⟨by decide, rfl⟩ ⟨by decide, by decide⟩ (Nat.le_of_ble_eq_true rfl) k_b0 (mSV_mono K0 (fun y_2 K0 => ?_))
    exact r_le (L' := [some (.ref b0), some (.int l1), some (.int l2)]) ⟨rfl, ⟨rfl, ⟨rfl, trivial⟩⟩⟩ K0
set_option maxHeartbeats 2000000 in
theorem v_X8_readCommon_71 {K : Sh} {x : Cn} {Q : Cn → Prop} {b0 : Nat} {l1 : Int32} {l2 : Int32} {b0_15 : Nat} {n_b0_15 : Nat} (k_b0 : kk K b0 = some (8, 0)) (g_b0_15 : gr x b0 15 = some b0_15) (k_b0_15 : kk K b0_15 = some (20, n_b0_15)) (K0 : vp_in 0 n_b0_15 ∧ (vp_in 1 n_b0_15 ∧ (mSI mX8_number [.ref b0, .int 0, .int 23] K (ui (ui x b0_15 0 l1) b0_15 1 l2) (fun r_4 y_3 => vp_in 2 n_b0_15 ∧ (GV mX8_readCommon 98 [some (.ref b0), some (.int l1), some (.int l2)] [] K (ui y_3 b0_15 2 r_4) Q))))) : GV mX8_readCommon 71 [some (.ref b0), some (.int l1), some (.int l2)] [] K x Q := by
  show mGM mX8_readCommon 71 [some (.ref b0), some (.int l1), some (.int l2)] [] (hp K x) (PV K Q)
  refine r_aload_n (pc := 71) dX8_readCommon_71 rfl ?_
  refine s_getR (pc := 72) dX8_readCommon_72 fl_X8_27 rfl k_b0 g_b0_15 ?_
  refine r_iconst (pc := 75) (v := 0) dX8_readCommon_75 (by decide) ?_
  refine r_iload_n (pc := 76) dX8_readCommon_76 rfl ?_
  obtain ⟨i_1, K0⟩ := K0
  refine s_iast (pc := 77) dX8_readCommon_77 k_b0_15 i_1 ?_
  refine r_aload_n (pc := 78) dX8_readCommon_78 rfl ?_
  refine s_getR (pc := 79) dX8_readCommon_79 fl_X8_27 rfl k_b0 g_b0_15 ?_
  refine r_iconst (pc := 82) (v := 1) dX8_readCommon_82 (by decide) ?_
  refine r_iload_n (pc := 83) dX8_readCommon_83 rfl ?_
  obtain ⟨i_2, K0⟩ := K0
  refine s_iast (pc := 84) dX8_readCommon_84 k_b0_15 i_2 ?_
  refine r_aload_n (pc := 85) dX8_readCommon_85 rfl ?_
  refine s_getR (pc := 86) dX8_readCommon_86 fl_X8_27 rfl k_b0 g_b0_15 ?_
  refine r_iconst (pc := 89) (v := 2) dX8_readCommon_89 (by decide) ?_
  refine r_aload_n (pc := 90) dX8_readCommon_90 rfl ?_
  refine r_iconst (pc := 91) (v := 0) dX8_readCommon_91 (by decide) ?_
  refine r_bipush (pc := 92) (v := 23) dX8_readCommon_92 (by decide) ?_
  refine s_VI (pc := 94) mX8_number (ci := 8) (a := b0) (As := [.int 0, .int 23]) dX8_readCommon_94 lk_X8_218 in_X8_number mo_X8_number ⟨by decide, rfl⟩ ⟨by decide, by decide⟩ (Nat.le_of_ble_eq_true rfl) k_b0 (mSI_mono K0 (fun r_4 y_3 K0 => ?_))
  obtain ⟨i_5, K0⟩ := K0
  refine s_iast (pc := 97) dX8_readCommon_97 k_b0_15 i_5 ?_
  exact r_le (L' := [some (.ref b0), some (.int l1), some (.int l2)]) ⟨rfl, ⟨rfl, ⟨rfl, trivial⟩⟩⟩ K0
set_option maxHeartbeats 2000000 in
theorem v_X8_readCommon_98 {K : Sh} {x : Cn} {Q : Cn → Prop} {b0 : Nat} {l1 : Int32} {l2 : Int32}  (k_b0 : kk K b0 = some (8, 0)) (K0 : (¬ (gi x b0 11 = 0) → (GV mX8_readCommon 132 [some (.ref b0), some (.int l1), some (.int l2)] [] K x Q)) ∧ ((gi x b0 11 = 0) → (mSI mX8_isWord [.ref b0, .ref (mSB + 13)] K x (fun r_3 y_2 => (¬ r_3 = 0 → (GV mX8_readCommon 132 [some (.ref b0), some (.int l1), some (.int l2)] [] K y_2 Q)) ∧ (r_3 = 0 → (mSI mX8_isWord [.ref b0, .ref (mSB + 24)] K y_2 (fun r_6 y_5 => (¬ r_6 = 0 → (GV mX8_readCommon 132 [some (.ref b0), some (.int l1), some (.int l2)] [] K y_5 Q)) ∧ (r_6 = 0 → (mSV mX8_errs [.ref b0, .int 1, .int (gi y_5 b0 8)] K y_5 (fun y_8 => GV mX8_readCommon 132 [some (.ref b0), some (.int l1), some (.int l2)] [] K y_8 Q)))))))))) : GV mX8_readCommon 98 [some (.ref b0), some (.int l1), some (.int l2)] [] K x Q := by
  show mGM mX8_readCommon 98 [some (.ref b0), some (.int l1), some (.int l2)] [] (hp K x) (PV K Q)
  refine r_aload_n (pc := 98) dX8_readCommon_98 rfl ?_
  refine s_VI (pc := 99) mX8_good (ci := 8) (a := b0) (As := []) dX8_readCommon_99 lk_X8_104 in_X8_good mo_X8_good ⟨by decide, rfl⟩ ⟨by decide, by decide⟩ (Nat.le_of_ble_eq_true rfl) k_b0 (sp_X8_good k_b0 ?_)
  refine r_if_eq (pc := 102) (tgt := 132) dX8_readCommon_102 (by decide) (fun q => ?_) (fun q => ?_)
  · have q := (b2i_z _).mp q
    have K0 := K0.1 q
    exact r_le (L' := [some (.ref b0), some (.int l1), some (.int l2)]) ⟨rfl, ⟨rfl, ⟨rfl, trivial⟩⟩⟩ K0
  · have q := b2i_nz q
    have K0 := K0.2 q
    refine r_aload_n (pc := 105) dX8_readCommon_105 rfl ?_
    refine r_ldcS (pc := 106) (j := 13) dX8_readCommon_106 rfl ?_
    refine s_VI (pc := 108) mX8_isWord (ci := 8) (a := b0) (As := [.ref (mSB + 13)]) dX8_readCommon_108 lk_X8_147 in_X8_isWord mo_X8_isWord ⟨by decide, rfl⟩ ⟨by decide, by decide⟩ (Nat.le_of_ble_eq_true rfl) k_b0 (mSI_mono K0 (fun r_3 y_2 K0 => ?_))
    refine r_if_ne (pc := 111) (tgt := 132) dX8_readCommon_111 (by decide) (fun q => ?_) (fun q => ?_)
    · have K0 := K0.1 q
      exact r_le (L' := [some (.ref b0), some (.int l1), some (.int l2)]) ⟨rfl, ⟨rfl, ⟨rfl, trivial⟩⟩⟩ K0
    · have K0 := K0.2 q
      refine r_aload_n (pc := 114) dX8_readCommon_114 rfl ?_
      refine r_ldcS (pc := 115) (j := 24) dX8_readCommon_115 rfl ?_
      refine s_VI (pc := 117) mX8_isWord (ci := 8) (a := b0) (As := [.ref (mSB + 24)]) dX8_readCommon_117 lk_X8_147 in_X8_isWord mo_X8_isWord ⟨by decide, rfl⟩ ⟨by decide, by decide⟩ (Nat.le_of_ble_eq_true rfl) k_b0 (mSI_mono K0 (fun r_6 y_5 K0 => ?_))
      refine r_if_ne (pc := 120) (tgt := 132) dX8_readCommon_120 (by decide) (fun q => ?_) (fun q => ?_)
      · have K0 := K0.1 q
        exact r_le (L' := [some (.ref b0), some (.int l1), some (.int l2)]) ⟨rfl, ⟨rfl, ⟨rfl, trivial⟩⟩⟩ K0
      · have K0 := K0.2 q
        refine r_aload_n (pc := 123) dX8_readCommon_123 rfl ?_
        refine r_iconst (pc := 124) (v := 1) dX8_readCommon_124 (by decide) ?_
        refine r_aload_n (pc := 125) dX8_readCommon_125 rfl ?_
        refine s_getI (pc := 126) dX8_readCommon_126 fl_X8_116 rfl k_b0 ?_
        refine s_VV (pc := 129) mX8_errs (ci := 8) (a := b0) (As := [.int 1, .int (gi y_5 b0 8)]) dX8_readCommon_129 lk_X8_157 in_X8_errs mo_X8_errs ⟨by decide, rfl⟩ ⟨by decide, by decide⟩ (Nat.le_of_ble_eq_true rfl) k_b0 (mSV_mono K0 (fun y_8 K0 => ?_))
        exact r_le (L' := [some (.ref b0), some (.int l1), some (.int l2)]) ⟨rfl, ⟨rfl, ⟨rfl, trivial⟩⟩⟩ K0
set_option maxHeartbeats 2000000 in
theorem v_X8_readCommon_132 {K : Sh} {x : Cn} {Q : Cn → Prop} {b0 : Nat} {l1 : Int32} {l2 : Int32} {b0_15 : Nat} {n_b0_15 : Nat} (k_b0 : kk K b0 = some (8, 0)) (g_b0_15 : gr x b0 15 = some b0_15) (k_b0_15 : kk K b0_15 = some (20, n_b0_15)) (K0 : mSI mX8_isWord [.ref b0, .ref (mSB + 24)] K x (fun r_2 y_1 => (r_2 = 0 → (vp_in 3 n_b0_15 ∧ ((¬ (gi (ui y_1 b0_15 3 0) b0 11 = 0) → (GV mX8_readCommon 163 [some (.ref b0), some (.int l1), some (.int l2)] [] K (ui y_1 b0_15 3 0) Q)) ∧ ((gi (ui y_1 b0_15 3 0) b0 11 = 0) → (mSV mX8_advance [.ref b0] K (ui y_1 b0_15 3 0) (fun y_6 => GV mX8_readCommon 163 [some (.ref b0), some (.int l1), some (.int l2)] [] K y_6 Q)))))) ∧ (¬ r_2 = 0 → (vp_in 3 n_b0_15 ∧ ((¬ (gi (ui y_1 b0_15 3 1) b0 11 = 0) → (GV mX8_readCommon 163 [some (.ref b0), some (.int l1), some (.int l2)] [] K (ui y_1 b0_15 3 1) Q)) ∧ ((gi (ui y_1 b0_15 3 1) b0 11 = 0) → (mSV mX8_advance [.ref b0] K (ui y_1 b0_15 3 1) (fun y_9 => GV mX8_readCommon 163 [some (.ref b0), some (.int l1), some (.int l2)] [] K y_9 Q)))))))) : GV mX8_readCommon 132 [some (.ref b0), some (.int l1), some (.int l2)] [] K x Q := by
  show mGM mX8_readCommon 132 [some (.ref b0), some (.int l1), some (.int l2)] [] (hp K x) (PV K Q)
  refine r_aload_n (pc := 132) dX8_readCommon_132 rfl ?_
  refine s_getR (pc := 133) dX8_readCommon_133 fl_X8_27 rfl k_b0 g_b0_15 ?_
  refine r_iconst (pc := 136) (v := 3) dX8_readCommon_136 (by decide) ?_
  refine r_aload_n (pc := 137) dX8_readCommon_137 rfl ?_
  refine r_ldcS (pc := 138) (j := 24) dX8_readCommon_138 rfl ?_
  refine s_VI (pc := 140) mX8_isWord (ci := 8) (a := b0) (As := [.ref (mSB + 24)]) dX8_readCommon_140 lk_X8_147 in_X8_isWord mo_X8_isWord ⟨by decide, rfl⟩ ⟨by decide, by decide⟩ (Nat.le_of_ble_eq_true rfl) k_b0 (mSI_mono K0 (fun r_2 y_1 K0 => ?_))
  refine r_if_eq (pc := 143) (tgt := 150) dX8_readCommon_143 (by decide) (fun q => ?_) (fun q => ?_)
  · have K0 := K0.1 q
    refine r_iconst (pc := 150) (v := 0) dX8_readCommon_150 (by decide) ?_
    obtain ⟨i_4, K0⟩ := K0
    refine s_iast (pc := 151) dX8_readCommon_151 k_b0_15 i_4 ?_
    refine r_aload_n (pc := 152) dX8_readCommon_152 rfl ?_
    refine s_VI (pc := 153) mX8_good (ci := 8) (a := b0) (As := []) dX8_readCommon_153 lk_X8_104 in_X8_good mo_X8_good ⟨by decide, rfl⟩ ⟨by decide, by decide⟩ (Nat.le_of_ble_eq_true rfl) k_b0 (sp_X8_good k_b0 ?_)
    refine r_if_eq (pc := 156) (tgt := 163) dX8_readCommon_156 (by decide) (fun q => ?_) (fun q => ?_)
    · have q := (b2i_z _).mp q
      have K0 := K0.1 q
      exact r_le (L' := [some (.ref b0), some (.int l1), some (.int l2)]) ⟨rfl, ⟨rfl, ⟨rfl, trivial⟩⟩⟩ K0
    · have q := b2i_nz q
      have K0 := K0.2 q
      refine r_aload_n (pc := 159) dX8_readCommon_159 rfl ?_
      refine s_VV (pc := 160) mX8_advance (ci := 8) (a := b0) (As := []) dX8_readCommon_160 lk_X8_151 in_X8_advance mo_X8_advance ⟨by decide, rfl⟩ ⟨by decide, by decide⟩ (Nat.le_of_ble_eq_true rfl) k_b0 (mSV_mono K0 (fun y_6 K0 => ?_))
      exact r_le (L' := [some (.ref b0), some (.int l1), some (.int l2)]) ⟨rfl, ⟨rfl, ⟨rfl, trivial⟩⟩⟩ K0
  · have K0 := K0.2 q
    refine r_iconst (pc := 146) (v := 1) dX8_readCommon_146 (by decide) ?_
    refine r_goto (pc := 147) (tgt := 151) dX8_readCommon_147 (by decide) ?_
    obtain ⟨i_7, K0⟩ := K0
    refine s_iast (pc := 151) dX8_readCommon_151 k_b0_15 i_7 ?_
    refine r_aload_n (pc := 152) dX8_readCommon_152 rfl ?_
    refine s_VI (pc := 153) mX8_good (ci := 8) (a := b0) (As := []) dX8_readCommon_153 lk_X8_104 in_X8_good mo_X8_good ⟨by decide, rfl⟩ ⟨by decide, by decide⟩ (Nat.le_of_ble_eq_true rfl) k_b0 (sp_X8_good k_b0 ?_)
    refine r_if_eq (pc := 156) (tgt := 163) dX8_readCommon_156 (by decide) (fun q => ?_) (fun q => ?_)
    · have q := (b2i_z _).mp q
      have K0 := K0.1 q
      exact r_le (L' := [some (.ref b0), some (.int l1), some (.int l2)]) ⟨rfl, ⟨rfl, ⟨rfl, trivial⟩⟩⟩ K0
    · have q := b2i_nz q
      have K0 := K0.2 q
      refine r_aload_n (pc := 159) dX8_readCommon_159 rfl ?_
      refine s_VV (pc := 160) mX8_advance (ci := 8) (a := b0) (As := []) dX8_readCommon_160 lk_X8_151 in_X8_advance mo_X8_advance ⟨by decide, rfl⟩ ⟨by decide, by decide⟩ (Nat.le_of_ble_eq_true rfl) k_b0 (mSV_mono K0 (fun y_9 K0 => ?_))
      exact r_le (L' := [some (.ref b0), some (.int l1), some (.int l2)]) ⟨rfl, ⟨rfl, ⟨rfl, trivial⟩⟩⟩ K0
set_option maxHeartbeats 2000000 in
theorem v_X8_readCommon_163 {K : Sh} {x : Cn} {Q : Cn → Prop} {b0 : Nat} {l1 : Int32} {l2 : Int32} {b0_15 : Nat} {b0_3 : Nat} {n_b0_3 : Nat} {n_b0_15 : Nat} (k_b0 : kk K b0 = some (8, 0)) (g_b0_15 : gr x b0 15 = some b0_15) (g_b0_3 : gr x b0 3 = some b0_3) (k_b0_3 : kk K b0_3 = some (20, n_b0_3)) (k_b0_15 : kk K b0_15 = some (20, n_b0_15)) (K0 : vp_in 0 n_b0_3 ∧ (mSI mX8_number [.ref b0, .int 0, .int ((gi x b0_3 0) - 1)] K x (fun r_3 y_2 => vp_in 4 n_b0_15 ∧ (GV mX8_readCommon 182 [some (.ref b0), some (.int l1), some (.int l2)] [] K (ui y_2 b0_15 4 r_3) Q)))) : GV mX8_readCommon 163 [some (.ref b0), some (.int l1), some (.int l2)] [] K x Q := by
  show mGM mX8_readCommon 163 [some (.ref b0), some (.int l1), some (.int l2)] [] (hp K x) (PV K Q)
  refine r_aload_n (pc := 163) dX8_readCommon_163 rfl ?_
  refine s_getR (pc := 164) dX8_readCommon_164 fl_X8_27 rfl k_b0 g_b0_15 ?_
  refine r_iconst (pc := 167) (v := 4) dX8_readCommon_167 (by decide) ?_
  refine r_aload_n (pc := 168) dX8_readCommon_168 rfl ?_
  refine r_iconst (pc := 169) (v := 0) dX8_readCommon_169 (by decide) ?_
  refine r_aload_n (pc := 170) dX8_readCommon_170 rfl ?_
  refine s_getR (pc := 171) dX8_readCommon_171 fl_X8_16 rfl k_b0 g_b0_3 ?_
  refine r_iconst (pc := 174) (v := 0) dX8_readCommon_174 (by decide) ?_
  obtain ⟨i_1, K0⟩ := K0
  refine s_iald (pc := 175) dX8_readCommon_175 k_b0_3 i_1 ?_
  refine r_iconst (pc := 176) (v := 1) dX8_readCommon_176 (by decide) ?_
  refine r_isub (pc := 177) dX8_readCommon_177 ?_
  refine s_VI (pc := 178) mX8_number (ci := 8) (a := b0) (As := [.int 0, .int ((gi x b0_3 0) - 1)]) dX8_readCommon_178 lk_X8_218 in_X8_number mo_X8_number ⟨by decide, rfl⟩ ⟨by decide, by decide⟩ (Nat.le_of_ble_eq_true rfl) k_b0 (mSI_mono K0 (fun r_3 y_2 K0 => ?_))
  obtain ⟨i_4, K0⟩ := K0
  refine s_iast (pc := 181) dX8_readCommon_181 k_b0_15 i_4 ?_
  exact r_le (L' := [some (.ref b0), some (.int l1), some (.int l2)]) ⟨rfl, ⟨rfl, ⟨rfl, trivial⟩⟩⟩ K0
set_option maxHeartbeats 2000000 in
theorem v_X8_readCommon_182 {K : Sh} {x : Cn} {Q : Cn → Prop} {b0 : Nat} {l1 : Int32} {l2 : Int32}  (k_b0 : kk K b0 = some (8, 0)) (K0 : mSV mX8_passesByte [.ref b0, .int 45] K x (fun y_1 => GV mX8_readCommon 188 [some (.ref b0), some (.int l1), some (.int l2)] [] K y_1 Q)) : GV mX8_readCommon 182 [some (.ref b0), some (.int l1), some (.int l2)] [] K x Q := by
  show mGM mX8_readCommon 182 [some (.ref b0), some (.int l1), some (.int l2)] [] (hp K x) (PV K Q)
  refine r_aload_n (pc := 182) dX8_readCommon_182 rfl ?_
  refine r_bipush (pc := 183) (v := 45) dX8_readCommon_183 (by decide) ?_
  refine s_VV (pc := 185) mX8_passesByte (ci := 8) (a := b0) (As := [.int 45]) dX8_readCommon_185 lk_X8_227 in_X8_passesByte mo_X8_passesByte ⟨by decide, rfl⟩ ⟨by decide, by decide⟩ (Nat.le_of_ble_eq_true rfl) k_b0 (mSV_mono K0 (fun y_1 K0 => ?_))
  exact r_le (L' := [some (.ref b0), some (.int l1), some (.int l2)]) ⟨rfl, ⟨rfl, ⟨rfl, trivial⟩⟩⟩ K0
set_option maxHeartbeats 2000000 in
theorem v_X8_readCommon_188 {K : Sh} {x : Cn} {Q : Cn → Prop} {b0 : Nat} {l1 : Int32} {l2 : Int32} {b0_15 : Nat} {n_b0_15 : Nat} {b0_3 : Nat} {n_b0_3 : Nat} (k_b0 : kk K b0 = some (8, 0)) (g_b0_15 : gr x b0 15 = some b0_15) (k_b0_15 : kk K b0_15 = some (20, n_b0_15)) (g_b0_3 : gr x b0 3 = some b0_3) (k_b0_3 : kk K b0_3 = some (20, n_b0_3)) (K0 : vp_in 4 n_b0_15 ∧ (vp_in 0 n_b0_3 ∧ (mSI mX8_number [.ref b0, .int ((gi x b0_15 4) + 4), .int ((gi x b0_3 0) - 1)] K x (fun r_4 y_3 => vp_in 5 n_b0_15 ∧ (GV mX8_readCommon 214 [some (.ref b0), some (.int l1), some (.int l2)] [] K (ui y_3 b0_15 5 r_4) Q))))) : GV mX8_readCommon 188 [some (.ref b0), some (.int l1), some (.int l2)] [] K x Q := by
  show mGM mX8_readCommon 188 [some (.ref b0), some (.int l1), some (.int l2)] [] (hp K x) (PV K Q)
  refine r_aload_n (pc := 188) dX8_readCommon_188 rfl ?_
  refine s_getR (pc := 189) dX8_readCommon_189 fl_X8_27 rfl k_b0 g_b0_15 ?_
  refine r_iconst (pc := 192) (v := 5) dX8_readCommon_192 (by decide) ?_
  refine r_aload_n (pc := 193) dX8_readCommon_193 rfl ?_
  refine r_aload_n (pc := 194) dX8_readCommon_194 rfl ?_
  refine s_getR (pc := 195) dX8_readCommon_195 fl_X8_27 rfl k_b0 g_b0_15 ?_
  refine r_iconst (pc := 198) (v := 4) dX8_readCommon_198 (by decide) ?_
  obtain ⟨i_1, K0⟩ := K0
  refine s_iald (pc := 199) dX8_readCommon_199 k_b0_15 i_1 ?_
  refine r_iconst (pc := 200) (v := 4) dX8_readCommon_200 (by decide) ?_
  refine r_iadd (pc := 201) dX8_readCommon_201 ?_
  refine r_aload_n (pc := 202) dX8_readCommon_202 rfl ?_
  refine s_getR (pc := 203) dX8_readCommon_203 fl_X8_16 rfl k_b0 g_b0_3 ?_
  refine r_iconst (pc := 206) (v := 0) dX8_readCommon_206 (by decide) ?_
  obtain ⟨i_2, K0⟩ := K0
  refine s_iald (pc := 207) dX8_readCommon_207 k_b0_3 i_2 ?_
  refine r_iconst (pc := 208) (v := 1) dX8_readCommon_208 (by decide) ?_
  refine r_isub (pc := 209) dX8_readCommon_209 ?_
  refine s_VI (pc := 210) mX8_number (ci := 8) (a := b0) (As := [.int ((gi x b0_15 4) + 4), .int ((gi x b0_3 0) - 1)]) dX8_readCommon_210 lk_X8_218 in_X8_number mo_X8_number ⟨by decide, rfl⟩ ⟨by decide, by decide⟩ (Nat.le_of_ble_eq_true rfl) k_b0 (mSI_mono K0 (fun r_4 y_3 K0 => ?_))
  obtain ⟨i_5, K0⟩ := K0
  refine s_iast (pc := 213) dX8_readCommon_213 k_b0_15 i_5 ?_
  exact r_le (L' := [some (.ref b0), some (.int l1), some (.int l2)]) ⟨rfl, ⟨rfl, ⟨rfl, trivial⟩⟩⟩ K0
set_option maxHeartbeats 2000000 in
theorem v_X8_readCommon_214 {K : Sh} {x : Cn} {Q : Cn → Prop} {b0 : Nat} {l1 : Int32} {l2 : Int32}   (K0 : Q x) : GV mX8_readCommon 214 [some (.ref b0), some (.int l1), some (.int l2)] [] K x Q := by
  show mGM mX8_readCommon 214 [some (.ref b0), some (.int l1), some (.int l2)] [] (hp K x) (PV K Q)
  exact s_ret rfl dX8_readCommon_214 K0
section
theorem lp_X8_readCommon_b {x : Cn} {Q : Cn → Prop} (h : Bd x) (M : MRf x 719) (k : ∀ y, EQx x y 721 → Q y) : (∀ y l1 l2, EQx x y 721 → GV mX8_readCommon 214 [some (.ref 717), some (.int l1), some (.int l2)] [] KW y Q) ∧ (∀ y l1 l2, EQx x y 721 → GV mX8_readCommon 188 [some (.ref 717), some (.int l1), some (.int l2)] [] KW y Q) ∧ (∀ y l1 l2, EQx x y 721 → GV mX8_readCommon 182 [some (.ref 717), some (.int l1), some (.int l2)] [] KW y Q) ∧ (∀ y l1 l2, EQx x y 721 → GV mX8_readCommon 163 [some (.ref 717), some (.int l1), some (.int l2)] [] KW y Q) ∧ (∀ y l1 l2, EQx x y 721 → GV mX8_readCommon 132 [some (.ref 717), some (.int l1), some (.int l2)] [] KW y Q) ∧ (∀ y l1 l2, EQx x y 721 → GV mX8_readCommon 98 [some (.ref 717), some (.int l1), some (.int l2)] [] KW y Q) ∧ (∀ y l1 l2, EQx x y 721 → GV mX8_readCommon 71 [some (.ref 717), some (.int l1), some (.int l2)] [] KW y Q) ∧ (∀ y l1 l2, EQx x y 721 → GV mX8_readCommon 60 [some (.ref 717), some (.int l1), some (.int l2)] [] KW y Q) ∧ (∀ y l1, EQx x y 721 → GV mX8_readCommon 30 [some (.ref 717), some (.int l1), none] [] KW y Q) ∧ (∀ y l1, EQx x y 721 → GV mX8_readCommon 9 [some (.ref 717), some (.int l1), none] [] KW y Q) := by
  have hb : ∀ y, EQx x y 721 → Bd y := fun y f => by unfold Bd; rw [f.2 717 11 (by omega)]; exact h
  have hM : ∀ y, EQx x y 721 → MRf y 719 := fun y f => M.keep f.1
  have i7 : ∀ k : Nat, k < 7 → vp_in (nI k) 7 := fun k hk => vp_in_nI hk (by decide)
  have a214 : ∀ y l1 l2, EQx x y 721 → GV mX8_readCommon 214 [some (.ref 717), some (.int l1), some (.int l2)] [] KW y Q := fun y l1 l2 f => v_X8_readCommon_214 (k y f)
  have a188 : ∀ y l1 l2, EQx x y 721 → GV mX8_readCommon 188 [some (.ref 717), some (.int l1), some (.int l2)] [] KW y Q := fun y l1 l2 f => v_X8_readCommon_188 km (hM y f).2.2.2.2.1 km721 (hM y f).2.2.1 km2 ⟨i7 4 (by omega), iv0 0 518 rfl (by omega) (by decide), sp_X8_number_b (hb y f) ⟨i7 5 (by omega), a214 _ _ _ f.ui⟩⟩
  have a182 : ∀ y l1 l2, EQx x y 721 → GV mX8_readCommon 182 [some (.ref 717), some (.int l1), some (.int l2)] [] KW y Q := fun y l1 l2 f => v_X8_readCommon_182 km (sp_X8_passesByte_b (hb y f) (a188 _ _ _ f))
  have a163 : ∀ y l1 l2, EQx x y 721 → GV mX8_readCommon 163 [some (.ref 717), some (.int l1), some (.int l2)] [] KW y Q := fun y l1 l2 f => v_X8_readCommon_163 km (hM y f).2.2.2.2.1 (hM y f).2.2.1 km2 km721 ⟨iv0 0 518 rfl (by omega) (by decide), sp_X8_number_b (hb y f) ⟨i7 4 (by omega), a182 _ _ _ f.ui⟩⟩
  have a132 : ∀ y l1 l2, EQx x y 721 → GV mX8_readCommon 132 [some (.ref 717), some (.int l1), some (.int l2)] [] KW y Q := fun y l1 l2 f => v_X8_readCommon_132 km (hM y f).2.2.2.2.1 km721 (sp_X8_isWord_b (by omega) (hM y f).2.2.2.1 (hb y f) ⟨fun _ => ⟨i7 3 (by omega), fun _ => a163 _ _ _ f.ui, fun z => absurd z (hb _ f.ui)⟩, fun z => absurd rfl z⟩)
  have a98 : ∀ y l1 l2, EQx x y 721 → GV mX8_readCommon 98 [some (.ref 717), some (.int l1), some (.int l2)] [] KW y Q := fun y l1 l2 f => v_X8_readCommon_98 km ⟨fun _ => a132 _ _ _ f, fun z => absurd z (hb y f)⟩
  have a71 : ∀ y l1 l2, EQx x y 721 → GV mX8_readCommon 71 [some (.ref 717), some (.int l1), some (.int l2)] [] KW y Q := fun y l1 l2 f => v_X8_readCommon_71 km (hM y f).2.2.2.2.1 km721 ⟨i7 0 (by omega), i7 1 (by omega), sp_X8_number_b (hb _ f.ui.ui) ⟨i7 2 (by omega), a98 _ _ _ f.ui.ui.ui⟩⟩
  have a60 : ∀ y l1 l2, EQx x y 721 → GV mX8_readCommon 60 [some (.ref 717), some (.int l1), some (.int l2)] [] KW y Q := fun y l1 l2 f => v_X8_readCommon_60 km ⟨fun _ => a71 _ _ _ f, fun z => absurd z (hb y f)⟩
  have a46 : ∀ y l1 l2, EQx x y 721 → GV mX8_readCommon 46 [some (.ref 717), some (.int l1), some (.int l2)] [] KW y Q := fun y l1 l2 f => v_X8_readCommon_46 km ⟨fun _ => a60 _ _ _ f, fun _ => sp_X8_errs_b (hb y f) (a60 _ _ _ f)⟩
  have a30 : ∀ y l1, EQx x y 721 → GV mX8_readCommon 30 [some (.ref 717), some (.int l1), none] [] KW y Q := fun y l1 f => v_X8_readCommon_30 km ⟨fun _ => v_X8_readCommon_41 km (sp_X8_dayHere_b (hM y f).2.2.2.1 (hb y f) (a46 _ _ _ f)), fun z => absurd z (hb y f)⟩
  exact ⟨a214, a188, a182, a163, a132, a98, a71, a60, a30, fun y l1 f => v_X8_readCommon_9 km ⟨fun _ => a30 _ _ f, fun z => absurd z (hb y f)⟩⟩
def ROc (y : Cn) (b : TT) (n q : Nat) (T : TT) (C : Nat) : Prop := gi y 721 0 = fnd T C (vnm b n q) ∧ gi y 721 1 = wnp b n (nxt b n 1 q) ∧ gi y 721 2 = nI (tV b n (nxt b n 2 q)) ∧ gi y 721 3 = wyo b n (nxt b n 3 q) ∧ gi y 721 4 = nI (tV b n (nxt b n 4 q)) ∧ gi y 721 5 = nI (tV b n (nxt b n 6 q))
theorem RQ.u1 {x : Cn} {b : TT} {n p k : Nat} {v : Int32} {T : TT} {lim : Int32} {W C S A : Nat} (c : RQ x b n p T lim W C S A) : RQ (ui x 721 k v) b n p T lim W C S A := ⟨c.1.u (by omega), by rw [gi_ui, if_neg (by omega)]; exact c.2.1, by rw [gi_ui, if_neg (by omega)]; exact c.2.2.1, (funext fun i => by rw [gi_ui, if_neg (by omega)]).trans c.2.2.2.1, c.2.2.2.2⟩
theorem EQx.q1 {x y : Cn} (h : EQx x y 721) : QFr x y := ⟨h.1, fun a k hk => h.2 a k (by omega)⟩
theorem EQx.bd {x y : Cn} (h : EQx x y 721) (b : Bd x) : Bd y := by
  unfold Bd
  rw [h.2 717 11 (by omega)]
  exact b
theorem sp_X8_readCommon_b {x : Cn} {Q : Cn → Prop} {C : Nat} (h : Bd x) (M : MRf x 719) (h1 : gi x 719 1 = nI C) (hC : C ≤ 8) (k : ∀ y, EQx x y 721 → Q y) : mSV mX8_readCommon [.ref 717] KW x Q :=
  v_X8_readCommon_0 km (sp_X8_nameHere_b h (sp_X8_findName (v := 0) M km2 h1 hC ((lp_X8_readCommon_b h M k).2.2.2.2.2.2.2.2.2 x _ (EQx.rf x 721))))
theorem sp_X8_readCommon {x : Cn} {Q : Cn → Prop} {b : TT} {n q : Nat} {T : TT} {lim : Int32} {W C S A : Nat} (c : RQ x b n q T lim W C S A) (k1 : okP b n q T C → okN b n (nxt b n 4 q) W → ∀ y, QFr x y → RQ y b n (nxt b n 7 q) T lim W C S A → ROc y b n q T C → Q y) (k0 : ¬ (okP b n q T C ∧ okN b n (nxt b n 4 q) W) → ∀ y, QFr x y → Bd y → Q y) : mSV mX8_readCommon [.ref 717] KW x Q := by
  have M := c.m
  obtain ⟨h0, hw, h1, hc, h2, hs, h3, ha, h4⟩ := id c.2.2.2.2
  have i7 : ∀ k : Nat, k < 7 → vp_in (nI k) 7 := fun k hk => vp_in_nI hk (by decide)
  have kb : ¬ (okP b n q T C ∧ okN b n (nxt b n 4 q) W) → ∀ u, QFr x u → Bd u → ∀ y, EQx u y 721 → Q y := fun o u F h y f => k0 o y (F.tr f.q1) (f.bd h)
  refine v_X8_readCommon_0 km (sp_X8_nameHere c.1 (fun o1 => ?_) (fun o1 u f h => ?_))
  rotate_left
  · refine sp_X8_findName (v := 0) (M.tf f) km2 (C := C) (by rw [f.2 719 1 (by omega), c.2.2.2.1]; exact h1) hc ?_
    exact (lp_X8_readCommon_b h (M.tf f) (kb (fun o => o1 o.1.1) u f.q h)).2.2.2.2.2.2.2.2.2 u _ (EQx.rf u 721)
  refine sp_X8_findName M km2 (C := C) (by rw [c.2.2.2.1]; exact h1) hc ?_
  rw [c.2.2.2.1]
  refine v_X8_readCommon_9 km ⟨fun z => absurd c.1.2.2.2 z, fun _ => ⟨fun o2 => ?_, fun o2 => sp_X8_errs (by decide) (fun u f h => (lp_X8_readCommon_b h (M.tf f) (kb (fun o => o.1.2.1 o2) u f.q h)).2.2.2.2.2.2.2.2.1 u _ (EQx.rf u 721))⟩⟩
  refine v_X8_readCommon_30 km ⟨fun z => absurd c.1.2.2.2 z, fun _ => ad_r c.1 (fun y1 f1 g1 => ?_)⟩
  have c1 := c.t f1.t g1
  have F1 : QFr x y1 := f1.q
  refine v_X8_readCommon_41 km (sp_X8_dayHere g1 (fun d hd o3 => ?_) (fun o3 => ?_))
  rotate_left
  · refine v_X8_readCommon_46 km ⟨fun z => absurd rfl z, fun _ => sp_X8_errs (by decide) (fun u f h => (lp_X8_readCommon_b h (c1.m.tf f) (kb (fun o => by obtain ⟨d, hd, w⟩ := o.1.2.2.1; exact o3 d hd w) u (F1.tr f.q) h)).2.2.2.2.2.2.2.1 u _ _ (EQx.rf u 721))⟩
  have ed : nI d = wnp b n (nxt b n 1 q) := o3.2.symm
  have o3' : ∃ d, d < 7 ∧ iw b n (nxt b n 1 q) d := ⟨d, hd, o3⟩
  refine v_X8_readCommon_46 km ⟨fun _ => ?_, fun z => absurd (show (-1 : Int32) < 0 by decide) (by rw [← z]; exact nI_pos (by omega))⟩
  refine v_X8_readCommon_60 km ⟨fun z => absurd g1.2.2.2 z, fun _ => ad_r g1 (fun y2 f2 g2 => ?_)⟩
  have c2 := c1.t f2.t g2
  have F2 := F1.tr f2.q
  refine v_X8_readCommon_71 km c2.m.2.2.2.2.1 km721 ⟨i7 0 (by omega), i7 1 (by omega), ?_⟩
  have c2' := (c2.u1 (k := 0) (v := fnd T C (vnm b n q))).u1 (k := 1) (v := nI d)
  have F2' : QFr x (ui (ui y2 721 0 (fnd T C (vnm b n q))) 721 1 (nI d)) := (F2.u (by omega)).u (by omega)
  have r2 : gi (ui (ui y2 721 0 (fnd T C (vnm b n q))) 721 1 (nI d)) 721 0 = fnd T C (vnm b n q) ∧ gi (ui (ui y2 721 0 (fnd T C (vnm b n q))) 721 1 (nI d)) 721 1 = wnp b n (nxt b n 1 q) := ⟨by rw [gi_ui, if_neg (by omega), gi_ui, if_pos ⟨rfl, rfl⟩], by rw [gi_ui, if_pos ⟨rfl, rfl⟩]; exact ed⟩
  generalize ui (ui y2 721 0 (fnd T C (vnm b n q))) 721 1 (nI d) = u2 at c2' F2' r2
  refine sp_X8_number (lo := 0) (hi := 23) (by omega) (by omega) c2'.1 (fun o4 y3 f3 g3 => ⟨i7 2 (by omega), ?_⟩) (fun o4 u f h => ⟨i7 2 (by omega), (lp_X8_readCommon_b h (c2'.m.tf f) (kb (fun o => o4 o.1.2.2.2.1) u (F2'.tr f.q) h)).2.2.2.2.2.1 _ _ _ (EQx.rf u 721).ui⟩)
  have c3 := (c2'.t f3.t g3).u1 (k := 2) (v := nI (tV b n (nxt b n 2 q)))
  have F3 : QFr x (ui y3 721 2 (nI (tV b n (nxt b n 2 q)))) := (F2'.tr f3.q).u (by omega)
  have r3 : gi (ui y3 721 2 (nI (tV b n (nxt b n 2 q)))) 721 0 = fnd T C (vnm b n q) ∧ gi (ui y3 721 2 (nI (tV b n (nxt b n 2 q)))) 721 1 = wnp b n (nxt b n 1 q) ∧ gi (ui y3 721 2 (nI (tV b n (nxt b n 2 q)))) 721 2 = nI (tV b n (nxt b n 2 q)) := ⟨by rw [gi_ui, if_neg (by omega)]; exact (f3.2 721 0 (by omega)).trans r2.1, by rw [gi_ui, if_neg (by omega)]; exact (f3.2 721 1 (by omega)).trans r2.2, by rw [gi_ui, if_pos ⟨rfl, rfl⟩]⟩
  show GV mX8_readCommon 98 [some (.ref 717), some (.int (fnd T C (vnm b n q))), some (.int (nI d))] [] KW (ui y3 721 2 (nI (tV b n (nxt b n 2 q)))) Q
  generalize ui y3 721 2 (nI (tV b n (nxt b n 2 q))) = u3 at c3 F3 r3
  have c3 : RQ u3 b n (nxt b n 3 q) T lim W C S A := c3
  have go : (iw b n (nxt b n 3 q) 12 ∨ iw b n (nxt b n 3 q) 13) → GV mX8_readCommon 132 [some (.ref 717), some (.int (fnd T C (vnm b n q))), some (.int (nI d))] [] KW u3 Q := by
    intro o5
    have okp : okP b n q T C := ⟨o1, o2, o3', o4, o5⟩
    have go2 : ∀ v, v = wyo b n (nxt b n 3 q) → (¬ gi (ui u3 721 3 v) 717 11 = 0 → GV mX8_readCommon 163 [some (.ref 717), some (.int (fnd T C (vnm b n q))), some (.int (nI d))] [] KW (ui u3 721 3 v) Q) ∧ (gi (ui u3 721 3 v) 717 11 = 0 → mSV mX8_advance [.ref 717] KW (ui u3 721 3 v) (fun y => GV mX8_readCommon 163 [some (.ref 717), some (.int (fnd T C (vnm b n q))), some (.int (nI d))] [] KW y Q)) := by
      intro v hv
      have c4 := c3.u1 (k := 3) (v := v)
      have F4 : QFr x (ui u3 721 3 v) := F3.u (by omega)
      have r4 : gi (ui u3 721 3 v) 721 0 = fnd T C (vnm b n q) ∧ gi (ui u3 721 3 v) 721 1 = wnp b n (nxt b n 1 q) ∧ gi (ui u3 721 3 v) 721 2 = nI (tV b n (nxt b n 2 q)) ∧ gi (ui u3 721 3 v) 721 3 = wyo b n (nxt b n 3 q) := ⟨by rw [gi_ui, if_neg (by omega)]; exact r3.1, by rw [gi_ui, if_neg (by omega)]; exact r3.2.1, by rw [gi_ui, if_neg (by omega)]; exact r3.2.2, by rw [gi_ui, if_pos ⟨rfl, rfl⟩]; exact hv⟩
      generalize ui u3 721 3 v = u4 at c4 F4 r4
      refine ⟨fun z => absurd c4.1.2.2.2 z, fun _ => ad_r c4.1 (fun y5 f5 g5 => ?_)⟩
      have g5 : RG y5 b n (nxt b n 4 q) := g5
      have c5 := c4.t f5.t g5
      have F5 := F4.tr f5.q
      have e0 : gi y5 719 0 = nI W := by rw [c5.2.2.2.1]; exact h0
      refine v_X8_readCommon_163 km c5.m.2.2.2.2.1 c5.m.2.2.1 km2 km721 ⟨iv0 0 518 rfl (by omega) (by decide), ?_⟩
      rw [e0, show nI W - 1 = nI (W - 1) from pk_sub (b := 1) (by omega)]
      refine sp_X8_number (lo := 0) (by omega) (by omega) g5 (fun o6 y6 f6 g6 => ⟨i7 4 (by omega), ?_⟩) (fun o6 u f h => ⟨i7 4 (by omega), (lp_X8_readCommon_b h (c5.m.tf f) (kb (fun o => o6 ⟨o.2.1, Nat.zero_le _, ?_⟩) u (F5.tr f.q) h)).2.2.1 _ _ _ (EQx.rf u 721).ui⟩)
      rotate_left
      · have n1 := o.2.2.2.2.1
        have n2 := o.2.2.2.2.2
        omega
      have g6 : RG y6 b n (nxt b n 5 q) := g6
      have c6 := (c5.t f6.t g6).u1 (k := 4) (v := nI (tV b n (nxt b n 4 q)))
      have F6 : QFr x (ui y6 721 4 (nI (tV b n (nxt b n 4 q)))) := (F5.tr f6.q).u (by omega)
      have s6 : ∀ k, k < 4 → gi (ui y6 721 4 (nI (tV b n (nxt b n 4 q)))) 721 k = gi u4 721 k := fun k hk => by rw [gi_ui, if_neg (by omega), f6.2 721 k (by omega), f5.2 721 k (by omega)]
      have s64 : gi (ui y6 721 4 (nI (tV b n (nxt b n 4 q)))) 721 4 = nI (tV b n (nxt b n 4 q)) := by rw [gi_ui, if_pos ⟨rfl, rfl⟩]
      generalize ui y6 721 4 (nI (tV b n (nxt b n 4 q))) = u6 at c6 F6 s6 s64
      refine v_X8_readCommon_182 km (sp_X8_passesByte (Or.inr rfl) c6.1 (fun o7 y7 f7 g7 => ?_) (fun o7 u f h => (lp_X8_readCommon_b h (c6.m.tf f) (kb (fun o => o7 (by have w := o.2.2.1; rw [nxt_n] at w; exact w)) u (F6.tr f.q) h)).2.1 _ _ _ (EQx.rf u 721)))
      have g7 : RG y7 b n (nxt b n 6 q) := g7
      have c7 := c6.t f7.t g7
      have F7 := F6.tr f7.q
      have e70 : gi y7 719 0 = nI W := by rw [c7.2.2.2.1]; exact h0
      have e74 : gi y7 721 4 = nI (tV b n (nxt b n 4 q)) := (f7.2 721 4 (by omega)).trans s64
      have hf : tV b n (nxt b n 4 q) ≤ W - 1 := o6.2.2
      refine v_X8_readCommon_188 km c7.m.2.2.2.2.1 km721 c7.m.2.2.1 km2 ⟨i7 4 (by omega), iv0 0 518 rfl (by omega) (by decide), ?_⟩
      rw [e70, e74, show nI W - 1 = nI (W - 1) from pk_sub (b := 1) (by omega), show nI (tV b n (nxt b n 4 q)) + 4 = nI (tV b n (nxt b n 4 q) + 4) from nI_add _ 4]
      refine sp_X8_number (by omega) (by omega) g7 (fun o8 y8 f8 g8 => ⟨i7 5 (by omega), ?_⟩) (fun o8 u f h => ⟨i7 5 (by omega), (lp_X8_readCommon_b h (c7.m.tf f) (kb (fun o => o8 (by have w := o.2.2.2; rw [nxt_n] at w; exact w)) u (F7.tr f.q) h)).1 _ _ _ (EQx.rf u 721).ui⟩)
      have g8 : RG y8 b n (nxt b n 7 q) := g8
      have c8 := (c7.t f8.t g8).u1 (k := 5) (v := nI (tV b n (nxt b n 6 q)))
      have okn : okN b n (nxt b n 4 q) W := ⟨o6.1, by rw [nxt_n]; exact o7, by rw [nxt_n]; exact o8⟩
      have s8 : ∀ k, k < 5 → gi (ui y8 721 5 (nI (tV b n (nxt b n 6 q)))) 721 k = gi u6 721 k := fun k hk => by rw [gi_ui, if_neg (by omega), f8.2 721 k (by omega), f7.2 721 k (by omega)]
      refine v_X8_readCommon_214 (k1 okp okn _ ((F7.tr f8.q).u (by omega)) c8 ⟨?_, ?_, ?_, ?_, ?_, ?_⟩)
      · exact (s8 0 (by omega)).trans ((s6 0 (by omega)).trans r4.1)
      · exact (s8 1 (by omega)).trans ((s6 1 (by omega)).trans r4.2.1)
      · exact (s8 2 (by omega)).trans ((s6 2 (by omega)).trans r4.2.2.1)
      · exact (s8 3 (by omega)).trans ((s6 3 (by omega)).trans r4.2.2.2)
      · exact (s8 4 (by omega)).trans s64
      · rw [gi_ui, if_pos ⟨rfl, rfl⟩]
    refine v_X8_readCommon_132 km c3.m.2.2.2.2.1 km721 (sp_X8_isWord wj_13 c3.1 (fun o => ⟨fun z => absurd z (by decide), fun _ => ⟨i7 3 (by omega), go2 1 ?_⟩⟩) (fun o => ⟨fun _ => ⟨i7 3 (by omega), go2 0 ?_⟩, fun z => absurd rfl z⟩))
    · unfold wyo
      rw [if_pos (show wnp b n (nxt b n 3 q) = 13 from o.2)]
    · unfold wyo
      rw [if_neg (show ¬ wnp b n (nxt b n 3 q) = 13 from fun z => o ⟨(o5.elim (fun w => w.1) (fun w => w.1)), z⟩)]
  refine v_X8_readCommon_98 km ⟨fun z => absurd c3.1.2.2.2 z, fun _ => sp_X8_isWord wj_12 c3.1 (fun o => ⟨fun _ => go (Or.inl o), fun z => absurd z (by decide)⟩) (fun n12 => ⟨fun z => absurd rfl z, fun _ => sp_X8_isWord wj_13 c3.1 (fun o => ⟨fun _ => go (Or.inr o), fun z => absurd z (by decide)⟩) (fun n13 => ⟨fun z => absurd rfl z, fun _ => sp_X8_errs (by decide) (fun u f h => (lp_X8_readCommon_b h (c3.m.tf f) (kb (fun o => o.1.2.2.2.2.elim n12 n13) u (F3.tr f.q) h)).2.2.2.2.1 u _ _ (EQx.rf u 721))⟩)⟩)⟩

end

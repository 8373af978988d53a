section
theorem sp_X5_changeOver {x : Cn} {Q : Cn → Prop} {p p' : Nat} (h1 : kk KW p = some (5, 0)) (h2 : kk KW p' = some (5, 0)) (hne : p ≠ p') (k : ∀ z : Cn, z.2 = x.2 → (∀ b i, ¬ ((b = p ∨ b = p') ∧ 1 ≤ i ∧ i ≤ 3) → gi z b i = gi x b i) → (∀ i, 1 ≤ i → i ≤ 3 → gi z p i = gi x p' i ∧ gi z p' i = gi x p i) → Q z) : mSV mX5_changeOver [.ref p, .ref p'] KW x Q := by
  refine v_X5_changeOver_0 h1 h2 (fun r hr => ?_)
  have e2 : gi (ui x p 1 (gi x p' 1)) p' 2 = gi x p' 2 := by rw [gi_ui, if_neg (fun u => hne u.1.symm)]
  have e3 : r = gi x p' 3 := by
    rw [hr, gi_ui, if_neg (fun u => hne u.1.symm), gi_ui, if_neg (fun u => hne u.1.symm)]
  rw [e2, e3]
  refine k _ rfl (fun b i hb => ?_) (fun i i1 i3 => ?_)
  · simp only [gi_ui]
    rw [if_neg (fun u => hb ⟨Or.inr u.1, by omega⟩), if_neg (fun u => hb ⟨Or.inr u.1, by omega⟩), if_neg (fun u => hb ⟨Or.inr u.1, by omega⟩), if_neg (fun u => hb ⟨Or.inl u.1, by omega⟩), if_neg (fun u => hb ⟨Or.inl u.1, by omega⟩), if_neg (fun u => hb ⟨Or.inl u.1, by omega⟩)]
  · have : i = 1 ∨ i = 2 ∨ i = 3 := by omega
    have hne' : ¬ p' = p := fun u => hne u.symm
    rcases this with rfl | rfl | rfl <;> simp [gi_ui, hne, hne']
theorem AC.swp {x y z : Cn} {W C S A N n s t p p' : Nat} {T : TT} {H : Nat → TT} (a : AC x y W C S A N n T H) (hs : s < S) (ht : t < S) (hst : s ≠ t) (hp : gr y 5 s = some p) (hp' : gr y 5 t = some p') (h1 : z.2 = y.2) (h2 : ∀ b k, ¬ ((b = p ∨ b = p') ∧ 1 ≤ k ∧ k ≤ 3) → gi z b k = gi y b k) (h3 : ∀ k, 1 ≤ k → k ≤ 3 → gi z p k = gi y p' k ∧ gi z p' k = gi y p k) : AC x z W C S A N n (swT T s t) H := by
  have E := a.2.2.2.2
  have hS24 : S ≤ 24 := E.nums.2.2.2.2.2.2.1
  obtain ⟨j, hj, ej⟩ := E.2.1.2.2.2.2.2.1 s (by omega)
  have ep : p = 2 + 6 + j := Option.some.inj (hp.symm.trans ej)
  obtain ⟨j', hj', ej'⟩ := E.2.1.2.2.2.2.2.1 t (by omega)
  have ep' : p' = 2 + 6 + j' := Option.some.inj (hp'.symm.trans ej')
  exact a.up (fun b k g => h2 b k (by omega)) h1 (E.swp hs ht hst hp hp' h1 h2 h3)
end
set_option maxHeartbeats 2000000 in
theorem v_X7_whySwapFails_0 {K : Sh} {x : Cn} {Q : Int32 → Cn → Prop} {b0 : Nat} {l1 : Int32} {l2 : Int32} {b0_2 : Nat} {b0_2_7 : Nat} {n_b0_2_7 : Nat} (k_b0 : kk K b0 = some (7, 0)) (g_b0_2 : gr x b0 2 = some b0_2) (k_b0_2 : kk K b0_2 = some (4, 0)) (g_b0_2_7 : gr x b0_2 7 = some b0_2_7) (k_b0_2_7 : kk K b0_2_7 = some (23, n_b0_2_7)) (K0 : vp_in l1 n_b0_2_7 ∧ (∃ c_2 : Nat, gr x b0_2_7 ((l1 : Int32).toNatClampNeg) = some c_2 ∧ (vp_in l2 n_b0_2_7 ∧ (∃ c_5 : Nat, gr x b0_2_7 ((l2 : Int32).toNatClampNeg) = some c_5 ∧ (kk K c_2 = some (5, 0) ∧ ((¬ (gi x c_2 4) = 0 → (Q (-5) x)) ∧ ((gi x c_2 4) = 0 → (kk K c_5 = some (5, 0) ∧ (((gi x c_5 4) = 0 → ((¬ (gi x c_2 0) = (gi x c_5 0) → (mSV mX5_changeOver [.ref c_2, .ref c_5] K x (fun y_12 => gr y_12 b0 2 = some b0_2 ∧ (mSI mX4_hasPlace [.ref b0_2, .int (gi y_12 c_2 1), .int (gi y_12 c_2 2), .int (gi y_12 c_2 3), .int (f_held y_12 c_2), .int ((1 <<< (l1 &&& 31)) ||| (1 <<< (l2 &&& 31)))] K y_12 (fun r_15 y_14 => (r_15 = 0 → (mSV mX5_changeOver [.ref c_2, .ref c_5] K y_14 (fun y_17 => Q (-6) y_17))) ∧ (¬ r_15 = 0 → (gr y_14 b0 2 = some b0_2 ∧ (mSI mX4_hasPlace [.ref b0_2, .int (gi y_14 c_5 1), .int (gi y_14 c_5 2), .int (gi y_14 c_5 3), .int (f_held y_14 c_5), .int (1 <<< (l2 &&& 31))] K y_14 (fun r_20 y_19 => (r_20 = 0 → (mSV mX5_changeOver [.ref c_2, .ref c_5] K y_19 (fun y_22 => Q (-6) y_22))) ∧ (¬ r_20 = 0 → (mSV mX5_changeOver [.ref c_2, .ref c_5] K y_19 (fun y_23 => Q 0 y_23)))))))))))) ∧ ((gi x c_2 0) = (gi x c_5 0) → (Q (-6) x)))) ∧ (¬ (gi x c_5 4) = 0 → (Q (-5) x))))))))))) : mSI mX7_whySwapFails [.ref b0, .int l1, .int l2] K x Q := by
  refine s_I (by decide) (by simp [Value.category]) (Nat.le_of_ble_eq_true rfl) ?_
  show mGM mX7_whySwapFails 0 [some (.ref b0), some (.int l1), some (.int l2), none, none, none] [] (hp K x) (PI K Q)
  refine r_aload_n (pc := 0) dX7_whySwapFails_0 rfl ?_
  refine s_getR (pc := 1) dX7_whySwapFails_1 fl_X7_20 rfl k_b0 g_b0_2 ?_
  refine s_getR (pc := 4) dX7_whySwapFails_4 fl_X7_135 rfl k_b0_2 g_b0_2_7 ?_
  refine r_iload_n (pc := 7) dX7_whySwapFails_7 rfl ?_
  obtain ⟨i_1, K0⟩ := K0
  obtain ⟨c_2, g_3, K0⟩ := K0
  refine s_aald (pc := 8) dX7_whySwapFails_8 (by decide) rfl k_b0_2_7 i_1 g_3 ?_
  refine r_astore_n (pc := 9) dX7_whySwapFails_9 (by decide) ?_
  refine r_aload_n (pc := 10) (L := [some (.ref b0), some (.int l1), some (.int l2), some (.ref c_2), none, none]) dX7_whySwapFails_10 rfl ?_
  refine s_getR (pc := 11) dX7_whySwapFails_11 fl_X7_20 rfl k_b0 g_b0_2 ?_
  refine s_getR (pc := 14) dX7_whySwapFails_14 fl_X7_135 rfl k_b0_2 g_b0_2_7 ?_
  refine r_iload_n (pc := 17) dX7_whySwapFails_17 rfl ?_
  obtain ⟨i_4, K0⟩ := K0
  obtain ⟨c_5, g_6, K0⟩ := K0
  refine s_aald (pc := 18) dX7_whySwapFails_18 (by decide) rfl k_b0_2_7 i_4 g_6 ?_
  refine r_astore (pc := 19) dX7_whySwapFails_19 (by decide) ?_
  refine r_aload_n (pc := 21) (L := [some (.ref b0), some (.int l1), some (.int l2), some (.ref c_2), some (.ref c_5), none]) dX7_whySwapFails_21 rfl ?_
  obtain ⟨e_7, K0⟩ := K0
  refine s_getI (pc := 22) dX7_whySwapFails_22 fl_X7_153 rfl e_7 ?_
  refine r_if_ne (pc := 25) (tgt := 36) dX7_whySwapFails_25 (by decide) (fun q => ?_) (fun q => ?_)
  · have K0 := K0.1 q
    refine r_bipush (pc := 36) (v := (-5)) dX7_whySwapFails_36 (by decide) ?_
    exact s_iret rfl dX7_whySwapFails_38 K0
  · have K0 := K0.2 q
    refine r_aload (pc := 28) dX7_whySwapFails_28 rfl ?_
    obtain ⟨e_9, K0⟩ := K0
    refine s_getI (pc := 30) dX7_whySwapFails_30 fl_X7_153 rfl e_9 ?_
    refine r_if_eq (pc := 33) (tgt := 39) dX7_whySwapFails_33 (by decide) (fun q => ?_) (fun q => ?_)
    · have K0 := K0.1 q
      refine r_aload_n (pc := 39) dX7_whySwapFails_39 rfl ?_
      refine s_getI (pc := 40) dX7_whySwapFails_40 fl_X7_139 rfl e_7 ?_
      refine r_aload (pc := 43) dX7_whySwapFails_43 rfl ?_
      refine s_getI (pc := 45) dX7_whySwapFails_45 fl_X7_139 rfl e_9 ?_
      refine r_icmp_ne (pc := 48) (tgt := 54) dX7_whySwapFails_48 (by decide) (fun q => ?_) (fun q => ?_)
      · have K0 := K0.1 q
        refine r_aload_n (pc := 54) dX7_whySwapFails_54 rfl ?_
        refine r_aload (pc := 55) dX7_whySwapFails_55 rfl ?_
        refine s_VV (pc := 57) mX5_changeOver (ci := 5) (a := c_2) (As := [.ref c_5]) dX7_whySwapFails_57 lk_X7_354 in_X5_changeOver mo_X5_changeOver ⟨by decide, rfl⟩ ⟨by decide, by decide⟩ (Nat.le_of_ble_eq_true rfl) e_7 (mSV_mono K0 (fun y_12 K0 => ?_))
        refine r_aload_n (pc := 60) dX7_whySwapFails_60 rfl ?_
        obtain ⟨g_13, K0⟩ := K0
        refine s_getR (pc := 61) dX7_whySwapFails_61 fl_X7_20 rfl k_b0 g_13 ?_
        refine r_aload_n (pc := 64) dX7_whySwapFails_64 rfl ?_
        refine s_getI (pc := 65) dX7_whySwapFails_65 fl_X7_144 rfl e_7 ?_
        refine r_aload_n (pc := 68) dX7_whySwapFails_68 rfl ?_
        refine s_getI (pc := 69) dX7_whySwapFails_69 fl_X7_147 rfl e_7 ?_
        refine r_aload_n (pc := 72) dX7_whySwapFails_72 rfl ?_
        refine s_getI (pc := 73) dX7_whySwapFails_73 fl_X7_150 rfl e_7 ?_
        refine r_aload_n (pc := 76) dX7_whySwapFails_76 rfl ?_
        refine s_VI (pc := 77) mX5_heldBits (ci := 5) (a := c_2) (As := []) dX7_whySwapFails_77 lk_X7_272 in_X5_heldBits mo_X5_heldBits ⟨by decide, rfl⟩ ⟨by decide, by decide⟩ (Nat.le_of_ble_eq_true rfl) e_7 (sp_X5_heldBits e_7 ?_)
        refine r_iconst (pc := 80) (v := 1) dX7_whySwapFails_80 (by decide) ?_
        refine r_iload_n (pc := 81) dX7_whySwapFails_81 rfl ?_
        refine r_ishl (pc := 82) dX7_whySwapFails_82 ?_
        refine r_iconst (pc := 83) (v := 1) dX7_whySwapFails_83 (by decide) ?_
        refine r_iload_n (pc := 84) dX7_whySwapFails_84 rfl ?_
        refine r_ishl (pc := 85) dX7_whySwapFails_85 ?_
        refine r_ior (pc := 86) dX7_whySwapFails_86 ?_
        refine s_VI (pc := 87) mX4_hasPlace (ci := 4) (a := b0_2) (As := [.int (gi y_12 c_2 1), .int (gi y_12 c_2 2), .int (gi y_12 c_2 3), .int (f_held y_12 c_2), .int ((1 <<< (l1 &&& 31)) ||| (1 <<< (l2 &&& 31)))]) dX7_whySwapFails_87 lk_X7_295 in_X4_hasPlace mo_X4_hasPlace ⟨by decide, rfl⟩ ⟨by decide, by decide⟩ (Nat.le_of_ble_eq_true rfl) k_b0_2 (mSI_mono K0 (fun r_15 y_14 K0 => ?_))
        refine r_if_eq (pc := 90) (tgt := 130) dX7_whySwapFails_90 (by decide) (fun q => ?_) (fun q => ?_)
        · have K0 := K0.1 q
          refine r_iconst (pc := 130) (v := 0) dX7_whySwapFails_130 (by decide) ?_
          refine r_istore (pc := 131) dX7_whySwapFails_131 (by decide) ?_
          refine r_aload_n (pc := 133) (L := [some (.ref b0), some (.int l1), some (.int l2), some (.ref c_2), some (.ref c_5), some (.int 0)]) dX7_whySwapFails_133 rfl ?_
          refine r_aload (pc := 134) dX7_whySwapFails_134 rfl ?_
          refine s_VV (pc := 136) mX5_changeOver (ci := 5) (a := c_2) (As := [.ref c_5]) dX7_whySwapFails_136 lk_X7_354 in_X5_changeOver mo_X5_changeOver ⟨by decide, rfl⟩ ⟨by decide, by decide⟩ (Nat.le_of_ble_eq_true rfl) e_7 (mSV_mono K0 (fun y_17 K0 => ?_))
          refine r_iload (pc := 139) dX7_whySwapFails_139 rfl ?_
          refine r_if_eq (pc := 141) (tgt := 148) dX7_whySwapFails_141 (by decide) (fun _ => ?_) (fun q => by first | exact absurd q (by decide) | exact absurd (by decide) q)
          refine r_bipush (pc := 148) (v := (-6)) dX7_whySwapFails_148 (by decide) ?_
          exact s_iret rfl dX7_whySwapFails_150 K0
        · have K0 := K0.2 q
          refine r_aload_n (pc := 93) dX7_whySwapFails_93 rfl ?_
          obtain ⟨g_18, K0⟩ := K0
          refine s_getR (pc := 94) dX7_whySwapFails_94 fl_X7_20 rfl k_b0 g_18 ?_
          refine r_aload (pc := 97) dX7_whySwapFails_97 rfl ?_
          refine s_getI (pc := 99) dX7_whySwapFails_99 fl_X7_144 rfl e_9 ?_
          refine r_aload (pc := 102) dX7_whySwapFails_102 rfl ?_
          refine s_getI (pc := 104) dX7_whySwapFails_104 fl_X7_147 rfl e_9 ?_
          refine r_aload (pc := 107) dX7_whySwapFails_107 rfl ?_
          refine s_getI (pc := 109) dX7_whySwapFails_109 fl_X7_150 rfl e_9 ?_
          refine r_aload (pc := 112) dX7_whySwapFails_112 rfl ?_
          refine s_VI (pc := 114) mX5_heldBits (ci := 5) (a := c_5) (As := []) dX7_whySwapFails_114 lk_X7_272 in_X5_heldBits mo_X5_heldBits ⟨by decide, rfl⟩ ⟨by decide, by decide⟩ (Nat.le_of_ble_eq_true rfl) e_9 (sp_X5_heldBits e_9 ?_)
          refine r_iconst (pc := 117) (v := 1) dX7_whySwapFails_117 (by decide) ?_
          refine r_iload_n (pc := 118) dX7_whySwapFails_118 rfl ?_
          refine r_ishl (pc := 119) dX7_whySwapFails_119 ?_
          refine s_VI (pc := 120) mX4_hasPlace (ci := 4) (a := b0_2) (As := [.int (gi y_14 c_5 1), .int (gi y_14 c_5 2), .int (gi y_14 c_5 3), .int (f_held y_14 c_5), .int (1 <<< (l2 &&& 31))]) dX7_whySwapFails_120 lk_X7_295 in_X4_hasPlace mo_X4_hasPlace ⟨by decide, rfl⟩ ⟨by decide, by decide⟩ (Nat.le_of_ble_eq_true rfl) k_b0_2 (mSI_mono K0 (fun r_20 y_19 K0 => ?_))
          refine r_if_eq (pc := 123) (tgt := 130) dX7_whySwapFails_123 (by decide) (fun q => ?_) (fun q => ?_)
          · have K0 := K0.1 q
            refine r_iconst (pc := 130) (v := 0) dX7_whySwapFails_130 (by decide) ?_
            refine r_istore (pc := 131) dX7_whySwapFails_131 (by decide) ?_
            refine r_aload_n (pc := 133) (L := [some (.ref b0), some (.int l1), some (.int l2), some (.ref c_2), some (.ref c_5), some (.int 0)]) dX7_whySwapFails_133 rfl ?_
            refine r_aload (pc := 134) dX7_whySwapFails_134 rfl ?_
            refine s_VV (pc := 136) mX5_changeOver (ci := 5) (a := c_2) (As := [.ref c_5]) dX7_whySwapFails_136 lk_X7_354 in_X5_changeOver mo_X5_changeOver ⟨by decide, rfl⟩ ⟨by decide, by decide⟩ (Nat.le_of_ble_eq_true rfl) e_7 (mSV_mono K0 (fun y_22 K0 => ?_))
            refine r_iload (pc := 139) dX7_whySwapFails_139 rfl ?_
            refine r_if_eq (pc := 141) (tgt := 148) dX7_whySwapFails_141 (by decide) (fun _ => ?_) (fun q => by first | exact absurd q (by decide) | exact absurd (by decide) q)
            refine r_bipush (pc := 148) (v := (-6)) dX7_whySwapFails_148 (by decide) ?_
            exact s_iret rfl dX7_whySwapFails_150 K0
          · have K0 := K0.2 q
            refine r_iconst (pc := 126) (v := 1) dX7_whySwapFails_126 (by decide) ?_
            refine r_goto (pc := 127) (tgt := 131) dX7_whySwapFails_127 (by decide) ?_
            refine r_istore (pc := 131) dX7_whySwapFails_131 (by decide) ?_
            refine r_aload_n (pc := 133) (L := [some (.ref b0), some (.int l1), some (.int l2), some (.ref c_2), some (.ref c_5), some (.int 1)]) dX7_whySwapFails_133 rfl ?_
            refine r_aload (pc := 134) dX7_whySwapFails_134 rfl ?_
            refine s_VV (pc := 136) mX5_changeOver (ci := 5) (a := c_2) (As := [.ref c_5]) dX7_whySwapFails_136 lk_X7_354 in_X5_changeOver mo_X5_changeOver ⟨by decide, rfl⟩ ⟨by decide, by decide⟩ (Nat.le_of_ble_eq_true rfl) e_7 (mSV_mono K0 (fun y_23 K0 => ?_))
            refine r_iload (pc := 139) dX7_whySwapFails_139 rfl ?_
            refine r_if_eq (pc := 141) (tgt := 148) dX7_whySwapFails_141 (by decide) (fun q => by first | exact absurd q (by decide) | exact absurd (by decide) q) (fun _ => ?_)
            refine r_iconst (pc := 144) (v := 0) dX7_whySwapFails_144 (by decide) ?_
            refine r_goto (pc := 145) (tgt := 150) dX7_whySwapFails_145 (by decide) ?_
            exact s_iret rfl dX7_whySwapFails_150 K0
      · have K0 := K0.2 q
        refine r_bipush (pc := 51) (v := (-6)) dX7_whySwapFails_51 (by decide) ?_
        exact s_iret rfl dX7_whySwapFails_53 K0
    · have K0 := K0.2 q
      refine r_bipush (pc := 36) (v := (-5)) dX7_whySwapFails_36 (by decide) ?_
      exact s_iret rfl dX7_whySwapFails_38 K0
section
theorem sp_X7_whySwapFails {x y : Cn} {Q : Int32 → Cn → Prop} {W C S A N n s t : Nat} {T : TT} {H : Nat → TT} (a : AC x y W C S A N n T H) (hs : s < S) (ht : t < S) (k1 : ¬ (so T s 4 = 0 ∧ so T t 4 = 0) → Q (-5) y) (k2 : so T s 4 = 0 ∧ so T t 4 = 0 → ¬ csw T S N s t → ∀ z, AC x z W C S A N n T H → Q (-6) z) (k3 : so T s 4 = 0 ∧ so T t 4 = 0 → csw T S N s t → ∀ z, AC x z W C S A N n T H → Q 0 z) : mSI mX7_whySwapFails [.ref 0, .int (nI s), .int (nI t)] KW y Q := by
  have E := a.2.2.2.2
  have hS : S ≤ 24 := E.nums.2.2.2.2.2.2.1
  obtain ⟨p, p1, p2, p3, p4, p5, p6⟩ := E.ser hs
  obtain ⟨p', q1, q2, q3, q4, q5, q6⟩ := E.ser ht
  refine v_X7_whySwapFails_0 k0 a.2.1.2.1 (ks0 E.1) E.2.1.2.2.1 (ks3 E.1) ?_
  rw [nI_clamp (show s < 2 ^ 31 by omega), nI_clamp (show t < 2 ^ 31 by omega)]
  refine ⟨vp_in_nI (by omega) (by decide), p, p1, vp_in_nI (by omega) (by decide), p', q1, p2, ?_⟩
  rw [p3.1 4 (by decide) (by decide), q3.1 4 (by decide) (by decide), p3.1 0 (by decide) (by decide), q3.1 0 (by decide) (by decide)]
  refine ⟨fun z => k1 (fun u => z u.1), fun z1 => ⟨q2, fun z2 => ⟨fun z3 => ?_, fun z3 => k2 ⟨z1, z2⟩ (fun u => u.1 z3) y a⟩, fun z2 => k1 (fun u => z2 u.2)⟩⟩
  have hst : s ≠ t := fun u => z3 (by rw [u])
  have hne : p ≠ p' := fun u => hst (E.2.1.2.2.2.2.2.2.1 s t (by omega) (by omega) (by rw [p1, q1, u]))
  have back : ∀ (v : Cn) (G : Cn → Prop), AC x v W C S A N n (swT T s t) H → gr v 5 s = some p → gr v 5 t = some p' → (∀ w, AC x w W C S A N n T H → G w) → mSV mX5_changeOver [.ref p, .ref p'] KW v G := by
    intro v G av g1 g2 k
    refine sp_X5_changeOver p2 q2 hne (fun w w1 w2 w3 => k w ?_)
    have := av.swp hs ht hst g1 g2 w1 w2 w3
    rw [swT_swT hst] at this
    exact this
  refine sp_X5_changeOver p2 q2 hne (fun v v1 v2 v3 => ?_)
  have av := a.swp hs ht hst p1 q1 v1 v2 v3
  have hgv : ∀ b k, gr v b k = gr y b k := fun b k => by unfold gr; rw [v1]
  have Ev := av.2.2.2.2
  obtain ⟨p0, pp1, pp2, pp3, pp4, pp5, pp6⟩ := Ev.ser hs
  have e0 : p0 = p := Option.some.inj (pp1.symm.trans ((hgv 5 s).trans p1))
  subst e0
  have hd := pp6.dh
  refine ⟨av.2.1.2.1, ?_⟩
  rw [pp3.1 1 (by decide) (by decide), pp3.1 2 (by decide) (by decide), pp3.1 3 (by decide) (by decide), pp4, hd.2.2.2]
  refine sp_X4_hasPlace Ev hd.2.2.1 (fun w f => ?_)
  have aw := av.e7 f
  have hgw : ∀ b k, gr w b k = gr y b k := fun b k => by unfold gr; rw [f.1, v1]
  refine ⟨fun z => back w _ aw ((hgw 5 s).trans p1) ((hgw 5 t).trans q1) (k2 ⟨z1, z2⟩ (fun u => bP_z.mp z u.2.1)), fun z4 => ?_⟩
  have Ew := aw.2.2.2.2
  obtain ⟨p0', qq1, qq2, qq3, qq4, qq5, qq6⟩ := Ew.ser ht
  have e0' : p0' = p' := Option.some.inj (qq1.symm.trans ((hgw 5 t).trans q1))
  subst e0'
  have hd' := qq6.dh
  refine ⟨aw.2.1.2.1, ?_⟩
  rw [qq3.1 1 (by decide) (by decide), qq3.1 2 (by decide) (by decide), qq3.1 3 (by decide) (by decide), qq4, hd'.2.2.2]
  refine sp_X4_hasPlace Ew hd'.2.2.1 (fun w2 f2 => ?_)
  have aw2 := aw.e7 f2
  have hgw2 : ∀ b k, gr w2 b k = gr y b k := fun b k => by unfold gr; rw [f2.1, f.1, v1]
  refine ⟨fun z => back w2 _ aw2 ((hgw2 5 s).trans p1) ((hgw2 5 t).trans q1) (k2 ⟨z1, z2⟩ (fun u => bP_z.mp z u.2.2)), fun z5 => back w2 _ aw2 ((hgw2 5 s).trans p1) ((hgw2 5 t).trans q1) (k3 ⟨z1, z2⟩ ⟨z3, ?_, ?_⟩)⟩
  · exact Classical.byContradiction (fun g => z4 (bP_z.mpr g))
  · exact Classical.byContradiction (fun g => z5 (bP_z.mpr g))
end

set_option maxHeartbeats 2000000 in
theorem v_X5_placeAt_0 {K : Sh} {x : Cn} {Q : Cn → Prop} {b0 : Nat} {l1 : Int32} {l2 : Int32} {l3 : Int32} {l4 : Int32}  (k_b0 : kk K b0 = some (5, 0)) (K0 : Q (ui (ui (ui (ui x b0 0 l1) b0 1 l2) b0 2 l3) b0 3 l4)) : mSV mX5_placeAt [.ref b0, .int l1, .int l2, .int l3, .int l4] K x Q := by
  refine s_V (by decide) (by simp [Value.category]) (Nat.le_of_ble_eq_true rfl) ?_
  show mGM mX5_placeAt 0 [some (.ref b0), some (.int l1), some (.int l2), some (.int l3), some (.int l4)] [] (hp K x) (PV K Q)
  refine r_aload_n (pc := 0) dX5_placeAt_0 rfl ?_
  refine r_iload_n (pc := 1) dX5_placeAt_1 rfl ?_
  refine s_putI (pc := 2) dX5_placeAt_2 fl_X5_9 rfl rfl k_b0 ?_
  refine r_aload_n (pc := 5) dX5_placeAt_5 rfl ?_
  refine r_iload_n (pc := 6) dX5_placeAt_6 rfl ?_
  refine s_putI (pc := 7) dX5_placeAt_7 fl_X5_15 rfl rfl k_b0 ?_
  refine r_aload_n (pc := 10) dX5_placeAt_10 rfl ?_
  refine r_iload_n (pc := 11) dX5_placeAt_11 rfl ?_
  refine s_putI (pc := 12) dX5_placeAt_12 fl_X5_18 rfl rfl k_b0 ?_
  refine r_aload_n (pc := 15) dX5_placeAt_15 rfl ?_
  refine r_iload (pc := 16) dX5_placeAt_16 rfl ?_
  refine s_putI (pc := 18) dX5_placeAt_18 fl_X5_21 rfl rfl k_b0 ?_
  exact s_ret rfl dX5_placeAt_21 K0
set_option maxHeartbeats 2000000 in
theorem v_X5_comeWith_0 {K : Sh} {x : Cn} {Q : Cn → Prop} {b0 : Nat} {l1 : Int32} {l2 : Int32}  (k_b0 : kk K b0 = some (5, 0)) (K0 : mSV mX5_openIn [.ref b0, .int (f_sb l1 l2)] K (ui (ui x b0 5 l1) b0 6 l2) (fun y_1 => Q y_1)) : mSV mX5_comeWith [.ref b0, .int l1, .int l2] K x Q := by
  refine s_V (by decide) (by simp [Value.category]) (Nat.le_of_ble_eq_true rfl) ?_
  show mGM mX5_comeWith 0 [some (.ref b0), some (.int l1), some (.int l2)] [] (hp K x) (PV K Q)
  refine r_aload_n (pc := 0) dX5_comeWith_0 rfl ?_
  refine r_iload_n (pc := 1) dX5_comeWith_1 rfl ?_
  refine s_putI (pc := 2) dX5_comeWith_2 fl_X5_28 rfl rfl k_b0 ?_
  refine r_aload_n (pc := 5) dX5_comeWith_5 rfl ?_
  refine r_iload_n (pc := 6) dX5_comeWith_6 rfl ?_
  refine s_putI (pc := 7) dX5_comeWith_7 fl_X5_31 rfl rfl k_b0 ?_
  refine r_aload_n (pc := 10) dX5_comeWith_10 rfl ?_
  refine r_iload_n (pc := 11) dX5_comeWith_11 rfl ?_
  refine r_iload_n (pc := 12) dX5_comeWith_12 rfl ?_
  refine s_SNI (pc := 13) mX7_spanBits (As := [.int l1, .int l2]) dX5_comeWith_13 nl_X5_49 st_X7_spanBits mo_X7_spanBits ⟨by decide, by decide⟩ (Nat.le_of_ble_eq_true rfl) (sp_X7_spanBits  ?_)
  refine s_VV (pc := 16) mX5_openIn (ci := 5) (a := b0) (As := [.int (f_sb l1 l2)]) dX5_comeWith_16 lk_X5_53 in_X5_openIn mo_X5_openIn ⟨by decide, rfl⟩ ⟨by decide, by decide⟩ (Nat.le_of_ble_eq_true rfl) k_b0 (mSV_mono K0 (fun y_1 K0 => ?_))
  exact s_ret rfl dX5_comeWith_19 K0
set_option maxHeartbeats 2000000 in
theorem v_X4_grant_0 {K : Sh} {x : Cn} {Q : Cn → Prop} {b0 : Nat} {b1 : Nat} {l2 : Int32}  (k_b0 : kk K b0 = some (4, 0)) (k_b1 : kk K b1 = some (0, 0)) (K0 : mSR mX4_addSeries [.ref b0] K x (fun r_2 y_1 => kk K r_2 = some (5, 0) ∧ (mSV mX5_placeAt [.ref r_2, .int (gi y_1 b1 0), .int (gi y_1 b1 1), .int l2, .int (gi y_1 b1 3)] K y_1 (fun y_4 => mSV mX5_comeWith [.ref r_2, .int (if (gi y_4 b1 4) < (gi y_4 b0 1) then (gi y_4 b0 1) else (gi y_4 b1 4)), .int (gi y_4 b1 5)] K y_4 (fun y_5 => Q (ui y_5 r_2 4 1)))))) : mSV mX4_grant [.ref b0, .ref b1, .int l2] K x Q := by
  refine s_V (by decide) (by simp [Value.category]) (Nat.le_of_ble_eq_true rfl) ?_
  show mGM mX4_grant 0 [some (.ref b0), some (.ref b1), some (.int l2), none] [] (hp K x) (PV K Q)
  refine r_aload_n (pc := 0) dX4_grant_0 rfl ?_
  refine s_VR (pc := 1) mX4_addSeries (ci := 4) (a := b0) (As := []) dX4_grant_1 lk_X4_116 in_X4_addSeries mo_X4_addSeries ⟨by decide, rfl⟩ ⟨by decide, by decide⟩ (Nat.le_of_ble_eq_true rfl) k_b0 (mSR_mono K0 (fun r_2 y_1 K0 => ?_))
  refine r_astore_n (pc := 4) dX4_grant_4 (by decide) ?_
  refine r_aload_n (pc := 5) (L := [some (.ref b0), some (.ref b1), some (.int l2), some (.ref r_2)]) dX4_grant_5 rfl ?_
  refine r_aload_n (pc := 6) dX4_grant_6 rfl ?_
  refine s_getI (pc := 7) dX4_grant_7 fl_X4_120 rfl k_b1 ?_
  refine r_aload_n (pc := 10) dX4_grant_10 rfl ?_
  refine s_getI (pc := 11) dX4_grant_11 fl_X4_100 rfl k_b1 ?_
  refine r_iload_n (pc := 14) dX4_grant_14 rfl ?_
  refine r_aload_n (pc := 15) dX4_grant_15 rfl ?_
  refine s_getI (pc := 16) dX4_grant_16 fl_X4_101 rfl k_b1 ?_
  obtain ⟨e_3, K0⟩ := K0
  refine s_VV (pc := 19) mX5_placeAt (ci := 5) (a := r_2) (As := [.int (gi y_1 b1 0), .int (gi y_1 b1 1), .int l2, .int (gi y_1 b1 3)]) dX4_grant_19 lk_X4_123 in_X5_placeAt mo_X5_placeAt ⟨by decide, rfl⟩ ⟨by decide, by decide⟩ (Nat.le_of_ble_eq_true rfl) e_3 (mSV_mono K0 (fun y_4 K0 => ?_))
  refine r_aload_n (pc := 22) dX4_grant_22 rfl ?_
  refine r_aload_n (pc := 23) dX4_grant_23 rfl ?_
  refine s_getI (pc := 24) dX4_grant_24 fl_X4_127 rfl k_b1 ?_
  refine r_aload_n (pc := 27) dX4_grant_27 rfl ?_
  refine s_getI (pc := 28) dX4_grant_28 fl_X4_15 rfl k_b0 ?_
  refine r_mmax (pc := 31) dX4_grant_31 lk_X4_130 mw_max ⟨by decide, by decide⟩ (Nat.le_of_ble_eq_true rfl) ?_
  refine r_aload_n (pc := 34) dX4_grant_34 rfl ?_
  refine s_getI (pc := 35) dX4_grant_35 fl_X4_109 rfl k_b1 ?_
  refine s_VV (pc := 38) mX5_comeWith (ci := 5) (a := r_2) (As := [.int (if (gi y_4 b1 4) < (gi y_4 b0 1) then (gi y_4 b0 1) else (gi y_4 b1 4)), .int (gi y_4 b1 5)]) dX4_grant_38 lk_X4_133 in_X5_comeWith mo_X5_comeWith ⟨by decide, rfl⟩ ⟨by decide, by decide⟩ (Nat.le_of_ble_eq_true rfl) e_3 (mSV_mono K0 (fun y_5 K0 => ?_))
  refine r_aload_n (pc := 41) dX4_grant_41 rfl ?_
  refine r_iconst (pc := 42) (v := 1) dX4_grant_42 (by decide) ?_
  refine s_putZ (pc := 43) dX4_grant_43 fl_X4_137 rfl rfl e_3 (by decide) ?_
  exact s_ret rfl dX4_grant_46 K0
section
theorem sp_X4_grant {x : Cn} {Q : Cn → Prop} {q : Nat} {T : TT} {W C S A N a p h : Nat} (E : SEB x q T W C S A N) (hS : S < 24) (ha : a < A) (hg : gr x (q + 4) a = some p) (hh : h < 24) (hl : ¬ (ao T a 5).toNatClampNeg < N) (k : ∀ z, Frq x z q → SEB z q (grT T S a (nI h)) W C (S + 1) A N → Q z) : mSV mX4_grant [.ref q, .ref p, .int (nI h)] KW x Q := by
  have hn := E.nums
  have hA : A ≤ 24 := hn.2.2.2.2.2.2.2.1
  have hW : W ≤ 30 := hn.2.2.2.2.1
  obtain ⟨p', e1, e2, e3, w⟩ := E.ask ha
  have epp : p' = p := Option.some.inj (e1.symm.trans hg)
  subst epp
  obtain ⟨j2, hj2, ej2⟩ := E.2.1.2.2.2.2.2.2.2.1 a (by omega)
  have ep2 : p' = q + 30 + j2 := Option.some.inj (e1.symm.trans ej2)
  obtain ⟨j, hj, ej⟩ := E.2.1.2.2.2.2.2.1 S hS
  obtain ⟨-, -, -, -, ⟨f, l, f1, f2, f3, f4⟩, -⟩ := id w
  have hl' := hl
  rw [f4, nI_clamp (by omega)] at hl'
  refine v_X4_grant_0 (ks0 E.1) e2 (v_X4_addSeries_0 (ks0 E.1) E.2.1.2.2.1 (ks3 E.1) ?_)
  have mi : (if (23 : Int32) < nI S then 23 else nI S) = nI S := if_neg (fun g => absurd ((nI_ltI (a := 23) (b := S) (by decide) (by omega)).mp g) (by omega))
  rw [hn.2.2.1, mi, nI_clamp (by omega), nI_1]
  refine ⟨vp_in_nI (by omega) (by decide), q + 6 + j, ej, ks6 E.1 hj, v_X5_placeAt_0 (ks6 E.1 hj) (v_X5_comeWith_0 (ks6 E.1 hj) (sp_X5_openIn_at (ks6 E.1 hj) (fun v f0 g1 g2 g3 => ?_)))⟩
  have o1 : ∀ i, gi (ui x q 3 (nI (S + 1))) p' i = gi x p' i := fun i => by rw [gi_ui, if_neg (by omega)]
  rw [o1 0, o1 1, o1 3, e3 0 (by decide), e3 1 (by decide), e3 3 (by decide)] at f0 g1 g2
  have o2 : ∀ i b, b ≠ q + 6 + j → gi (ui (ui (ui (ui (ui x q 3 (nI (S + 1))) (q + 6 + j) 0 (ao T a 0)) (q + 6 + j) 1 (ao T a 1)) (q + 6 + j) 2 (nI h)) (q + 6 + j) 3 (ao T a 3)) b i = gi (ui x q 3 (nI (S + 1))) b i := fun i b hb => by simp only [gi_ui, hb, false_and, if_false]
  rw [o2 4 p' (by omega), o2 5 p' (by omega), o2 1 q (by omega), o1, o1, e3 4 (by decide), e3 5 (by decide), show gi (ui x q 3 (nI (S + 1))) q 1 = nI N by rw [gi_ui, if_neg (by omega)]; exact hn.2.1, f3, f4, mx_nI (by omega) (by omega)] at f0 g1 g2
  refine k _ ⟨f0.1, fun b i hb => ?_⟩ (E.addS (p := q + 6 + j) hS ej f0.1 (fun b i b1 b2 b3 b4 b5 => ?_) ?_ (fun i hi => ?_) (fun i i8 i12 => ?_) (Was.gr E.2.2.2 ha hh hl))
  · rw [gi_ui, if_neg (by omega), f0.2 b i (by omega)]
    simp only [gi_ui]
    rw [if_neg (by omega), if_neg (by omega), if_neg (by omega), if_neg (by omega), if_neg (by omega), if_neg (by omega), if_neg (by omega)]
  · rw [gi_ui, if_neg (fun u => b3 u.1), f0.2 b i b3]
    simp only [gi_ui]
    rw [if_neg (fun u => b3 u.1), if_neg (fun u => b3 u.1), if_neg (fun u => b3 u.1), if_neg (fun u => b3 u.1), if_neg (fun u => b3 u.1), if_neg (fun u => b3 u.1), if_neg b4]
  · rw [gi_ui, if_neg (by omega), f0.2 q 3 (by omega)]
    simp only [gi_ui]
    rw [if_neg (by omega), if_neg (by omega), if_neg (by omega), if_neg (by omega), if_neg (by omega), if_neg (by omega), if_pos (by simp)]
  · have h4 : T 4 = nI N := E.2.2.2.2.2.2.2.2.2.2.2.2.1
    have h0 : T 0 = nI W := E.2.2.2.1
    rcases lt12 hi with rfl | rfl | rfl | rfl | rfl | rfl | rfl | rfl | rfl | rfl | rfl | rfl
    · rw [gi_ui, if_neg (by omega), g1 0 (by decide)]; simp [gi_ui, grf]
    · rw [gi_ui, if_neg (by omega), g1 1 (by decide)]; simp [gi_ui, grf]
    · rw [gi_ui, if_neg (by omega), g1 2 (by decide)]; simp [gi_ui, grf]
    · rw [gi_ui, if_neg (by omega), g1 3 (by decide)]; simp [gi_ui, grf]
    · rw [gi_ui, if_pos ⟨rfl, rfl⟩]; rfl
    · rw [gi_ui, if_neg (by omega), g1 5 (by decide)]
      show _ = (if ao T a 4 < T 4 then T 4 else ao T a 4)
      rw [f3, h4, mx_nI (by omega) (by omega)]
      simp [gi_ui]
    · rw [gi_ui, if_neg (by omega), g1 6 (by decide)]
      show _ = ao T a 5
      rw [f4]
      simp [gi_ui]
    · rw [gi_ui, if_neg (by omega), g2]
      show _ = f_span (ao T a 4) (ao T a 5) &&& f_span (T 4) (T 0 - 1)
      rw [f3, f4, h4, h0]
      exact gr_wk (by omega) f2 hW (by omega)
    · rw [gi_ui, if_neg (by omega), g3 8 (by decide) (by decide)]; rfl
    · rw [gi_ui, if_neg (by omega), g3 9 (by decide) (by decide)]; rfl
    · rw [gi_ui, if_neg (by omega), g3 10 (by decide) (by decide)]; rfl
    · rw [gi_ui, if_neg (by omega), g3 11 (by decide) (by decide)]; rfl
  · have : i = 8 ∨ i = 9 ∨ i = 10 ∨ i = 11 := by omega
    rcases this with rfl | rfl | rfl | rfl <;> rfl
/-- what is written while a pool is played, on the landed side -/
def PCr (x y : Cn) : Prop := y.2 = x.2 ∧ ∀ a k, ¬ (117 ≤ a ∧ a ≤ 174) → gi y a k = gi x a k
theorem PCr.rf (x : Cn) : PCr x x := ⟨rfl, fun _ _ _ => rfl⟩
theorem PCr.tr {x y z : Cn} (h : PCr x y) (g : PCr y z) : PCr x z := ⟨g.1.trans h.1, fun a k c => (g.2 a k c).trans (h.2 a k c)⟩
theorem PCr.ui {x y : Cn} {a k : Nat} {v : Int32} (h : PCr x y) (c : 117 ≤ a ∧ a ≤ 174) : PCr x (ui y a k v) := ⟨h.1, fun b j hb => by rw [gi_ui, if_neg (by omega)]; exact h.2 b j hb⟩
theorem EQx.pc {x y : Cn} {a : Nat} (h : EQx x y a) (c : 117 ≤ a ∧ a ≤ 174) : PCr x y := ⟨h.1, fun b j hb => h.2 b j (by omega)⟩
theorem Frq.pc {x y : Cn} (h : Frq x y 118) : PCr x y := ⟨h.1, fun b j hb => h.2 b j (by omega)⟩
theorem lpR_in {σ : Type} {step : Nat → σ → σ ⊕ Int32} {fin : σ → Int32} {R : Int32 → Prop} (h1 : ∀ s a r, step s a = .inr r → R r) (h2 : ∀ a, R (fin a)) : ∀ n s a, R (lpR step fin n s a) := by
  intro n
  induction n with
  | zero => intro s a; exact h2 a
  | succ n ih =>
    intro s a
    simp only [lpR]
    cases hq : step s a with
    | inl a' => exact ih _ _
    | inr r => exact h1 s a r hq
end

def limP (h a b : Nat) : List Nat := wd 28 ++ numL h ++ [32] ++ numL a ++ wd 29 ++ numL b ++ [59]
def comP (w : List Nat) (v d h : Nat) (way : Int32) (f t : Nat) : List Nat := w ++ nmL v ++ [32] ++ dayL d ++ [32] ++ numL h ++ (if way = 0 then wd 29 else wd 32) ++ numL f ++ [45] ++ numL t
def serP (v d h : Nat) (way : Int32) (f t : Nat) (nw : Int32) : List Nat := comP (wd 31) v d h way f t ++ (if nw = 1 then wd 33 else wd 34)
def askP (v d h : Nat) (way : Int32) (f t b : Nat) : List Nat := comP (wd 35) v d h way f t ++ (if b = 0 then [] else wd 36 ++ numL b) ++ [59]
def carP (v : Nat) : List Nat := wd 30 ++ nmL v ++ [59]
theorem bl_e (l X : List Nat) : bl (l ++ (X ++ [59])) = [] := by
  rw [← List.append_assoc]
  exact bl_1 _ (by decide)
theorem ser_e (l : List Nat) (v d h : Nat) (way : Int32) (f t : Nat) (nw : Int32) : bl (l ++ serP v d h way f t nw) = [] := by
  unfold serP
  by_cases c : nw = 1
  · rw [if_pos c, wd_33, ← List.append_assoc]; exact bl_e _ _
  · rw [if_neg c, wd_34]; exact bl_e _ _
set_option maxHeartbeats 2000000 in
theorem v_X6_putLimit_0 {K : Sh} {x : Cn} {Q : Cn → Prop} {b0 : Nat} {l1 : Int32} {l2 : Int32} {l3 : Int32}  (k_b0 : kk K b0 = some (6, 0)) (K0 : mSV mX6_putWord [.ref b0, .ref (mSB + 2)] K x (fun y_1 => mSV mX6_putNumber [.ref b0, .int l1] K y_1 (fun y_2 => mSV mX6_putNumber [.ref b0, .int l2] K y_2 (fun y_3 => mSV mX6_putWord [.ref b0, .ref (mSB + 3)] K y_3 (fun y_4 => mSV mX6_putNumber [.ref b0, .int l3] K y_4 (fun y_5 => mSV mX6_putSign [.ref b0, .int 59] K y_5 (fun y_6 => Q y_6))))))) : mSV mX6_putLimit [.ref b0, .int l1, .int l2, .int l3] K x Q := by
  refine s_V (by decide) (by simp [Value.category]) (Nat.le_of_ble_eq_true rfl) ?_
  show mGM mX6_putLimit 0 [some (.ref b0), some (.int l1), some (.int l2), some (.int l3)] [] (hp K x) (PV K Q)
  refine r_aload_n (pc := 0) dX6_putLimit_0 rfl ?_
  refine r_ldcS (pc := 1) (j := 2) dX6_putLimit_1 rfl ?_
  refine s_VV (pc := 3) mX6_putWord (ci := 6) (a := b0) (As := [.ref (mSB + 2)]) dX6_putLimit_3 lk_X6_21 in_X6_putWord mo_X6_putWord ⟨by decide, rfl⟩ ⟨by decide, by decide⟩ (Nat.le_of_ble_eq_true rfl) k_b0 (mSV_mono K0 (fun y_1 K0 => ?_))
  refine r_aload_n (pc := 6) dX6_putLimit_6 rfl ?_
  refine r_iload_n (pc := 7) dX6_putLimit_7 rfl ?_
  refine s_VV (pc := 8) mX6_putNumber (ci := 6) (a := b0) (As := [.int l1]) dX6_putLimit_8 lk_X6_28 in_X6_putNumber mo_X6_putNumber ⟨by decide, rfl⟩ ⟨by decide, by decide⟩ (Nat.le_of_ble_eq_true rfl) k_b0 (mSV_mono K0 (fun y_2 K0 => ?_))
  refine r_aload_n (pc := 11) dX6_putLimit_11 rfl ?_
  refine r_iload_n (pc := 12) dX6_putLimit_12 rfl ?_
  refine s_VV (pc := 13) mX6_putNumber (ci := 6) (a := b0) (As := [.int l2]) dX6_putLimit_13 lk_X6_28 in_X6_putNumber mo_X6_putNumber ⟨by decide, rfl⟩ ⟨by decide, by decide⟩ (Nat.le_of_ble_eq_true rfl) k_b0 (mSV_mono K0 (fun y_3 K0 => ?_))
  refine r_aload_n (pc := 16) dX6_putLimit_16 rfl ?_
  refine r_ldcS (pc := 17) (j := 3) dX6_putLimit_17 rfl ?_
  refine s_VV (pc := 19) mX6_putWord (ci := 6) (a := b0) (As := [.ref (mSB + 3)]) dX6_putLimit_19 lk_X6_21 in_X6_putWord mo_X6_putWord ⟨by decide, rfl⟩ ⟨by decide, by decide⟩ (Nat.le_of_ble_eq_true rfl) k_b0 (mSV_mono K0 (fun y_4 K0 => ?_))
  refine r_aload_n (pc := 22) dX6_putLimit_22 rfl ?_
  refine r_iload_n (pc := 23) dX6_putLimit_23 rfl ?_
  refine s_VV (pc := 24) mX6_putNumber (ci := 6) (a := b0) (As := [.int l3]) dX6_putLimit_24 lk_X6_28 in_X6_putNumber mo_X6_putNumber ⟨by decide, rfl⟩ ⟨by decide, by decide⟩ (Nat.le_of_ble_eq_true rfl) k_b0 (mSV_mono K0 (fun y_5 K0 => ?_))
  refine r_aload_n (pc := 27) dX6_putLimit_27 rfl ?_
  refine r_bipush (pc := 28) (v := 59) dX6_putLimit_28 (by decide) ?_
  refine s_VV (pc := 30) mX6_putSign (ci := 6) (a := b0) (As := [.int 59]) dX6_putLimit_30 lk_X6_32 in_X6_putSign mo_X6_putSign ⟨by decide, rfl⟩ ⟨by decide, by decide⟩ (Nat.le_of_ble_eq_true rfl) k_b0 (mSV_mono K0 (fun y_6 K0 => ?_))
  exact s_ret rfl dX6_putLimit_33 K0
section
theorem sp_X6_putLimit {x : Cn} {Q : Cn → Prop} {l : List Nat} {B h a b : Nat} (hh : h < 100) (ha : a < 100) (hb : b < 100) (c : gr x 175 0 = some 176) (h0 : bl l = []) (w : WR x l B) (hB : B + 19 ≤ 2400) (k : ∀ y, WFr x y → WR y (l ++ limP h a b) (B + 19) → Q y) : mSV mX6_putLimit [.ref 175, .int (nI h), .int (nI a), .int (nI b)] KW x Q := by
  have cg : ∀ y : Cn, WFr x y → gr y 175 0 = some 176 := fun y fy => by unfold gr; rw [fy.1]; exact c
  refine v_X6_putLimit_0 k175 (sp_X6_putWord (j := 2) (m := 5) (mSq_at (by decide)) (by decide) c w (by omega) (fun y1 f1 w1 => ?_))
  rw [h0, List.append_nil] at w1
  refine sp_X6_putNumber hh (cg y1 f1) w1 (by omega) (fun y2 f2 w2 => ?_)
  rw [bl_wd _ (by decide) (by decide) (by decide)] at w2
  refine sp_X6_putNumber ha (cg y2 (f1.tr f2)) w2 (by omega) (fun y3 f3 w3 => ?_)
  rw [bl_num _ hh] at w3
  refine sp_X6_putWord (j := 3) (m := 2) (mSq_at (by decide)) (by decide) (cg y3 (f1.tr (f2.tr f3))) w3 (by omega) (fun y4 f4 w4 => ?_)
  rw [bl_num _ ha] at w4
  refine sp_X6_putNumber hb (cg y4 (f1.tr (f2.tr (f3.tr f4)))) w4 (by omega) (fun y5 f5 w5 => ?_)
  rw [bl_wd _ (by decide) (by decide) (by decide)] at w5
  refine sp_X6_putSign (n := 59) (by decide) (cg y5 (f1.tr (f2.tr (f3.tr (f4.tr f5))))) w5 (by omega) (fun y6 f6 w6 => k y6 (f1.tr (f2.tr (f3.tr (f4.tr (f5.tr f6))))) ?_)
  have e : l ++ wq (mSq 2) ++ [32] ++ numL h ++ [32] ++ numL a ++ [32] ++ wq (mSq 3) ++ [32] ++ numL b ++ [59] = l ++ limP h a b := by
    simp only [limP, wd_28, wd_29, List.append_assoc]
  rw [e] at w6
  exact w6.le (by omega)
theorem com_c {x : Cn} {Q : Cn → Prop} {l : List Nat} {B cr v d h f t j m : Nat} {way : Int32} (a0 a1 a2 a3 a5 a6 : Cn → Int32) (e0 : ∀ y, WFr x y → a0 y = nI cr) (e1 : ∀ y, WFr x y → a1 y = nI d) (e2 : ∀ y, WFr x y → a2 y = nI h) (e3 : ∀ y, WFr x y → a3 y = way) (e5 : ∀ y, WFr x y → a5 y = nI f) (e6 : ∀ y, WFr x y → a6 y = nI t) (hc : cr < 8) (hv0 : 0 < v) (hv1 : v < 387420489) (hv : ∀ i, i < 6 → gi x 57 (6 * cr + i) = nI (dg v i)) (hd : d < 7) (hh : h < 100) (hf : f < 100) (ht : t < 100) (hj : j < 11) (hj0 : j ≠ 0) (hj6 : j ≠ 6) (hm : (mSq j).2.2.2.length ≤ m) (c : gr x 175 0 = some 176) (c2 : gr x 56 1 = some 57) (h0 : bl l = []) (w : WR x l B) (hB : B + 26 + m ≤ 2400) (k : ∀ y, WFr x y → WR y (l ++ comP (wd j ++ [32]) v d h way f t) (B + 26 + m) → bl (l ++ comP (wd j ++ [32]) v d h way f t) = [32] → Q y) : mSV mX6_putWord [.ref 175, .ref (mSB + j)] KW x (fun y_1 => mSV mX6_putName [.ref 175, .ref 56, .int (a0 y_1)] KW y_1 (fun y_2 => mSV mX6_putPlace [.ref 175, .int (a1 y_2), .int (a2 y_2), .int (a3 y_2)] KW y_2 (fun y_3 => mSV mX6_putSpan [.ref 175, .int (a5 y_3), .int (a6 y_3)] KW y_3 Q))) := by
  have cg : ∀ y : Cn, WFr x y → gr y 175 0 = some 176 := fun y fy => by unfold gr; rw [fy.1]; exact c
  refine sp_X6_putWord (m := m) (mSq_at (by omega)) hm c w (by omega) (fun y1 f1 w1 => ?_)
  rw [h0, List.append_nil] at w1
  rw [e0 y1 f1]
  refine sp_X6_putName hc (v := v) (fun i hi => by rw [f1.2 57 _ (by decide) (by omega)]; exact hv i hi) (cg y1 f1) (by unfold gr; rw [f1.1]; exact c2) w1 (by omega) (fun y2 f2 w2 => ?_)
  rw [bl_wd _ hj hj0 hj6] at w2
  rw [e1 y2 (f1.tr f2), e2 y2 (f1.tr f2), e3 y2 (f1.tr f2)]
  refine sp_X6_putPlace hd hh (cg y2 (f1.tr f2)) w2 (by omega) (fun y3 f3 w3 => ?_)
  rw [bl_nm _ hv0 hv1] at w3
  rw [e5 y3 (f1.tr (f2.tr f3)), e6 y3 (f1.tr (f2.tr f3))]
  refine sp_X6_putSpan hf ht (cg y3 (f1.tr (f2.tr f3))) w3 (by omega) (fun y4 f4 w4 => ?_)
  have eb : ∀ X : List Nat, bl (X ++ (if way = 0 then wd 3 else wd 7)) = [32] := fun X => by
    by_cases cw : way = 0
    · rw [if_pos cw]; exact bl_wd _ (by decide) (by decide) (by decide)
    · rw [if_neg cw]; exact bl_wd _ (by decide) (by decide) (by decide)
  rw [eb] at w4
  have e : l ++ wq (mSq j) ++ [32] ++ nmL v ++ [32] ++ dayL d ++ [32] ++ numL h ++ [32] ++ (if way = 0 then wd 3 else wd 7) ++ [32] ++ numL f ++ [45] ++ numL t = l ++ comP (wd j ++ [32]) v d h way f t := by
    unfold comP
    by_cases cw : way = 0
    · rw [if_pos cw, if_pos cw, wd_29]; simp only [List.append_assoc]
    · rw [if_neg cw, if_neg cw, wd_32]; simp only [List.append_assoc]
  have eb2 : bl (l ++ comP (wd j ++ [32]) v d h way f t) = [32] := by
    rw [← e]; exact bl_num _ ht
  rw [e] at w4
  exact k y4 (f1.tr (f2.tr (f3.tr f4))) (w4.le (by omega)) eb2
end
set_option maxHeartbeats 2000000 in
theorem v_X6_putSeries_0 {K : Sh} {x : Cn} {Q : Cn → Prop} {b0 : Nat} {b1 : Nat} {b2 : Nat}  (k_b0 : kk K b0 = some (6, 0)) (k_b1 : kk K b1 = some (5, 0)) (K0 : mSV mX6_putWord [.ref b0, .ref (mSB + 5)] K x (fun y_1 => mSV mX6_putName [.ref b0, .ref b2, .int (gi y_1 b1 0)] K y_1 (fun y_2 => mSV mX6_putPlace [.ref b0, .int (gi y_2 b1 1), .int (gi y_2 b1 2), .int (gi y_2 b1 3)] K y_2 (fun y_3 => mSV mX6_putSpan [.ref b0, .int (gi y_3 b1 5), .int (gi y_3 b1 6)] K y_3 (fun y_4 => ((gi y_4 b1 4) = 0 → (mSV mX6_putSign [.ref b0, .int 59] K y_4 (fun y_6 => Q y_6))) ∧ (¬ (gi y_4 b1 4) = 0 → (mSV mX6_putWord [.ref b0, .ref (mSB + 8)] K y_4 (fun y_7 => mSV mX6_putSign [.ref b0, .int 59] K y_7 (fun y_8 => Q y_8))))))))) : mSV mX6_putSeries [.ref b0, .ref b1, .ref b2] K x Q := by
  refine s_V (by decide) (by simp [Value.category]) (Nat.le_of_ble_eq_true rfl) ?_
  show mGM mX6_putSeries 0 [some (.ref b0), some (.ref b1), some (.ref b2)] [] (hp K x) (PV K Q)
  refine r_aload_n (pc := 0) dX6_putSeries_0 rfl ?_
  refine r_ldcS (pc := 1) (j := 5) dX6_putSeries_1 rfl ?_
  refine s_VV (pc := 3) mX6_putWord (ci := 6) (a := b0) (As := [.ref (mSB + 5)]) dX6_putSeries_3 lk_X6_21 in_X6_putWord mo_X6_putWord ⟨by decide, rfl⟩ ⟨by decide, by decide⟩ (Nat.le_of_ble_eq_true rfl) k_b0 (mSV_mono K0 (fun y_1 K0 => ?_))
  refine r_aload_n (pc := 6) dX6_putSeries_6 rfl ?_
  refine r_aload_n (pc := 7) dX6_putSeries_7 rfl ?_
  refine r_aload_n (pc := 8) dX6_putSeries_8 rfl ?_
  refine s_getI (pc := 9) dX6_putSeries_9 fl_X6_86 rfl k_b1 ?_
  refine s_VV (pc := 12) mX6_putName (ci := 6) (a := b0) (As := [.ref b2, .int (gi y_1 b1 0)]) dX6_putSeries_12 lk_X6_54 in_X6_putName mo_X6_putName ⟨by decide, rfl⟩ ⟨by decide, by decide⟩ (Nat.le_of_ble_eq_true rfl) k_b0 (mSV_mono K0 (fun y_2 K0 => ?_))
  refine r_aload_n (pc := 15) dX6_putSeries_15 rfl ?_
  refine r_aload_n (pc := 16) dX6_putSeries_16 rfl ?_
  refine s_getI (pc := 17) dX6_putSeries_17 fl_X6_90 rfl k_b1 ?_
  refine r_aload_n (pc := 20) dX6_putSeries_20 rfl ?_
  refine s_getI (pc := 21) dX6_putSeries_21 fl_X6_93 rfl k_b1 ?_
  refine r_aload_n (pc := 24) dX6_putSeries_24 rfl ?_
  refine s_getI (pc := 25) dX6_putSeries_25 fl_X6_96 rfl k_b1 ?_
  refine s_VV (pc := 28) mX6_putPlace (ci := 6) (a := b0) (As := [.int (gi y_2 b1 1), .int (gi y_2 b1 2), .int (gi y_2 b1 3)]) dX6_putSeries_28 lk_X6_99 in_X6_putPlace mo_X6_putPlace ⟨by decide, rfl⟩ ⟨by decide, by decide⟩ (Nat.le_of_ble_eq_true rfl) k_b0 (mSV_mono K0 (fun y_3 K0 => ?_))
  refine r_aload_n (pc := 31) dX6_putSeries_31 rfl ?_
  refine r_aload_n (pc := 32) dX6_putSeries_32 rfl ?_
  refine s_getI (pc := 33) dX6_putSeries_33 fl_X6_102 rfl k_b1 ?_
  refine r_aload_n (pc := 36) dX6_putSeries_36 rfl ?_
  refine s_getI (pc := 37) dX6_putSeries_37 fl_X6_105 rfl k_b1 ?_
  refine s_VV (pc := 40) mX6_putSpan (ci := 6) (a := b0) (As := [.int (gi y_3 b1 5), .int (gi y_3 b1 6)]) dX6_putSeries_40 lk_X6_108 in_X6_putSpan mo_X6_putSpan ⟨by decide, rfl⟩ ⟨by decide, by decide⟩ (Nat.le_of_ble_eq_true rfl) k_b0 (mSV_mono K0 (fun y_4 K0 => ?_))
  refine r_aload_n (pc := 43) dX6_putSeries_43 rfl ?_
  refine s_getI (pc := 44) dX6_putSeries_44 fl_X6_112 rfl k_b1 ?_
  refine r_if_eq (pc := 47) (tgt := 56) dX6_putSeries_47 (by decide) (fun q => ?_) (fun q => ?_)
  · have K0 := K0.1 q
    refine r_aload_n (pc := 56) dX6_putSeries_56 rfl ?_
    refine r_bipush (pc := 57) (v := 59) dX6_putSeries_57 (by decide) ?_
    refine s_VV (pc := 59) mX6_putSign (ci := 6) (a := b0) (As := [.int 59]) dX6_putSeries_59 lk_X6_32 in_X6_putSign mo_X6_putSign ⟨by decide, rfl⟩ ⟨by decide, by decide⟩ (Nat.le_of_ble_eq_true rfl) k_b0 (mSV_mono K0 (fun y_6 K0 => ?_))
    exact s_ret rfl dX6_putSeries_62 K0
  · have K0 := K0.2 q
    refine r_aload_n (pc := 50) dX6_putSeries_50 rfl ?_
    refine r_ldcS (pc := 51) (j := 8) dX6_putSeries_51 rfl ?_
    refine s_VV (pc := 53) mX6_putWord (ci := 6) (a := b0) (As := [.ref (mSB + 8)]) dX6_putSeries_53 lk_X6_21 in_X6_putWord mo_X6_putWord ⟨by decide, rfl⟩ ⟨by decide, by decide⟩ (Nat.le_of_ble_eq_true rfl) k_b0 (mSV_mono K0 (fun y_7 K0 => ?_))
    refine r_aload_n (pc := 56) dX6_putSeries_56 rfl ?_
    refine r_bipush (pc := 57) (v := 59) dX6_putSeries_57 (by decide) ?_
    refine s_VV (pc := 59) mX6_putSign (ci := 6) (a := b0) (As := [.int 59]) dX6_putSeries_59 lk_X6_32 in_X6_putSign mo_X6_putSign ⟨by decide, rfl⟩ ⟨by decide, by decide⟩ (Nat.le_of_ble_eq_true rfl) k_b0 (mSV_mono K0 (fun y_8 K0 => ?_))
    exact s_ret rfl dX6_putSeries_62 K0
section
theorem sp_X6_putSeries {x : Cn} {Q : Cn → Prop} {l : List Nat} {B cr v d h f t p : Nat} {way nw : Int32} (hp : 2 ≤ p ∧ p < 56) (kp : kk KW p = some (5, 0)) (p0 : gi x p 0 = nI cr) (p1 : gi x p 1 = nI d) (p2 : gi x p 2 = nI h) (p3 : gi x p 3 = way) (p4 : gi x p 4 = nw) (p5 : gi x p 5 = nI f) (p6 : gi x p 6 = nI t) (hn : nw = 0 ∨ nw = 1) (hc : cr < 8) (hv0 : 0 < v) (hv1 : v < 387420489) (hv : ∀ i, i < 6 → gi x 57 (6 * cr + i) = nI (dg v i)) (hd : d < 7) (hh : h < 100) (hf : f < 100) (ht : t < 100) (c : gr x 175 0 = some 176) (c2 : gr x 56 1 = some 57) (h0 : bl l = []) (w : WR x l B) (hB : B + 37 ≤ 2400) (k : ∀ y, WFr x y → WR y (l ++ serP v d h way f t nw) (B + 37) → Q y) : mSV mX6_putSeries [.ref 175, .ref p, .ref 56] KW x Q := by
  have cg : ∀ y : Cn, WFr x y → gr y 175 0 = some 176 := fun y fy => by unfold gr; rw [fy.1]; exact c
  have pg : ∀ (y : Cn) i, WFr x y → gi y p i = gi x p i := fun y i fy => fy.2 p i (by omega) (by omega)
  refine v_X6_putSeries_0 k175 kp (com_c (x := x) (l := l) (B := B) (cr := cr) (v := v) (d := d) (h := h) (f := f) (t := t) (j := 5) (m := 6) (way := way) (fun y => gi y p 0) (fun y => gi y p 1) (fun y => gi y p 2) (fun y => gi y p 3) (fun y => gi y p 5) (fun y => gi y p 6) (fun y fy => (pg y 0 fy).trans p0) (fun y fy => (pg y 1 fy).trans p1) (fun y fy => (pg y 2 fy).trans p2) (fun y fy => (pg y 3 fy).trans p3) (fun y fy => (pg y 5 fy).trans p5) (fun y fy => (pg y 6 fy).trans p6) hc hv0 hv1 hv hd hh hf ht (by decide) (by decide) (by decide) (by decide) c c2 h0 w (by omega) (fun y fy wy hb => ?_))
  rw [pg y 4 fy, p4]
  refine ⟨fun z => sp_X6_putSign (n := 59) (by decide) (cg y fy) wy (by omega) (fun u fu wu => k u (fy.tr fu) ?_), fun z => sp_X6_putWord (j := 8) (m := 3) (mSq_at (by decide)) (by decide) (cg y fy) wy (by omega) (fun u fu wu => sp_X6_putSign (n := 59) (by decide) (cg u (fy.tr fu)) wu (by omega) (fun v' fv wv => k v' (fy.tr (fu.tr fv)) ?_))⟩
  · unfold serP
    rw [if_neg (by rw [z]; decide), wd_34, wd_31, ← List.append_assoc]
    exact wu.le (by omega)
  · unfold serP
    rw [if_pos (hn.resolve_left z), wd_33, wd_31]
    rw [hb] at wv
    have e : l ++ (comP (wd 5 ++ [32]) v d h way f t ++ ([32] ++ wd 8 ++ [59])) = l ++ comP (wd 5 ++ [32]) v d h way f t ++ [32] ++ wq (mSq 8) ++ [59] := by simp only [List.append_assoc]
    rw [e]
    exact wv.le (by omega)
end
set_option maxHeartbeats 2000000 in
theorem v_X6_putAsk_0 {K : Sh} {x : Cn} {Q : Cn → Prop} {b0 : Nat} {b1 : Nat} {b2 : Nat}  (k_b0 : kk K b0 = some (6, 0)) (k_b1 : kk K b1 = some (0, 0)) (K0 : mSV mX6_putWord [.ref b0, .ref (mSB + 9)] K x (fun y_1 => mSV mX6_putName [.ref b0, .ref b2, .int (gi y_1 b1 0)] K y_1 (fun y_2 => mSV mX6_putPlace [.ref b0, .int (gi y_2 b1 1), .int (gi y_2 b1 2), .int (gi y_2 b1 3)] K y_2 (fun y_3 => mSV mX6_putSpan [.ref b0, .int (gi y_3 b1 4), .int (gi y_3 b1 5)] K y_3 (fun y_4 => ((gi y_4 b1 6) ≤ 0 → (mSV mX6_putSign [.ref b0, .int 59] K y_4 (fun y_6 => Q y_6))) ∧ (¬ (gi y_4 b1 6) ≤ 0 → (mSV mX6_putWord [.ref b0, .ref (mSB + 10)] K y_4 (fun y_7 => mSV mX6_putNumber [.ref b0, .int (gi y_7 b1 6)] K y_7 (fun y_8 => mSV mX6_putSign [.ref b0, .int 59] K y_8 (fun y_9 => Q y_9)))))))))) : mSV mX6_putAsk [.ref b0, .ref b1, .ref b2] K x Q := by
  refine s_V (by decide) (by simp [Value.category]) (Nat.le_of_ble_eq_true rfl) ?_
  show mGM mX6_putAsk 0 [some (.ref b0), some (.ref b1), some (.ref b2)] [] (hp K x) (PV K Q)
  refine r_aload_n (pc := 0) dX6_putAsk_0 rfl ?_
  refine r_ldcS (pc := 1) (j := 9) dX6_putAsk_1 rfl ?_
  refine s_VV (pc := 3) mX6_putWord (ci := 6) (a := b0) (As := [.ref (mSB + 9)]) dX6_putAsk_3 lk_X6_21 in_X6_putWord mo_X6_putWord ⟨by decide, rfl⟩ ⟨by decide, by decide⟩ (Nat.le_of_ble_eq_true rfl) k_b0 (mSV_mono K0 (fun y_1 K0 => ?_))
  refine r_aload_n (pc := 6) dX6_putAsk_6 rfl ?_
  refine r_aload_n (pc := 7) dX6_putAsk_7 rfl ?_
  refine r_aload_n (pc := 8) dX6_putAsk_8 rfl ?_
  refine s_getI (pc := 9) dX6_putAsk_9 fl_X6_120 rfl k_b1 ?_
  refine s_VV (pc := 12) mX6_putName (ci := 6) (a := b0) (As := [.ref b2, .int (gi y_1 b1 0)]) dX6_putAsk_12 lk_X6_54 in_X6_putName mo_X6_putName ⟨by decide, rfl⟩ ⟨by decide, by decide⟩ (Nat.le_of_ble_eq_true rfl) k_b0 (mSV_mono K0 (fun y_2 K0 => ?_))
  refine r_aload_n (pc := 15) dX6_putAsk_15 rfl ?_
  refine r_aload_n (pc := 16) dX6_putAsk_16 rfl ?_
  refine s_getI (pc := 17) dX6_putAsk_17 fl_X6_123 rfl k_b1 ?_
  refine r_aload_n (pc := 20) dX6_putAsk_20 rfl ?_
  refine s_getI (pc := 21) dX6_putAsk_21 fl_X6_124 rfl k_b1 ?_
  refine r_aload_n (pc := 24) dX6_putAsk_24 rfl ?_
  refine s_getI (pc := 25) dX6_putAsk_25 fl_X6_125 rfl k_b1 ?_
  refine s_VV (pc := 28) mX6_putPlace (ci := 6) (a := b0) (As := [.int (gi y_2 b1 1), .int (gi y_2 b1 2), .int (gi y_2 b1 3)]) dX6_putAsk_28 lk_X6_99 in_X6_putPlace mo_X6_putPlace ⟨by decide, rfl⟩ ⟨by decide, by decide⟩ (Nat.le_of_ble_eq_true rfl) k_b0 (mSV_mono K0 (fun y_3 K0 => ?_))
  refine r_aload_n (pc := 31) dX6_putAsk_31 rfl ?_
  refine r_aload_n (pc := 32) dX6_putAsk_32 rfl ?_
  refine s_getI (pc := 33) dX6_putAsk_33 fl_X6_126 rfl k_b1 ?_
  refine r_aload_n (pc := 36) dX6_putAsk_36 rfl ?_
  refine s_getI (pc := 37) dX6_putAsk_37 fl_X6_127 rfl k_b1 ?_
  refine s_VV (pc := 40) mX6_putSpan (ci := 6) (a := b0) (As := [.int (gi y_3 b1 4), .int (gi y_3 b1 5)]) dX6_putAsk_40 lk_X6_108 in_X6_putSpan mo_X6_putSpan ⟨by decide, rfl⟩ ⟨by decide, by decide⟩ (Nat.le_of_ble_eq_true rfl) k_b0 (mSV_mono K0 (fun y_4 K0 => ?_))
  refine r_aload_n (pc := 43) dX6_putAsk_43 rfl ?_
  refine s_getI (pc := 44) dX6_putAsk_44 fl_X6_128 rfl k_b1 ?_
  refine r_if_le (pc := 47) (tgt := 64) dX6_putAsk_47 (by decide) (fun q => ?_) (fun q => ?_)
  · have K0 := K0.1 q
    refine r_aload_n (pc := 64) dX6_putAsk_64 rfl ?_
    refine r_bipush (pc := 65) (v := 59) dX6_putAsk_65 (by decide) ?_
    refine s_VV (pc := 67) mX6_putSign (ci := 6) (a := b0) (As := [.int 59]) dX6_putAsk_67 lk_X6_32 in_X6_putSign mo_X6_putSign ⟨by decide, rfl⟩ ⟨by decide, by decide⟩ (Nat.le_of_ble_eq_true rfl) k_b0 (mSV_mono K0 (fun y_6 K0 => ?_))
    exact s_ret rfl dX6_putAsk_70 K0
  · have K0 := K0.2 q
    refine r_aload_n (pc := 50) dX6_putAsk_50 rfl ?_
    refine r_ldcS (pc := 51) (j := 10) dX6_putAsk_51 rfl ?_
    refine s_VV (pc := 53) mX6_putWord (ci := 6) (a := b0) (As := [.ref (mSB + 10)]) dX6_putAsk_53 lk_X6_21 in_X6_putWord mo_X6_putWord ⟨by decide, rfl⟩ ⟨by decide, by decide⟩ (Nat.le_of_ble_eq_true rfl) k_b0 (mSV_mono K0 (fun y_7 K0 => ?_))
    refine r_aload_n (pc := 56) dX6_putAsk_56 rfl ?_
    refine r_aload_n (pc := 57) dX6_putAsk_57 rfl ?_
    refine s_getI (pc := 58) dX6_putAsk_58 fl_X6_128 rfl k_b1 ?_
    refine s_VV (pc := 61) mX6_putNumber (ci := 6) (a := b0) (As := [.int (gi y_7 b1 6)]) dX6_putAsk_61 lk_X6_28 in_X6_putNumber mo_X6_putNumber ⟨by decide, rfl⟩ ⟨by decide, by decide⟩ (Nat.le_of_ble_eq_true rfl) k_b0 (mSV_mono K0 (fun y_8 K0 => ?_))
    refine r_aload_n (pc := 64) dX6_putAsk_64 rfl ?_
    refine r_bipush (pc := 65) (v := 59) dX6_putAsk_65 (by decide) ?_
    refine s_VV (pc := 67) mX6_putSign (ci := 6) (a := b0) (As := [.int 59]) dX6_putAsk_67 lk_X6_32 in_X6_putSign mo_X6_putSign ⟨by decide, rfl⟩ ⟨by decide, by decide⟩ (Nat.le_of_ble_eq_true rfl) k_b0 (mSV_mono K0 (fun y_9 K0 => ?_))
    exact s_ret rfl dX6_putAsk_70 K0
section
theorem sp_X6_putAsk {x : Cn} {Q : Cn → Prop} {l : List Nat} {B cr v d h f t b p : Nat} {way : Int32} (hp : 2 ≤ p ∧ p < 56) (kp : kk KW p = some (0, 0)) (p0 : gi x p 0 = nI cr) (p1 : gi x p 1 = nI d) (p2 : gi x p 2 = nI h) (p3 : gi x p 3 = way) (p4 : gi x p 4 = nI f) (p5 : gi x p 5 = nI t) (p6 : gi x p 6 = nI b) (hb9 : b ≤ 9) (hc : cr < 8) (hv0 : 0 < v) (hv1 : v < 387420489) (hv : ∀ i, i < 6 → gi x 57 (6 * cr + i) = nI (dg v i)) (hd : d < 7) (hh : h < 100) (hf : f < 100) (ht : t < 100) (c : gr x 175 0 = some 176) (c2 : gr x 56 1 = some 57) (h0 : bl l = []) (w : WR x l B) (hB : B + 36 ≤ 2400) (k : ∀ y, WFr x y → WR y (l ++ askP v d h way f t b) (B + 36) → Q y) : mSV mX6_putAsk [.ref 175, .ref p, .ref 56] KW x Q := by
  have cg : ∀ y : Cn, WFr x y → gr y 175 0 = some 176 := fun y fy => by unfold gr; rw [fy.1]; exact c
  have pg : ∀ (y : Cn) i, WFr x y → gi y p i = gi x p i := fun y i fy => fy.2 p i (by omega) (by omega)
  refine v_X6_putAsk_0 k175 kp (com_c (x := x) (l := l) (B := B) (cr := cr) (v := v) (d := d) (h := h) (f := f) (t := t) (j := 9) (m := 3) (way := way) (fun y => gi y p 0) (fun y => gi y p 1) (fun y => gi y p 2) (fun y => gi y p 3) (fun y => gi y p 4) (fun y => gi y p 5) (fun y fy => (pg y 0 fy).trans p0) (fun y fy => (pg y 1 fy).trans p1) (fun y fy => (pg y 2 fy).trans p2) (fun y fy => (pg y 3 fy).trans p3) (fun y fy => (pg y 4 fy).trans p4) (fun y fy => (pg y 5 fy).trans p5) hc hv0 hv1 hv hd hh hf ht (by decide) (by decide) (by decide) (by decide) c c2 h0 w (by omega) (fun y fy wy hb => ?_))
  rw [pg y 6 fy, p6, show nI b ≤ 0 ↔ b ≤ 0 from nI_leI (b := 0) (by omega) (by decide)]
  refine ⟨fun z => sp_X6_putSign (n := 59) (by decide) (cg y fy) wy (by omega) (fun u fu wu => k u (fy.tr fu) ?_), fun z => sp_X6_putWord (j := 10) (m := 2) (mSq_at (by decide)) (by decide) (cg y fy) wy (by omega) (fun u fu wu => ?_)⟩
  · unfold askP
    rw [if_pos (by omega), wd_35, List.append_nil, ← List.append_assoc]
    exact wu.le (by omega)
  · rw [pg u 6 (fy.tr fu), p6]
    refine sp_X6_putNumber (n := b) (by omega) (cg u (fy.tr fu)) wu (by omega) (fun u2 f2 w2 => sp_X6_putSign (n := 59) (by decide) (cg u2 (fy.tr (fu.tr f2))) w2 (by omega) (fun v' fv wv => k v' (fy.tr (fu.tr (f2.tr fv))) ?_))
    unfold askP
    rw [if_neg (by omega), wd_36, wd_35]
    rw [hb, bl_wd _ (by decide) (by decide) (by decide)] at wv
    have e : l ++ (comP (wd 9 ++ [32]) v d h way f t ++ ([32] ++ wd 10 ++ [32] ++ numL b) ++ [59]) = l ++ comP (wd 9 ++ [32]) v d h way f t ++ [32] ++ wq (mSq 10) ++ [32] ++ numL b ++ [59] := by simp only [List.append_assoc]
    rw [e]
    exact wv.le (by omega)
/-- the whole told -/
def nmv (T : TT) (c : Nat) : Nat := (T (54 + c)).toNatClampNeg
def limT (T : TT) (h : Nat) : List Nat := if T (6 + 2 * h) = 4 ∧ T (7 + 2 * h) = 4 then [] else limP h (T (6 + 2 * h)).toNatClampNeg (T (7 + 2 * h)).toNatClampNeg
def serT (T : TT) (s : Nat) : List Nat := serP (nmv T (so T s 0).toNatClampNeg) (so T s 1).toNatClampNeg (so T s 2).toNatClampNeg (so T s 3) (so T s 5).toNatClampNeg (so T s 6).toNatClampNeg (so T s 4)
def askS (T : TT) (a : Nat) : List Nat := askP (nmv T (ao T a 0).toNatClampNeg) (ao T a 1).toNatClampNeg (ao T a 2).toNatClampNeg (ao T a 3) (ao T a 4).toNatClampNeg (ao T a 5).toNatClampNeg (ao T a 6).toNatClampNeg
def tl0 (W : Nat) : List Nat := wd 27 ++ numL W ++ [59]
def tl1 (T : TT) (W : Nat) : List Nat := accT (fun h l => l ++ limT T h) 24 (tl0 W)
def tl2 (T : TT) (W C : Nat) : List Nat := accT (fun c l => l ++ carP (nmv T c)) C (tl1 T W)
def tl3 (T : TT) (W C S : Nat) : List Nat := accT (fun s l => l ++ serT T s) S (tl2 T W C)
def tl4 (T : TT) (W C S A : Nat) : List Nat := accT (fun a l => l ++ askS T a) A (tl3 T W C S)
end
set_option maxHeartbeats 2000000 in
theorem v_X6_write_0 {K : Sh} {x : Cn} {Q : Int32 → Cn → Prop} {b0 : Nat} {b1 : Nat} {b2 : Nat}  (k_b0 : kk K b0 = some (6, 0)) (k_b1 : kk K b1 = some (4, 0)) (K0 : mSV mX6_putWord [.ref b0, .ref (mSB + 1)] K (ui x b0 1 0) (fun y_1 => mSV mX6_putNumber [.ref b0, .int (gi y_1 b1 0)] K y_1 (fun y_2 => mSV mX6_putSign [.ref b0, .int 59] K y_2 (fun y_3 => GI mX6_write 27 [some (.ref b0), some (.ref b1), some (.ref b2), some (.int 0)] [] K y_3 Q)))) : mSI mX6_write [.ref b0, .ref b1, .ref b2] K x Q := by
  refine s_I (by decide) (by simp [Value.category]) (Nat.le_of_ble_eq_true rfl) ?_
  show mGM mX6_write 0 [some (.ref b0), some (.ref b1), some (.ref b2), none] [] (hp K x) (PI K Q)
  refine r_aload_n (pc := 0) dX6_write_0 rfl ?_
  refine r_iconst (pc := 1) (v := 0) dX6_write_1 (by decide) ?_
  refine s_putI (pc := 2) dX6_write_2 fl_X6_15 rfl rfl k_b0 ?_
  refine r_aload_n (pc := 5) dX6_write_5 rfl ?_
  refine r_ldcS (pc := 6) (j := 1) dX6_write_6 rfl ?_
  refine s_VV (pc := 8) mX6_putWord (ci := 6) (a := b0) (As := [.ref (mSB + 1)]) dX6_write_8 lk_X6_21 in_X6_putWord mo_X6_putWord ⟨by decide, rfl⟩ ⟨by decide, by decide⟩ (Nat.le_of_ble_eq_true rfl) k_b0 (mSV_mono K0 (fun y_1 K0 => ?_))
  refine r_aload_n (pc := 11) dX6_write_11 rfl ?_
  refine r_aload_n (pc := 12) dX6_write_12 rfl ?_
  refine s_getI (pc := 13) dX6_write_13 fl_X6_25 rfl k_b1 ?_
  refine s_VV (pc := 16) mX6_putNumber (ci := 6) (a := b0) (As := [.int (gi y_1 b1 0)]) dX6_write_16 lk_X6_28 in_X6_putNumber mo_X6_putNumber ⟨by decide, rfl⟩ ⟨by decide, by decide⟩ (Nat.le_of_ble_eq_true rfl) k_b0 (mSV_mono K0 (fun y_2 K0 => ?_))
  refine r_aload_n (pc := 19) dX6_write_19 rfl ?_
  refine r_bipush (pc := 20) (v := 59) dX6_write_20 (by decide) ?_
  refine s_VV (pc := 22) mX6_putSign (ci := 6) (a := b0) (As := [.int 59]) dX6_write_22 lk_X6_32 in_X6_putSign mo_X6_putSign ⟨by decide, rfl⟩ ⟨by decide, by decide⟩ (Nat.le_of_ble_eq_true rfl) k_b0 (mSV_mono K0 (fun y_3 K0 => ?_))
  refine r_iconst (pc := 25) (v := 0) dX6_write_25 (by decide) ?_
  refine r_istore_n (pc := 26) dX6_write_26 (by decide) ?_
  exact r_le (L' := [some (.ref b0), some (.ref b1), some (.ref b2), some (.int 0)]) ⟨rfl, ⟨rfl, ⟨rfl, ⟨rfl, trivial⟩⟩⟩⟩ K0
set_option maxHeartbeats 2000000 in
theorem v_X6_write_27 {K : Sh} {x : Cn} {Q : Int32 → Cn → Prop} {b0 : Nat} {b1 : Nat} {b2 : Nat} {l3 : Int32} {b1_5 : Nat} {n_b1_5 : Nat} {b1_6 : Nat} {n_b1_6 : Nat} (k_b1 : kk K b1 = some (4, 0)) (g_b1_5 : gr x b1 5 = some b1_5) (k_b1_5 : kk K b1_5 = some (20, n_b1_5)) (g_b1_6 : gr x b1 6 = some b1_6) (k_b1_6 : kk K b1_6 = some (20, n_b1_6)) (k_b0 : kk K b0 = some (6, 0)) (K0 : (24 ≤ l3 → (GI mX6_write 78 [some (.ref b0), some (.ref b1), some (.ref b2), some (.int 0)] [] K x Q)) ∧ (¬ 24 ≤ l3 → (vp_in l3 n_b1_5 ∧ ((¬ (gi x b1_5 (l3 : Int32).toNatClampNeg) = 4 → (vp_in l3 n_b1_6 ∧ (mSV mX6_putLimit [.ref b0, .int l3, .int (gi x b1_5 (l3 : Int32).toNatClampNeg), .int (gi x b1_6 (l3 : Int32).toNatClampNeg)] K x (fun y_5 => GI mX6_write 27 [some (.ref b0), some (.ref b1), some (.ref b2), some (.int (l3 + 1))] [] K y_5 Q)))) ∧ ((gi x b1_5 (l3 : Int32).toNatClampNeg) = 4 → (vp_in l3 n_b1_6 ∧ (((gi x b1_6 (l3 : Int32).toNatClampNeg) = 4 → (GI mX6_write 27 [some (.ref b0), some (.ref b1), some (.ref b2), some (.int (l3 + 1))] [] K x Q)) ∧ (¬ (gi x b1_6 (l3 : Int32).toNatClampNeg) = 4 → (mSV mX6_putLimit [.ref b0, .int l3, .int (gi x b1_5 (l3 : Int32).toNatClampNeg), .int (gi x b1_6 (l3 : Int32).toNatClampNeg)] K x (fun y_8 => GI mX6_write 27 [some (.ref b0), some (.ref b1), some (.ref b2), some (.int (l3 + 1))] [] K y_8 Q)))))))))) : GI mX6_write 27 [some (.ref b0), some (.ref b1), some (.ref b2), some (.int l3)] [] K x Q := by
  show mGM mX6_write 27 [some (.ref b0), some (.ref b1), some (.ref b2), some (.int l3)] [] (hp K x) (PI K Q)
  refine r_iload_n (pc := 27) dX6_write_27 rfl ?_
  refine r_bipush (pc := 28) (v := 24) dX6_write_28 (by decide) ?_
  refine r_icmp_ge (pc := 30) (tgt := 76) dX6_write_30 (by decide) (fun q => ?_) (fun q => ?_)
  · have K0 := K0.1 q
    refine r_iconst (pc := 76) (v := 0) dX6_write_76 (by decide) ?_
    refine r_istore_n (pc := 77) dX6_write_77 (by decide) ?_
    exact r_le (L' := [some (.ref b0), some (.ref b1), some (.ref b2), some (.int 0)]) ⟨rfl, ⟨rfl, ⟨rfl, ⟨rfl, trivial⟩⟩⟩⟩ K0
  · have K0 := K0.2 q
    refine r_aload_n (pc := 33) dX6_write_33 rfl ?_
    refine s_getR (pc := 34) dX6_write_34 fl_X6_36 rfl k_b1 g_b1_5 ?_
    refine r_iload_n (pc := 37) dX6_write_37 rfl ?_
    obtain ⟨i_2, K0⟩ := K0
    refine s_iald (pc := 38) dX6_write_38 k_b1_5 i_2 ?_
    refine r_iconst (pc := 39) (v := 4) dX6_write_39 (by decide) ?_
    refine r_icmp_ne (pc := 40) (tgt := 53) dX6_write_40 (by decide) (fun q => ?_) (fun q => ?_)
    · have K0 := K0.1 q
      refine r_aload_n (pc := 53) dX6_write_53 rfl ?_
      refine r_iload_n (pc := 54) dX6_write_54 rfl ?_
      refine r_aload_n (pc := 55) dX6_write_55 rfl ?_
      refine s_getR (pc := 56) dX6_write_56 fl_X6_36 rfl k_b1 g_b1_5 ?_
      refine r_iload_n (pc := 59) dX6_write_59 rfl ?_
      refine s_iald (pc := 60) dX6_write_60 k_b1_5 i_2 ?_
      refine r_aload_n (pc := 61) dX6_write_61 rfl ?_
      refine s_getR (pc := 62) dX6_write_62 fl_X6_40 rfl k_b1 g_b1_6 ?_
      refine r_iload_n (pc := 65) dX6_write_65 rfl ?_
      obtain ⟨i_4, K0⟩ := K0
      refine s_iald (pc := 66) dX6_write_66 k_b1_6 i_4 ?_
      refine s_VV (pc := 67) mX6_putLimit (ci := 6) (a := b0) (As := [.int l3, .int (gi x b1_5 (l3 : Int32).toNatClampNeg), .int (gi x b1_6 (l3 : Int32).toNatClampNeg)]) dX6_write_67 lk_X6_43 in_X6_putLimit mo_X6_putLimit ⟨by decide, rfl⟩ ⟨by decide, by decide⟩ (Nat.le_of_ble_eq_true rfl) k_b0 (mSV_mono K0 (fun y_5 K0 => ?_))
      refine r_iinc (pc := 70) (v := l3 + 1) dX6_write_70 rfl rfl (by decide) ?_
      refine r_goto (pc := 73) (L := [some (.ref b0), some (.ref b1), some (.ref b2), some (.int (l3 + 1))]) (tgt := 27) dX6_write_73 (by decide) ?_
      exact r_le (L' := [some (.ref b0), some (.ref b1), some (.ref b2), some (.int (l3 + 1))]) ⟨rfl, ⟨rfl, ⟨rfl, ⟨rfl, trivial⟩⟩⟩⟩ K0
    · have K0 := K0.2 q
      refine r_aload_n (pc := 43) dX6_write_43 rfl ?_
      refine s_getR (pc := 44) dX6_write_44 fl_X6_40 rfl k_b1 g_b1_6 ?_
      refine r_iload_n (pc := 47) dX6_write_47 rfl ?_
      obtain ⟨i_6, K0⟩ := K0
      refine s_iald (pc := 48) dX6_write_48 k_b1_6 i_6 ?_
      refine r_iconst (pc := 49) (v := 4) dX6_write_49 (by decide) ?_
      refine r_icmp_eq (pc := 50) (tgt := 70) dX6_write_50 (by decide) (fun q => ?_) (fun q => ?_)
      · have K0 := K0.1 q
        refine r_iinc (pc := 70) (v := l3 + 1) dX6_write_70 rfl rfl (by decide) ?_
        refine r_goto (pc := 73) (L := [some (.ref b0), some (.ref b1), some (.ref b2), some (.int (l3 + 1))]) (tgt := 27) dX6_write_73 (by decide) ?_
        exact r_le (L' := [some (.ref b0), some (.ref b1), some (.ref b2), some (.int (l3 + 1))]) ⟨rfl, ⟨rfl, ⟨rfl, ⟨rfl, trivial⟩⟩⟩⟩ K0
      · have K0 := K0.2 q
        refine r_aload_n (pc := 53) dX6_write_53 rfl ?_
        refine r_iload_n (pc := 54) dX6_write_54 rfl ?_
        refine r_aload_n (pc := 55) dX6_write_55 rfl ?_
        refine s_getR (pc := 56) dX6_write_56 fl_X6_36 rfl k_b1 g_b1_5 ?_
        refine r_iload_n (pc := 59) dX6_write_59 rfl ?_
        refine s_iald (pc := 60) dX6_write_60 k_b1_5 i_2 ?_
        refine r_aload_n (pc := 61) dX6_write_61 rfl ?_
        refine s_getR (pc := 62) dX6_write_62 fl_X6_40 rfl k_b1 g_b1_6 ?_
        refine r_iload_n (pc := 65) dX6_write_65 rfl ?_
        refine s_iald (pc := 66) dX6_write_66 k_b1_6 i_6 ?_
        refine s_VV (pc := 67) mX6_putLimit (ci := 6) (a := b0) (As := [.int l3, .int (gi x b1_5 (l3 : Int32).toNatClampNeg), .int (gi x b1_6 (l3 : Int32).toNatClampNeg)]) dX6_write_67 lk_X6_43 in_X6_putLimit mo_X6_putLimit ⟨by decide, rfl⟩ ⟨by decide, by decide⟩ (Nat.le_of_ble_eq_true rfl) k_b0 (mSV_mono K0 (fun y_8 K0 => ?_))
        refine r_iinc (pc := 70) (v := l3 + 1) dX6_write_70 rfl rfl (by decide) ?_
        refine r_goto (pc := 73) (L := [some (.ref b0), some (.ref b1), some (.ref b2), some (.int (l3 + 1))]) (tgt := 27) dX6_write_73 (by decide) ?_
        exact r_le (L' := [some (.ref b0), some (.ref b1), some (.ref b2), some (.int (l3 + 1))]) ⟨rfl, ⟨rfl, ⟨rfl, ⟨rfl, trivial⟩⟩⟩⟩ K0
set_option maxHeartbeats 2000000 in
theorem v_X6_write_78 {K : Sh} {x : Cn} {Q : Int32 → Cn → Prop} {b0 : Nat} {b1 : Nat} {b2 : Nat} {l3 : Int32}  (k_b2 : kk K b2 = some (1, 0)) (k_b0 : kk K b0 = some (6, 0)) (K0 : ((gi x b2 0) ≤ l3 → (GI mX6_write 112 [some (.ref b0), some (.ref b1), some (.ref b2), some (.int 0)] [] K x Q)) ∧ (¬ (gi x b2 0) ≤ l3 → (mSV mX6_putWord [.ref b0, .ref (mSB + 4)] K x (fun y_2 => mSV mX6_putName [.ref b0, .ref b2, .int l3] K y_2 (fun y_3 => mSV mX6_putSign [.ref b0, .int 59] K y_3 (fun y_4 => GI mX6_write 78 [some (.ref b0), some (.ref b1), some (.ref b2), some (.int (l3 + 1))] [] K y_4 Q)))))) : GI mX6_write 78 [some (.ref b0), some (.ref b1), some (.ref b2), some (.int l3)] [] K x Q := by
  show mGM mX6_write 78 [some (.ref b0), some (.ref b1), some (.ref b2), some (.int l3)] [] (hp K x) (PI K Q)
  refine r_iload_n (pc := 78) dX6_write_78 rfl ?_
  refine r_aload_n (pc := 79) dX6_write_79 rfl ?_
  refine s_getI (pc := 80) dX6_write_80 fl_X6_47 rfl k_b2 ?_
  refine r_icmp_ge (pc := 83) (tgt := 110) dX6_write_83 (by decide) (fun q => ?_) (fun q => ?_)
  · have K0 := K0.1 q
    refine r_iconst (pc := 110) (v := 0) dX6_write_110 (by decide) ?_
    refine r_istore_n (pc := 111) dX6_write_111 (by decide) ?_
    exact r_le (L' := [some (.ref b0), some (.ref b1), some (.ref b2), some (.int 0)]) ⟨rfl, ⟨rfl, ⟨rfl, ⟨rfl, trivial⟩⟩⟩⟩ K0
  · have K0 := K0.2 q
    refine r_aload_n (pc := 86) dX6_write_86 rfl ?_
    refine r_ldcS (pc := 87) (j := 4) dX6_write_87 rfl ?_
    refine s_VV (pc := 89) mX6_putWord (ci := 6) (a := b0) (As := [.ref (mSB + 4)]) dX6_write_89 lk_X6_21 in_X6_putWord mo_X6_putWord ⟨by decide, rfl⟩ ⟨by decide, by decide⟩ (Nat.le_of_ble_eq_true rfl) k_b0 (mSV_mono K0 (fun y_2 K0 => ?_))
    refine r_aload_n (pc := 92) dX6_write_92 rfl ?_
    refine r_aload_n (pc := 93) dX6_write_93 rfl ?_
    refine r_iload_n (pc := 94) dX6_write_94 rfl ?_
    refine s_VV (pc := 95) mX6_putName (ci := 6) (a := b0) (As := [.ref b2, .int l3]) dX6_write_95 lk_X6_54 in_X6_putName mo_X6_putName ⟨by decide, rfl⟩ ⟨by decide, by decide⟩ (Nat.le_of_ble_eq_true rfl) k_b0 (mSV_mono K0 (fun y_3 K0 => ?_))
    refine r_aload_n (pc := 98) dX6_write_98 rfl ?_
    refine r_bipush (pc := 99) (v := 59) dX6_write_99 (by decide) ?_
    refine s_VV (pc := 101) mX6_putSign (ci := 6) (a := b0) (As := [.int 59]) dX6_write_101 lk_X6_32 in_X6_putSign mo_X6_putSign ⟨by decide, rfl⟩ ⟨by decide, by decide⟩ (Nat.le_of_ble_eq_true rfl) k_b0 (mSV_mono K0 (fun y_4 K0 => ?_))
    refine r_iinc (pc := 104) (v := l3 + 1) dX6_write_104 rfl rfl (by decide) ?_
    refine r_goto (pc := 107) (L := [some (.ref b0), some (.ref b1), some (.ref b2), some (.int (l3 + 1))]) (tgt := 78) dX6_write_107 (by decide) ?_
    exact r_le (L' := [some (.ref b0), some (.ref b1), some (.ref b2), some (.int (l3 + 1))]) ⟨rfl, ⟨rfl, ⟨rfl, ⟨rfl, trivial⟩⟩⟩⟩ K0
set_option maxHeartbeats 2000000 in
theorem v_X6_write_112 {K : Sh} {x : Cn} {Q : Int32 → Cn → Prop} {b0 : Nat} {b1 : Nat} {b2 : Nat} {l3 : Int32} {b1_7 : Nat} {n_b1_7 : Nat} (k_b1 : kk K b1 = some (4, 0)) (g_b1_7 : gr x b1 7 = some b1_7) (k_b1_7 : kk K b1_7 = some (23, n_b1_7)) (k_b0 : kk K b0 = some (6, 0)) (K0 : ((gi x b1 3) ≤ l3 → (GI mX6_write 139 [some (.ref b0), some (.ref b1), some (.ref b2), some (.int 0)] [] K x Q)) ∧ (¬ (gi x b1 3) ≤ l3 → (vp_in l3 n_b1_7 ∧ (∃ c_3 : Nat, gr x b1_7 ((l3 : Int32).toNatClampNeg) = some c_3 ∧ (mSV mX6_putSeries [.ref b0, .ref c_3, .ref b2] K x (fun y_5 => GI mX6_write 112 [some (.ref b0), some (.ref b1), some (.ref b2), some (.int (l3 + 1))] [] K y_5 Q)))))) : GI mX6_write 112 [some (.ref b0), some (.ref b1), some (.ref b2), some (.int l3)] [] K x Q := by
  show mGM mX6_write 112 [some (.ref b0), some (.ref b1), some (.ref b2), some (.int l3)] [] (hp K x) (PI K Q)
  refine r_iload_n (pc := 112) dX6_write_112 rfl ?_
  refine r_aload_n (pc := 113) dX6_write_113 rfl ?_
  refine s_getI (pc := 114) dX6_write_114 fl_X6_58 rfl k_b1 ?_
  refine r_icmp_ge (pc := 117) (tgt := 137) dX6_write_117 (by decide) (fun q => ?_) (fun q => ?_)
  · have K0 := K0.1 q
    refine r_iconst (pc := 137) (v := 0) dX6_write_137 (by decide) ?_
    refine r_istore_n (pc := 138) dX6_write_138 (by decide) ?_
    exact r_le (L' := [some (.ref b0), some (.ref b1), some (.ref b2), some (.int 0)]) ⟨rfl, ⟨rfl, ⟨rfl, ⟨rfl, trivial⟩⟩⟩⟩ K0
  · have K0 := K0.2 q
    refine r_aload_n (pc := 120) dX6_write_120 rfl ?_
    refine r_aload_n (pc := 121) dX6_write_121 rfl ?_
    refine s_getR (pc := 122) dX6_write_122 fl_X6_61 rfl k_b1 g_b1_7 ?_
    refine r_iload_n (pc := 125) dX6_write_125 rfl ?_
    obtain ⟨i_2, K0⟩ := K0
    obtain ⟨c_3, g_4, K0⟩ := K0
    refine s_aald (pc := 126) dX6_write_126 (by decide) rfl k_b1_7 i_2 g_4 ?_
    refine r_aload_n (pc := 127) dX6_write_127 rfl ?_
    refine s_VV (pc := 128) mX6_putSeries (ci := 6) (a := b0) (As := [.ref c_3, .ref b2]) dX6_write_128 lk_X6_65 in_X6_putSeries mo_X6_putSeries ⟨by decide, rfl⟩ ⟨by decide, by decide⟩ (Nat.le_of_ble_eq_true rfl) k_b0 (mSV_mono K0 (fun y_5 K0 => ?_))
    refine r_iinc (pc := 131) (v := l3 + 1) dX6_write_131 rfl rfl (by decide) ?_
    refine r_goto (pc := 134) (L := [some (.ref b0), some (.ref b1), some (.ref b2), some (.int (l3 + 1))]) (tgt := 112) dX6_write_134 (by decide) ?_
    exact r_le (L' := [some (.ref b0), some (.ref b1), some (.ref b2), some (.int (l3 + 1))]) ⟨rfl, ⟨rfl, ⟨rfl, ⟨rfl, trivial⟩⟩⟩⟩ K0
set_option maxHeartbeats 2000000 in
theorem v_X6_write_139 {K : Sh} {x : Cn} {Q : Int32 → Cn → Prop} {b0 : Nat} {b1 : Nat} {b2 : Nat} {l3 : Int32} {b1_8 : Nat} {n_b1_8 : Nat} (k_b1 : kk K b1 = some (4, 0)) (k_b0 : kk K b0 = some (6, 0)) (g_b1_8 : gr x b1 8 = some b1_8) (k_b1_8 : kk K b1_8 = some (24, n_b1_8)) (K0 : ((gi x b1 4) ≤ l3 → (Q (gi x b0 1) x)) ∧ (¬ (gi x b1 4) ≤ l3 → (vp_in l3 n_b1_8 ∧ (∃ c_3 : Nat, gr x b1_8 ((l3 : Int32).toNatClampNeg) = some c_3 ∧ (mSV mX6_putAsk [.ref b0, .ref c_3, .ref b2] K x (fun y_5 => GI mX6_write 139 [some (.ref b0), some (.ref b1), some (.ref b2), some (.int (l3 + 1))] [] K y_5 Q)))))) : GI mX6_write 139 [some (.ref b0), some (.ref b1), some (.ref b2), some (.int l3)] [] K x Q := by
  show mGM mX6_write 139 [some (.ref b0), some (.ref b1), some (.ref b2), some (.int l3)] [] (hp K x) (PI K Q)
  refine r_iload_n (pc := 139) dX6_write_139 rfl ?_
  refine r_aload_n (pc := 140) dX6_write_140 rfl ?_
  refine s_getI (pc := 141) dX6_write_141 fl_X6_69 rfl k_b1 ?_
  refine r_icmp_ge (pc := 144) (tgt := 164) dX6_write_144 (by decide) (fun q => ?_) (fun q => ?_)
  · have K0 := K0.1 q
    refine r_aload_n (pc := 164) dX6_write_164 rfl ?_
    refine s_getI (pc := 165) dX6_write_165 fl_X6_15 rfl k_b0 ?_
    exact s_iret rfl dX6_write_168 K0
  · have K0 := K0.2 q
    refine r_aload_n (pc := 147) dX6_write_147 rfl ?_
    refine r_aload_n (pc := 148) dX6_write_148 rfl ?_
    refine s_getR (pc := 149) dX6_write_149 fl_X6_72 rfl k_b1 g_b1_8 ?_
    refine r_iload_n (pc := 152) dX6_write_152 rfl ?_
    obtain ⟨i_2, K0⟩ := K0
    obtain ⟨c_3, g_4, K0⟩ := K0
    refine s_aald (pc := 153) dX6_write_153 (by decide) rfl k_b1_8 i_2 g_4 ?_
    refine r_aload_n (pc := 154) dX6_write_154 rfl ?_
    refine s_VV (pc := 155) mX6_putAsk (ci := 6) (a := b0) (As := [.ref c_3, .ref b2]) dX6_write_155 lk_X6_76 in_X6_putAsk mo_X6_putAsk ⟨by decide, rfl⟩ ⟨by decide, by decide⟩ (Nat.le_of_ble_eq_true rfl) k_b0 (mSV_mono K0 (fun y_5 K0 => ?_))
    refine r_iinc (pc := 158) (v := l3 + 1) dX6_write_158 rfl rfl (by decide) ?_
    refine r_goto (pc := 161) (L := [some (.ref b0), some (.ref b1), some (.ref b2), some (.int (l3 + 1))]) (tgt := 139) dX6_write_161 (by decide) ?_
    exact r_le (L' := [some (.ref b0), some (.ref b1), some (.ref b2), some (.int (l3 + 1))]) ⟨rfl, ⟨rfl, ⟨rfl, ⟨rfl, trivial⟩⟩⟩⟩ K0
section
theorem sp_X6_write {x : Cn} {Q : Int32 → Cn → Prop} {T : TT} {W C S A N : Nat} (cc : CRf x) (E : SEA x 2 T W C S A N) (nm : NMr x 56 T C) (k : ∀ y, WFr x y → WR y (tl4 T W C S A) 2346 → Q (nI (tl4 T W C S A).length) y) : mSI mX6_write [.ref 175, .ref 2, .ref 56] KW x Q := by
  have hn := E.nums
  have hW : W ≤ 30 := hn.2.2.2.2.1
  have hC : C ≤ 8 := hn.2.2.2.2.2.1
  have hS : S ≤ 24 := hn.2.2.2.2.2.2.1
  have hA : A ≤ 24 := hn.2.2.2.2.2.2.2.1
  have c := cc.c175
  have c2 : gr x 56 1 = some 57 := cc.2.2.2.2.2.2.2.1
  have kn : kk KW 56 = some (1, 0) := by decide
  have cg : ∀ y : Cn, WFr x y → gr y 175 0 = some 176 := fun y fy => by unfold gr; rw [fy.1]; exact c
  have cg2 : ∀ y : Cn, WFr x y → gr y 56 1 = some 57 := fun y fy => by unfold gr; rw [fy.1]; exact c2
  have Eg : ∀ y : Cn, WFr x y → SEA y 2 T W C S A N := fun y fy => E.keep fy.1 (fun a j a1 a2 _ => fy.2 a j (by omega) (by omega))
  have ng : ∀ y : Cn, WFr x y → NMr y 56 T C := fun y fy => nm.keep (fy.2 56 0 (by decide) (by omega)) (fun i => fy.2 57 i (by decide) (by omega)) (fun _ _ => rfl)
  have l4 : ∀ y, WFr x y → WR y (tl3 T W C S) 1482 → bl (tl3 T W C S) = [] → GI mX6_write 139 [some (.ref 175), some (.ref 2), some (.ref 56), some (.int 0)] [] KW y Q := by
    intro y fy wy hb
    refine lp_acc (fun a l => l ++ askS T a) (fun a l => bl l = [] → ∀ z, WFr x z → WR z l (1482 + 36 * a) → GI mX6_write 139 [some (.ref 175), some (.ref 2), some (.ref 56), some (.int (nI a))] [] KW z Q) A (tl3 T W C S) ?_ (fun a l ha n1 => ?_) hb y fy wy
    · intro _ z fz wz
      refine v_X6_write_139 (ks0 E.1) k175 (Eg z fz).2.1.2.2.2.1 (ks4 E.1) ⟨fun _ => ?_, fun u => absurd (by rw [(Eg z fz).nums.2.2.2.1]; exact Int32.le_refl _) u⟩
      rw [wz.1]
      exact k z fz (wz.le (by omega))
    · intro hb z fz wz
      have Ez := Eg z fz
      obtain ⟨p, e1, e2, e3, ⟨⟨cr, hc, ec⟩, ⟨d, hd, ed⟩, ⟨h, hh, eh⟩, -, ⟨f, t, f1, f2, f3, f4⟩, ⟨b, hb9, eb⟩⟩⟩ := Ez.ask ha
      obtain ⟨j, hj, ej⟩ := Ez.2.1.2.2.2.2.2.2.2.1 a (by omega)
      have ep : p = 2 + 30 + j := Option.some.inj (e1.symm.trans ej)
      obtain ⟨v, ⟨hv0, hv1⟩, hv2, hv3⟩ := (ng z fz).2 cr hc
      refine v_X6_write_139 (ks0 E.1) k175 Ez.2.1.2.2.2.1 (ks4 E.1) ⟨fun u => absurd (by rw [Ez.nums.2.2.2.1] at u; exact u) (nI_ge ha (by omega)), fun _ => ⟨vp_in_nI (by omega) (by decide), p, by rw [nI_clamp (by omega)]; exact e1, ?_⟩⟩
      rw [nI_1]
      have ea : askS T a = askP v d h (ao T a 3) f t b := by
        unfold askS nmv
        rw [ec, ed, eh, f3, f4, eb, nI_clamp (by omega), nI_clamp (by omega), nI_clamp (by omega), nI_clamp (by omega), nI_clamp (by omega), nI_clamp (by omega), hv2, nI_clamp (by omega)]
      refine sp_X6_putAsk (by omega) e2 ((e3 0 (by decide)).trans ec) ((e3 1 (by decide)).trans ed) ((e3 2 (by decide)).trans eh) (e3 3 (by decide)) ((e3 4 (by decide)).trans f3) ((e3 5 (by decide)).trans f4) ((e3 6 (by decide)).trans eb) hb9 (by omega) hv0 hv1 hv3 hd (by omega) (by omega) (by omega) (cg z fz) (cg2 z fz) hb wz (by omega) (fun y2 f2' w2 => n1 _ rfl ?_ y2 (fz.tr f2') ?_)
      · rw [ea]; unfold askP; exact bl_e _ _
      · rw [ea]; exact w2.le (by omega)
  have l3 : ∀ y, WFr x y → WR y (tl2 T W C) 594 → bl (tl2 T W C) = [] → GI mX6_write 112 [some (.ref 175), some (.ref 2), some (.ref 56), some (.int 0)] [] KW y Q := by
    intro y fy wy hb
    refine lp_acc (fun s l => l ++ serT T s) (fun s l => bl l = [] → ∀ z, WFr x z → WR z l (594 + 37 * s) → GI mX6_write 112 [some (.ref 175), some (.ref 2), some (.ref 56), some (.int (nI s))] [] KW z Q) S (tl2 T W C) ?_ (fun s l hs n1 => ?_) hb y fy wy
    · intro hb z fz wz
      exact v_X6_write_112 (ks0 E.1) (Eg z fz).2.1.2.2.1 (ks3 E.1) k175 ⟨fun _ => l4 z fz (wz.le (by omega)) hb, fun u => absurd (by rw [(Eg z fz).nums.2.2.1]; exact Int32.le_refl _) u⟩
    · intro hb z fz wz
      have Ez := Eg z fz
      obtain ⟨p, e1, e2, e3, -, -, ⟨⟨cr, hc, ec⟩, ⟨d, hd, ed⟩, ⟨h, hh, eh⟩, -, o4, ⟨f, t, f1, f2, f3, f4⟩, -⟩⟩ := Ez.ser hs
      obtain ⟨j, hj, ej⟩ := Ez.2.1.2.2.2.2.2.1 s (by omega)
      have ep : p = 2 + 6 + j := Option.some.inj (e1.symm.trans ej)
      obtain ⟨v, ⟨hv0, hv1⟩, hv2, hv3⟩ := (ng z fz).2 cr hc
      refine v_X6_write_112 (ks0 E.1) Ez.2.1.2.2.1 (ks3 E.1) k175 ⟨fun u => absurd (by rw [Ez.nums.2.2.1] at u; exact u) (nI_ge hs (by omega)), fun _ => ⟨vp_in_nI (by omega) (by decide), p, by rw [nI_clamp (by omega)]; exact e1, ?_⟩⟩
      rw [nI_1]
      have es : serT T s = serP v d h (so T s 3) f t (so T s 4) := by
        unfold serT nmv
        rw [ec, ed, eh, f3, f4, nI_clamp (by omega), nI_clamp (by omega), nI_clamp (by omega), nI_clamp (by omega), nI_clamp (by omega), hv2, nI_clamp (by omega)]
      refine sp_X6_putSeries (by omega) e2 ((e3.1 0 (by decide) (by decide)).trans ec) ((e3.1 1 (by decide) (by decide)).trans ed) ((e3.1 2 (by decide) (by decide)).trans eh) (e3.1 3 (by decide) (by decide)) (e3.1 4 (by decide) (by decide)) ((e3.1 5 (by decide) (by decide)).trans f3) ((e3.1 6 (by decide) (by decide)).trans f4) o4 (by omega) hv0 hv1 hv3 hd (by omega) (by omega) (by omega) (cg z fz) (cg2 z fz) hb wz (by omega) (fun y2 f2' w2 => n1 _ rfl ?_ y2 (fz.tr f2') ?_)
      · rw [es]; exact ser_e _ _ _ _ _ _ _ _
      · rw [es]; exact w2.le (by omega)
  have l2 : ∀ y, WFr x y → WR y (tl1 T W) 466 → bl (tl1 T W) = [] → GI mX6_write 78 [some (.ref 175), some (.ref 2), some (.ref 56), some (.int 0)] [] KW y Q := by
    intro y fy wy hb
    refine lp_acc (fun c l => l ++ carP (nmv T c)) (fun cr l => bl l = [] → ∀ z, WFr x z → WR z l (466 + 16 * cr) → GI mX6_write 78 [some (.ref 175), some (.ref 2), some (.ref 56), some (.int (nI cr))] [] KW z Q) C (tl1 T W) ?_ (fun cr l hc n1 => ?_) hb y fy wy
    · intro hb z fz wz
      exact v_X6_write_78 kn k175 ⟨fun _ => l3 z fz (wz.le (by omega)) hb, fun u => absurd (by rw [(ng z fz).1]; exact Int32.le_refl _) u⟩
    · intro hb z fz wz
      obtain ⟨v, ⟨hv0, hv1⟩, hv2, hv3⟩ := (ng z fz).2 cr hc
      refine v_X6_write_78 kn k175 ⟨fun u => absurd (by rw [(ng z fz).1] at u; exact u) (nI_ge hc (by omega)), fun _ => ?_⟩
      rw [nI_1]
      refine sp_X6_putWord (j := 4) (m := 7) (mSq_at (by decide)) (by decide) (cg z fz) wz (by omega) (fun y1 f1 w1 => ?_)
      rw [hb, List.append_nil] at w1
      refine sp_X6_putName (v := v) (by omega) (fun i hi => by rw [f1.2 57 _ (by decide) (by omega)]; exact hv3 i hi) (cg y1 (fz.tr f1)) (cg2 y1 (fz.tr f1)) w1 (by omega) (fun y2 f2 w2 => ?_)
      rw [bl_wd _ (by decide) (by decide) (by decide)] at w2
      have ec : nmv T cr = v := by
        unfold nmv
        rw [hv2, nI_clamp (by omega)]
      refine sp_X6_putSign (n := 59) (by decide) (cg y2 (fz.tr (f1.tr f2))) w2 (by omega) (fun y3 f3 w3 => n1 _ rfl ?_ y3 (fz.tr (f1.tr (f2.tr f3))) ?_)
      · rw [ec]; unfold carP; exact bl_e _ _
      · have e : l ++ wq (mSq 4) ++ [32] ++ nmL v ++ [59] = l ++ carP (nmv T cr) := by
          rw [ec]
          simp only [carP, wd_30, List.append_assoc]
        rw [e] at w3
        exact w3.le (by omega)
  have l1 : ∀ y, WFr x y → WR y (tl0 W) 10 → GI mX6_write 27 [some (.ref 175), some (.ref 2), some (.ref 56), some (.int 0)] [] KW y Q := by
    intro y fy wy
    refine lp_acc (fun h l => l ++ limT T h) (fun h l => bl l = [] → ∀ z, WFr x z → WR z l (10 + 19 * h) → GI mX6_write 27 [some (.ref 175), some (.ref 2), some (.ref 56), some (.int (nI h))] [] KW z Q) 24 (tl0 W) ?_ (fun h l hh n1 => ?_) (by unfold tl0; exact bl_1 _ (by decide)) y fy wy
    · intro hb z fz wz
      exact v_X6_write_27 (ks0 E.1) (Eg z fz).2.1.1 (ks1 E.1) (Eg z fz).2.1.2.1 (ks2 E.1) k175 ⟨fun _ => l2 z fz wz hb, fun u => absurd (Int32.le_refl _) u⟩
    · intro hb z fz wz
      have Ez := Eg z fz
      have v5 := Ez.2.2.1.2.2.2.2.2.1 h hh
      have g1 : gi z 3 h = T (6 + 2 * h) := v5.1
      have g2 : gi z 4 h = T (7 + 2 * h) := v5.2
      obtain ⟨a, b, ha, hb', ea, eb⟩ := E.2.2.2.2.2.2.2.2.2.2.2.2.2.2.1 h hh
      have put : ¬ (T (6 + 2 * h) = 4 ∧ T (7 + 2 * h) = 4) → mSV mX6_putLimit [.ref 175, .int (nI h), .int (T (6 + 2 * h)), .int (T (7 + 2 * h))] KW z (fun y_5 => GI mX6_write 27 [some (.ref 175), some (.ref 2), some (.ref 56), some (.int (nI (h + 1)))] [] KW y_5 Q) := by
        intro hne
        have el : limT T h = limP h a b := by
          unfold limT
          rw [if_neg hne, ea, eb, nI_clamp (by omega), nI_clamp (by omega)]
        rw [ea, eb]
        refine sp_X6_putLimit (by omega) (by omega) (by omega) (cg z fz) hb wz (by omega) (fun y2 f2 w2 => n1 _ rfl ?_ y2 (fz.tr f2) ?_)
        · rw [el]; unfold limP; exact bl_e _ _
        · rw [el]; exact w2.le (by omega)
      refine v_X6_write_27 (ks0 E.1) Ez.2.1.1 (ks1 E.1) Ez.2.1.2.1 (ks2 E.1) k175 ⟨fun u => absurd u (nI_ge (b := 24) hh (by decide)), fun _ => ⟨vp_in_nI hh (by decide), ?_⟩⟩
      rw [nI_clamp (by omega), nI_1, g1, g2]
      refine ⟨fun u => ⟨vp_in_nI hh (by decide), put (fun g => u g.1)⟩, fun u => ⟨vp_in_nI hh (by decide), fun u2 => ?_, fun u2 => put (fun g => u2 g.2)⟩⟩
      have el : limT T h = [] := by
        unfold limT
        rw [if_pos ⟨u, u2⟩]
      refine n1 l (by rw [el, List.append_nil]) hb z fz (wz.le (by omega))
  have w0 : WR (ui x 175 1 0) [] 0 := ⟨by rw [gi_ui, if_pos ⟨rfl, rfl⟩]; rfl, fun i hi => absurd hi (Nat.not_lt_zero _), Nat.le_refl _⟩
  have f0 : WFr x (ui x 175 1 0) := ⟨rfl, fun a j a1 a2 => by rw [gi_ui, if_neg a2]⟩
  refine v_X6_write_0 k175 (ks0 E.1) (sp_X6_putWord (j := 1) (m := 5) (mSq_at (by decide)) (by decide) (cg _ f0) w0 (by omega) (fun y1 f1 w1 => ?_))
  rw [show gi y1 2 0 = nI W by rw [f1.2 2 0 (by decide) (by omega), f0.2 2 0 (by decide) (by omega)]; exact hn.1]
  refine sp_X6_putNumber (by omega) (cg _ (f0.tr f1)) w1 (by omega) (fun y2 f2 w2 => sp_X6_putSign (n := 59) (by decide) (cg _ (f0.tr (f1.tr f2))) w2 (by omega) (fun y3 f3 w3 => l1 y3 (f0.tr (f1.tr (f2.tr f3))) ?_))
  have e : [] ++ bl [] ++ wq (mSq 1) ++ bl ([] ++ bl [] ++ wq (mSq 1)) ++ numL W ++ [59] = tl0 W := by
    rw [bl_wd _ (by decide) (by decide) (by decide), show bl [] = [] from by decide]
    simp only [tl0, wd_27, List.append_assoc, List.nil_append]
  rw [e] at w3
  exact w3.le (by omega)

end

def bv (v : Int32) (s : Nat) : Int32 := ((v >>> (nI s &&& 31)).toInt8.toInt32).toInt8.toInt32
theorem i8_rt (a : Int8) : a.toInt32.toInt8 = a := by simp
theorem sh8 (v : Int32) {s : Nat} (hs : s < 25) : ((v.toUInt32 >>> ((nI s).toUInt32 &&& Int32.toUInt32 31)).toInt32).toInt8 = (v >>> (nI s &&& 31)).toInt8 := by
  apply Int8.toBitVec_inj.mp
  have e1 := sh_amt s (by omega)
  have e2 := sh_amt2 s (by omega)
  rw [Int32.toBitVec_toInt8, Int32.toBitVec_toInt8, UInt32.toBitVec_toInt32, UInt32.toBitVec_shiftRight, Int32.toBitVec_shiftRight, BitVec.sshiftRight_eq', BitVec.ushiftRight_eq', e1, e2]
  apply BitVec.eq_of_getLsbD_eq
  intro i hi
  rw [BitVec.getLsbD_signExtend, BitVec.getLsbD_signExtend, if_pos (by omega), if_pos (by omega), BitVec.getLsbD_ushiftRight, BitVec.getLsbD_sshiftRight, if_pos (by omega), decide_eq_false (show ¬ 32 ≤ i by omega)]
  rfl
theorem bv_is (v : Int32) (s : Nat) : isB (bv v s) := by
  unfold isB bv
  rw [i8_rt]
theorem k1t : kk KW 1 = some (21, 1200) := by decide
theorem km720 : kk KW 720 = some (21, 1200) := by decide
/-- four bytes more -/
def uB (b : TT) (n : Nat) (v : Int32) : TT := fun i => if n ≤ i ∧ i < n + 4 then bv v (24 - 8 * (i - n)) else b i
def CT (y : Cn) (b : TT) (m : Nat) : Prop := gi y 0 1 = nI m ∧ ∀ i, i < m → gi y 1 i = b i
def RT (y : Cn) (b : TT) (m : Nat) : Prop := gi y 717 5 = nI m ∧ ∀ i, i < m → gi y 720 i = b i
def CTf (x y : Cn) : Prop := y.2 = x.2 ∧ ∀ a k, a ≠ 1 → ¬ (a = 0 ∧ k = 1) → gi y a k = gi x a k
def RTf (x y : Cn) : Prop := y.2 = x.2 ∧ ∀ a k, a ≠ 720 → ¬ (a = 717 ∧ k = 5) → gi y a k = gi x a k
theorem CTf.rf (x : Cn) : CTf x x := ⟨rfl, fun _ _ _ _ => rfl⟩
theorem RTf.rf (x : Cn) : RTf x x := ⟨rfl, fun _ _ _ _ => rfl⟩
theorem CTf.tr {x y z : Cn} (h : CTf x y) (g : CTf y z) : CTf x z := ⟨g.1.trans h.1, fun a k a1 a2 => (g.2 a k a1 a2).trans (h.2 a k a1 a2)⟩
theorem RTf.tr {x y z : Cn} (h : RTf x y) (g : RTf y z) : RTf x z := ⟨g.1.trans h.1, fun a k a1 a2 => (g.2 a k a1 a2).trans (h.2 a k a1 a2)⟩
theorem nm8 (s : Nat) (h : 8 ≤ s) : nI s + (-8) = nI (s - 8) := by
  rw [show nI s + (-8) = nI s - nI 8 from (Int32.sub_eq_add_neg _ _).symm]
  exact pk_sub h
set_option maxHeartbeats 2000000 in
theorem v_X7_putOnTape_0 {K : Sh} {x : Cn} {Q : Cn → Prop} {b0 : Nat} {l1 : Int32}   (K0 : GV mX7_putOnTape 3 [some (.ref b0), some (.int l1), some (.int 24)] [] K x Q) : mSV mX7_putOnTape [.ref b0, .int l1] K x Q := by
  refine s_V (by decide) (by simp [Value.category]) (Nat.le_of_ble_eq_true rfl) ?_
  show mGM mX7_putOnTape 0 [some (.ref b0), some (.int l1), none] [] (hp K x) (PV K Q)
  refine r_bipush (pc := 0) (v := 24) dX7_putOnTape_0 (by decide) ?_
  refine r_istore_n (pc := 2) dX7_putOnTape_2 (by decide) ?_
  exact r_le (L' := [some (.ref b0), some (.int l1), some (.int 24)]) ⟨rfl, ⟨rfl, ⟨rfl, trivial⟩⟩⟩ K0
set_option maxHeartbeats 2000000 in
theorem v_X7_putOnTape_3 {K : Sh} {x : Cn} {Q : Cn → Prop} {b0 : Nat} {l1 : Int32} {l2 : Int32} {b0_0 : Nat} {n_b0_0 : Nat} (k_b0 : kk K b0 = some (7, 0)) (g_b0_0 : gr x b0 0 = some b0_0) (k_b0_0 : kk K b0_0 = some (21, n_b0_0)) (K0 : (l2 < 0 → (Q x)) ∧ (¬ l2 < 0 → ((1200 ≤ (gi x b0 1) → (GV mX7_putOnTape 3 [some (.ref b0), some (.int l1), some (.int (l2 + (-8)))] [] K x Q)) ∧ (¬ 1200 ≤ (gi x b0 1) → (vp_in (gi x b0 1) n_b0_0 ∧ (∀ r_4 : Int32, r_4 = gi (ui x b0_0 ((gi x b0 1) : Int32).toNatClampNeg (((((l1 : Int32).toUInt32 >>> ((l2 : Int32).toUInt32 &&& Int32.toUInt32 31)).toInt32 : Int32).toInt8.toInt32 : Int32).toInt8.toInt32)) b0 1 → (GV mX7_putOnTape 3 [some (.ref b0), some (.int l1), some (.int (l2 + (-8)))] [] K (ui (ui x b0_0 ((gi x b0 1) : Int32).toNatClampNeg (((((l1 : Int32).toUInt32 >>> ((l2 : Int32).toUInt32 &&& Int32.toUInt32 31)).toInt32 : Int32).toInt8.toInt32 : Int32).toInt8.toInt32)) b0 1 (r_4 + 1)) Q))))))) : GV mX7_putOnTape 3 [some (.ref b0), some (.int l1), some (.int l2)] [] K x Q := by
  show mGM mX7_putOnTape 3 [some (.ref b0), some (.int l1), some (.int l2)] [] (hp K x) (PV K Q)
  refine r_iload_n (pc := 3) dX7_putOnTape_3 rfl ?_
  refine r_if_lt (pc := 4) (tgt := 46) dX7_putOnTape_4 (by decide) (fun q => ?_) (fun q => ?_)
  · have K0 := K0.1 q
    exact s_ret rfl dX7_putOnTape_46 K0
  · have K0 := K0.2 q
    refine r_aload_n (pc := 7) dX7_putOnTape_7 rfl ?_
    refine s_getI (pc := 8) dX7_putOnTape_8 fl_X7_13 rfl k_b0 ?_
    refine r_sipush (pc := 11) (v := 1200) dX7_putOnTape_11 (by decide) ?_
    refine r_icmp_ge (pc := 14) (tgt := 40) dX7_putOnTape_14 (by decide) (fun q => ?_) (fun q => ?_)
    · have K0 := K0.1 q
      refine r_iinc (pc := 40) (v := l2 + (-8)) dX7_putOnTape_40 rfl rfl (by decide) ?_
      refine r_goto (pc := 43) (L := [some (.ref b0), some (.int l1), some (.int (l2 + (-8)))]) (tgt := 3) dX7_putOnTape_43 (by decide) ?_
      exact r_le (L' := [some (.ref b0), some (.int l1), some (.int (l2 + (-8)))]) ⟨rfl, ⟨rfl, ⟨rfl, trivial⟩⟩⟩ K0
    · have K0 := K0.2 q
      refine r_aload_n (pc := 17) dX7_putOnTape_17 rfl ?_
      refine s_getR (pc := 18) dX7_putOnTape_18 fl_X7_9 rfl k_b0 g_b0_0 ?_
      refine r_aload_n (pc := 21) dX7_putOnTape_21 rfl ?_
      refine s_getI (pc := 22) dX7_putOnTape_22 fl_X7_13 rfl k_b0 ?_
      refine r_iload_n (pc := 25) dX7_putOnTape_25 rfl ?_
      refine r_iload_n (pc := 26) dX7_putOnTape_26 rfl ?_
      refine r_iushr (pc := 27) dX7_putOnTape_27 ?_
      refine r_i2b (pc := 28) dX7_putOnTape_28 ?_
      obtain ⟨i_3, K0⟩ := K0
      refine s_bast (pc := 29) dX7_putOnTape_29 k_b0_0 i_3 ?_
      refine r_aload_n (pc := 30) dX7_putOnTape_30 rfl ?_
      refine r_dup (pc := 31) dX7_putOnTape_31 rfl ?_
      refine s_getI (pc := 32) dX7_putOnTape_32 fl_X7_13 rfl k_b0 ?_
      obtain ⟨r_4, w_5⟩ : ∃ z : Int32, z = gi (ui x b0_0 ((gi x b0 1) : Int32).toNatClampNeg (((((l1 : Int32).toUInt32 >>> ((l2 : Int32).toUInt32 &&& Int32.toUInt32 31)).toInt32 : Int32).toInt8.toInt32 : Int32).toInt8.toInt32)) b0 1 := ⟨_, rfl⟩
      rw [← w_5]
      have K0 := K0 r_4 w_5
      refine r_iconst (pc := 35) (v := 1) dX7_putOnTape_35 (by decide) ?_
      refine r_iadd (pc := 36) dX7_putOnTape_36 ?_
      refine s_putI (pc := 37) dX7_putOnTape_37 fl_X7_13 rfl rfl k_b0 ?_
      refine r_iinc (pc := 40) (v := l2 + (-8)) dX7_putOnTape_40 rfl rfl (by decide) ?_
      refine r_goto (pc := 43) (L := [some (.ref b0), some (.int l1), some (.int (l2 + (-8)))]) (tgt := 3) dX7_putOnTape_43 (by decide) ?_
      exact r_le (L' := [some (.ref b0), some (.int l1), some (.int (l2 + (-8)))]) ⟨rfl, ⟨rfl, ⟨rfl, trivial⟩⟩⟩ K0
section
theorem sp_X7_putOnTape {x : Cn} {Q : Cn → Prop} {b : TT} {m : Nat} {v : Int32} (c : gr x 0 0 = some 1) (t : CT x b m) (hm : m + 4 ≤ 1200) (k : ∀ y, CTf x y → CT y (uB b m v) (m + 4) → Q y) : mSV mX7_putOnTape [.ref 0, .int v] KW x Q := by
  have key : ∀ r j y, j + r = 4 → CTf x y → CT y (fun i => if m ≤ i ∧ i < m + j then bv v (24 - 8 * (i - m)) else b i) (m + j) → GV mX7_putOnTape 3 [some (.ref 0), some (.int v), some (.int (if j = 4 then (-8) else nI (24 - 8 * j)))] [] KW y Q := by
    intro r
    induction r with
    | zero =>
      intro j y hj fy ty
      have : j = 4 := by omega
      subst this
      have cy : gr y 0 0 = some 1 := by unfold gr; rw [fy.1]; exact c
      exact v_X7_putOnTape_3 k0 cy k1t ⟨fun _ => k y fy ty, fun z => absurd (by decide) z⟩
    | succ r ih =>
      intro j y hj fy ty
      have cy : gr y 0 0 = some 1 := by unfold gr; rw [fy.1]; exact c
      rw [if_neg (by omega)]
      refine v_X7_putOnTape_3 k0 cy k1t ⟨fun z => absurd z (nI_pos (by omega)), fun _ => ⟨fun z => absurd (by rw [ty.1] at z; exact z) (nI_ge (b := 1200) (by omega) (by decide)), fun _ => ?_⟩⟩
      rw [ty.1, nI_clamp (by omega), sh8 v (by omega)]
      refine ⟨vp_in_nI (by omega) (by decide), fun q hq => ?_⟩
      have eq : q = nI (m + j) := by rw [hq, gi_ui, if_neg (by omega)]; exact ty.1
      rw [eq, nI_1]
      have e8 : nI (24 - 8 * j) + (-8) = (if j + 1 = 4 then (-8) else nI (24 - 8 * (j + 1))) := by
        by_cases c4 : j + 1 = 4
        · rw [if_pos c4, show j = 3 by omega]; decide
        · rw [if_neg c4, nm8 _ (by omega)]
          congr 1
      rw [e8]
      refine ih (j + 1) _ (by omega) ⟨fy.1, fun a i a1 a2 => by rw [gi_ui, if_neg a2, gi_ui, if_neg (fun u => a1 u.1)]; exact fy.2 a i a1 a2⟩ ⟨by rw [gi_ui, if_pos ⟨rfl, rfl⟩]; rfl, fun i hi => ?_⟩
      rw [gi_ui, if_neg (by omega), gi_ui]
      show _ = if m ≤ i ∧ i < m + (j + 1) then bv v (24 - 8 * (i - m)) else b i
      by_cases c1 : i = m + j
      · rw [if_pos ⟨rfl, c1⟩, if_pos (by omega), c1, show m + j - m = j by omega]
        rfl
      · rw [if_neg (fun u => c1 u.2), ty.2 i (by omega)]
        show (if m ≤ i ∧ i < m + j then bv v (24 - 8 * (i - m)) else b i) = _
        by_cases c2 : m ≤ i ∧ i < m + j
        · rw [if_pos c2, if_pos (by omega)]
        · rw [if_neg c2, if_neg (by omega)]
  have e0 : (fun i => if m ≤ i ∧ i < m + 0 then bv v (24 - 8 * (i - m)) else b i) = b := by
    funext i
    rw [if_neg (by omega)]
  exact v_X7_putOnTape_0 (key 4 0 x (by omega) (CTf.rf x) (by rw [e0]; exact t))
end
set_option maxHeartbeats 2000000 in
theorem v_X8_puts4_0 {K : Sh} {x : Cn} {Q : Cn → Prop} {b0 : Nat} {l1 : Int32}   (K0 : GV mX8_puts4 3 [some (.ref b0), some (.int l1), some (.int 24)] [] K x Q) : mSV mX8_puts4 [.ref b0, .int l1] K x Q := by
  refine s_V (by decide) (by simp [Value.category]) (Nat.le_of_ble_eq_true rfl) ?_
  show mGM mX8_puts4 0 [some (.ref b0), some (.int l1), none] [] (hp K x) (PV K Q)
  refine r_bipush (pc := 0) (v := 24) dX8_puts4_0 (by decide) ?_
  refine r_istore_n (pc := 2) dX8_puts4_2 (by decide) ?_
  exact r_le (L' := [some (.ref b0), some (.int l1), some (.int 24)]) ⟨rfl, ⟨rfl, ⟨rfl, trivial⟩⟩⟩ K0
set_option maxHeartbeats 2000000 in
theorem v_X8_puts4_3 {K : Sh} {x : Cn} {Q : Cn → Prop} {b0 : Nat} {l1 : Int32} {l2 : Int32} {b0_4 : Nat} {n_b0_4 : Nat} (k_b0 : kk K b0 = some (8, 0)) (g_b0_4 : gr x b0 4 = some b0_4) (k_b0_4 : kk K b0_4 = some (21, n_b0_4)) (K0 : (l2 < 0 → (Q x)) ∧ (¬ l2 < 0 → (vp_in (gi x b0 5) n_b0_4 ∧ (∀ r_3 : Int32, r_3 = gi (ui x b0_4 ((gi x b0 5) : Int32).toNatClampNeg ((((l1 >>> (l2 &&& 31)) : Int32).toInt8.toInt32 : Int32).toInt8.toInt32)) b0 5 → (GV mX8_puts4 3 [some (.ref b0), some (.int l1), some (.int (l2 + (-8)))] [] K (ui (ui x b0_4 ((gi x b0 5) : Int32).toNatClampNeg ((((l1 >>> (l2 &&& 31)) : Int32).toInt8.toInt32 : Int32).toInt8.toInt32)) b0 5 (r_3 + 1)) Q))))) : GV mX8_puts4 3 [some (.ref b0), some (.int l1), some (.int l2)] [] K x Q := by
  show mGM mX8_puts4 3 [some (.ref b0), some (.int l1), some (.int l2)] [] (hp K x) (PV K Q)
  refine r_iload_n (pc := 3) dX8_puts4_3 rfl ?_
  refine r_if_lt (pc := 4) (tgt := 36) dX8_puts4_4 (by decide) (fun q => ?_) (fun q => ?_)
  · have K0 := K0.1 q
    exact s_ret rfl dX8_puts4_36 K0
  · have K0 := K0.2 q
    refine r_aload_n (pc := 7) dX8_puts4_7 rfl ?_
    refine s_getR (pc := 8) dX8_puts4_8 fl_X8_19 rfl k_b0 g_b0_4 ?_
    refine r_aload_n (pc := 11) dX8_puts4_11 rfl ?_
    refine s_getI (pc := 12) dX8_puts4_12 fl_X8_94 rfl k_b0 ?_
    refine r_iload_n (pc := 15) dX8_puts4_15 rfl ?_
    refine r_iload_n (pc := 16) dX8_puts4_16 rfl ?_
    refine r_ishr (pc := 17) dX8_puts4_17 ?_
    refine r_i2b (pc := 18) dX8_puts4_18 ?_
    obtain ⟨i_2, K0⟩ := K0
    refine s_bast (pc := 19) dX8_puts4_19 k_b0_4 i_2 ?_
    refine r_aload_n (pc := 20) dX8_puts4_20 rfl ?_
    refine r_dup (pc := 21) dX8_puts4_21 rfl ?_
    refine s_getI (pc := 22) dX8_puts4_22 fl_X8_94 rfl k_b0 ?_
    obtain ⟨r_3, w_4⟩ : ∃ z : Int32, z = gi (ui x b0_4 ((gi x b0 5) : Int32).toNatClampNeg ((((l1 >>> (l2 &&& 31)) : Int32).toInt8.toInt32 : Int32).toInt8.toInt32)) b0 5 := ⟨_, rfl⟩
    rw [← w_4]
    have K0 := K0 r_3 w_4
    refine r_iconst (pc := 25) (v := 1) dX8_puts4_25 (by decide) ?_
    refine r_iadd (pc := 26) dX8_puts4_26 ?_
    refine s_putI (pc := 27) dX8_puts4_27 fl_X8_94 rfl rfl k_b0 ?_
    refine r_iinc (pc := 30) (v := l2 + (-8)) dX8_puts4_30 rfl rfl (by decide) ?_
    refine r_goto (pc := 33) (L := [some (.ref b0), some (.int l1), some (.int (l2 + (-8)))]) (tgt := 3) dX8_puts4_33 (by decide) ?_
    exact r_le (L' := [some (.ref b0), some (.int l1), some (.int (l2 + (-8)))]) ⟨rfl, ⟨rfl, ⟨rfl, trivial⟩⟩⟩ K0
section
theorem sp_X8_puts4 {x : Cn} {Q : Cn → Prop} {b : TT} {m : Nat} {v : Int32} (M : MRf x 718) (t : RT x b m) (hm : m + 4 ≤ 1200) (k : ∀ y, RTf x y → RT y (uB b m v) (m + 4) → Q y) : mSV mX8_puts4 [.ref 717, .int v] KW x Q := by
  have key : ∀ r j y, j + r = 4 → RTf x y → RT y (fun i => if m ≤ i ∧ i < m + j then bv v (24 - 8 * (i - m)) else b i) (m + j) → GV mX8_puts4 3 [some (.ref 717), some (.int v), some (.int (if j = 4 then (-8) else nI (24 - 8 * j)))] [] KW y Q := by
    intro r
    induction r with
    | zero =>
      intro j y hj fy ty
      have : j = 4 := by omega
      subst this
      exact v_X8_puts4_3 km (M.keep fy.1).2.2.2.1 km720 ⟨fun _ => k y fy ty, fun z => absurd (by decide) z⟩
    | succ r ih =>
      intro j y hj fy ty
      rw [if_neg (by omega)]
      refine v_X8_puts4_3 km (M.keep fy.1).2.2.2.1 km720 ⟨fun z => absurd z (nI_pos (by omega)), fun _ => ?_⟩
      rw [ty.1, nI_clamp (by omega)]
      refine ⟨vp_in_nI (by omega) (by decide), fun q hq => ?_⟩
      have eq : q = nI (m + j) := by rw [hq, gi_ui, if_neg (by omega)]; exact ty.1
      rw [eq, nI_1]
      have e8 : nI (24 - 8 * j) + (-8) = (if j + 1 = 4 then (-8) else nI (24 - 8 * (j + 1))) := by
        by_cases c4 : j + 1 = 4
        · rw [if_pos c4, show j = 3 by omega]; decide
        · rw [if_neg c4, nm8 _ (by omega)]
          congr 1
      rw [e8]
      refine ih (j + 1) _ (by omega) ⟨fy.1, fun a i a1 a2 => by rw [gi_ui, if_neg a2, gi_ui, if_neg (fun u => a1 u.1)]; exact fy.2 a i a1 a2⟩ ⟨by rw [gi_ui, if_pos ⟨rfl, rfl⟩]; rfl, fun i hi => ?_⟩
      rw [gi_ui, if_neg (by omega), gi_ui]
      show _ = if m ≤ i ∧ i < m + (j + 1) then bv v (24 - 8 * (i - m)) else b i
      by_cases c1 : i = m + j
      · rw [if_pos ⟨rfl, c1⟩, if_pos (by omega), c1, show m + j - m = j by omega]
        rfl
      · rw [if_neg (fun u => c1 u.2), ty.2 i (by omega)]
        show (if m ≤ i ∧ i < m + j then bv v (24 - 8 * (i - m)) else b i) = _
        by_cases c2 : m ≤ i ∧ i < m + j
        · rw [if_pos c2, if_pos (by omega)]
        · rw [if_neg c2, if_neg (by omega)]
  have e0 : (fun i => if m ≤ i ∧ i < m + 0 then bv v (24 - 8 * (i - m)) else b i) = b := by
    funext i
    rw [if_neg (by omega)]
  exact v_X8_puts4_0 (key 4 0 x (by omega) (RTf.rf x) (by rw [e0]; exact t))
end

def bv (v : Int32) (s : Nat) : Int32 := ((v >>> (nI s &&& 31)).toInt8.toInt32).toInt8.toInt32
theorem i8_rt (a : Int8) : a.toInt32.toInt8 = a := by simp
theorem sh8 (v : Int32) {s : Nat} (hs : s < 25) : ((v.toUInt32 >>> ((nI s).toUInt32 &&& Int32.toUInt32 31)).toInt32).toInt8 = (v >>> (nI s &&& 31)).toInt8 := by
  apply Int8.toBitVec_inj.mp
  have e1 := sh_amt s (by omega)
  have e2 := sh_amt2 s (by omega)
  rw [Int32.toBitVec_toInt8, Int32.toBitVec_toInt8, UInt32.toBitVec_toInt32, UInt32.toBitVec_shiftRight, Int32.toBitVec_shiftRight, BitVec.sshiftRight_eq', BitVec.ushiftRight_eq', e1, e2]
  apply BitVec.eq_of_getLsbD_eq
  intro i hi
  rw [BitVec.getLsbD_signExtend, BitVec.getLsbD_signExtend, if_pos (by omega), if_pos (by omega), BitVec.getLsbD_ushiftRight, BitVec.getLsbD_sshiftRight, if_pos (by omega), decide_eq_false (show ¬ 32 ≤ i by omega)]
  rfl
theorem bv_is (v : Int32) (s : Nat) : isB (bv v s) := by
  unfold isB bv
  rw [i8_rt]
theorem k1t : kk KW 1 = some (21, 1200) := by decide
theorem km720 : kk KW 720 = some (21, 1200) := by decide
/-- four bytes more -/
def uB (b : TT) (n : Nat) (v : Int32) : TT := fun i => if n ≤ i ∧ i < n + 4 then bv v (24 - 8 * (i - n)) else b i
def CT (y : Cn) (b : TT) (m : Nat) : Prop := gi y 0 1 = nI m ∧ ∀ i, i < m → gi y 1 i = b i
def RT (y : Cn) (b : TT) (m : Nat) : Prop := gi y 717 5 = nI m ∧ ∀ i, i < m → gi y 720 i = b i
def CTf (x y : Cn) : Prop := y.2 = x.2 ∧ ∀ a k, a ≠ 1 → ¬ (a = 0 ∧ k = 1) → gi y a k = gi x a k
def RTf (x y : Cn) : Prop := y.2 = x.2 ∧ ∀ a k, a ≠ 720 → ¬ (a = 717 ∧ k = 5) → gi y a k = gi x a k
theorem CTf.rf (x : Cn) : CTf x x := ⟨rfl, fun _ _ _ _ => rfl⟩
theorem RTf.rf (x : Cn) : RTf x x := ⟨rfl, fun _ _ _ _ => rfl⟩
theorem CTf.tr {x y z : Cn} (h : CTf x y) (g : CTf y z) : CTf x z := ⟨g.1.trans h.1, fun a k a1 a2 => (g.2 a k a1 a2).trans (h.2 a k a1 a2)⟩
theorem RTf.tr {x y z : Cn} (h : RTf x y) (g : RTf y z) : RTf x z := ⟨g.1.trans h.1, fun a k a1 a2 => (g.2 a k a1 a2).trans (h.2 a k a1 a2)⟩
theorem nm8 (s : Nat) (h : 8 ≤ s) : nI s + (-8) = nI (s - 8) := by
  rw [show nI s + (-8) = nI s - nI 8 from (Int32.sub_eq_add_neg _ _).symm]
  exact pk_sub h
set_option maxHeartbeats 2000000 in
theorem v_X7_putOnTape_0 {K : Sh} {x : Cn} {Q : Cn → Prop} {b0 : Nat} {l1 : Int32}   (K0 : GV mX7_putOnTape 3 [some (.ref b0), some (.int l1), some (.int 24)] [] K x Q) : mSV mX7_putOnTape [.ref b0, .int l1] K x Q := by
  refine s_V (by decide) (by simp [Value.category]) (Nat.le_of_ble_eq_true rfl) ?_
  show mGM mX7_putOnTape 0 [some (.ref b0), some (.int l1), none] [] (hp K x) (PV K Q)
  refine r_bipush (pc := 0) (v := 24) dX7_putOnTape_0 (by decide) ?_
  refine r_istore_n (pc := 2) dX7_putOnTape_2 (by decide) ?_
  exact r_le (L' := [some (.ref b0), some (.int l1), some (.int 24)]) ⟨rfl, ⟨rfl, ⟨rfl, trivial⟩⟩⟩ K0
set_option maxHeartbeats 2000000 in
theorem v_X7_putOnTape_3 {K : Sh} {x : Cn} {Q : Cn → Prop} {b0 : Nat} {l1 : Int32} {l2 : Int32} {b0_0 : Nat} {n_b0_0 : Nat} (k_b0 : kk K b0 = some (7, 0)) (g_b0_0 : gr x b0 0 = some b0_0) (k_b0_0 : kk K b0_0 = some (21, n_b0_0)) (K0 : (l2 < 0 → (Q x)) ∧ (¬ l2 < 0 → ((1200 ≤ (gi x b0 1) → (GV mX7_putOnTape 3 [some (.ref b0), some (.int l1), some (.int (l2 + (-8)))] [] K x Q)) ∧ (¬ 1200 ≤ (gi x b0 1) → (vp_in (gi x b0 1) n_b0_0 ∧ (∀ r_4 : Int32, r_4 = gi (ui x b0_0 ((gi x b0 1) : Int32).toNatClampNeg (((((l1 : Int32).toUInt32 >>> ((l2 : Int32).toUInt32 &&& Int32.toUInt32 31)).toInt32 : Int32).toInt8.toInt32 : Int32).toInt8.toInt32)) b0 1 → (GV mX7_putOnTape 3 [some (.ref b0), some (.int l1), some (.int (l2 + (-8)))] [] K (ui (ui x b0_0 ((gi x b0 1) : Int32).toNatClampNeg (((((l1 : Int32).toUInt32 >>> ((l2 : Int32).toUInt32 &&& Int32.toUInt32 31)).toInt32 : Int32).toInt8.toInt32 : Int32).toInt8.toInt32)) b0 1 (r_4 + 1)) Q))))))) : GV mX7_putOnTape 3 [some (.ref b0), some (.int l1), some (.int l2)] [] K x Q := by
  show mGM mX7_putOnTape 3 [some (.ref b0), some (.int l1), some (.int l2)] [] (hp K x) (PV K Q)
  refine r_iload_n (pc := 3) dX7_putOnTape_3 rfl ?_
  refine r_if_lt (pc := 4) (tgt := 46) dX7_putOnTape_4 (by decide) (fun q => ?_) (fun q => ?_)
  · have K0 := K0.1 q
    exact s_ret rfl dX7_putOnTape_46 K0
  · have K0 := K0.2 q
    refine r_aload_n (pc := 7) dX7_putOnTape_7 rfl ?_
    refine s_getI (pc := 8) dX7_putOnTape_8 fl_X7_13 rfl k_b0 ?_
    refine r_sipush (pc := 11) (v := 1200) dX7_putOnTape_11 (by decide) ?_
    refine r_icmp_ge (pc := 14) (tgt := 40) dX7_putOnTape_14 (by decide) (fun q => ?_) (fun q => ?_)
    · have K0 := K0.1 q
      refine r_iinc (pc := 40) (v := l2 + (-8)) dX7_putOnTape_40 rfl rfl (by decide) ?_
      refine r_goto (pc := 43) (L := [some (.ref b0), some (.int l1), some (.int (l2 + (-8)))]) (tgt := 3) dX7_putOnTape_43 (by decide) ?_
      exact r_le (L' := [some (.ref b0), some (.int l1), some (.int (l2 + (-8)))]) ⟨rfl, ⟨rfl, ⟨rfl, trivial⟩⟩⟩ K0
    · have K0 := K0.2 q
      refine r_aload_n (pc := 17) dX7_putOnTape_17 rfl ?_
      refine s_getR (pc := 18) dX7_putOnTape_18 fl_X7_9 rfl k_b0 g_b0_0 ?_
      refine r_aload_n (pc := 21) dX7_putOnTape_21 rfl ?_
      refine s_getI (pc := 22) dX7_putOnTape_22 fl_X7_13 rfl k_b0 ?_
      refine r_iload_n (pc := 25) dX7_putOnTape_25 rfl ?_
      refine r_iload_n (pc := 26) dX7_putOnTape_26 rfl ?_
      refine r_iushr (pc := 27) dX7_putOnTape_27 ?_
      refine r_i2b (pc := 28) dX7_putOnTape_28 ?_
      obtain ⟨i_3, K0⟩ := K0
      refine s_bast (pc := 29) dX7_putOnTape_29 k_b0_0 i_3 ?_
      refine r_aload_n (pc := 30) dX7_putOnTape_30 rfl ?_
      refine r_dup (pc := 31) dX7_putOnTape_31 rfl ?_
      refine s_getI (pc := 32) dX7_putOnTape_32 fl_X7_13 rfl k_b0 ?_
      obtain ⟨r_4, w_5⟩ : ∃ z : Int32, z = gi (ui x b0_0 ((gi x b0 1) : Int32).toNatClampNeg (((((l1 : Int32).toUInt32 >>> ((l2 : Int32).toUInt32 &&& Int32.toUInt32 31)).toInt32 : Int32).toInt8.toInt32 : Int32).toInt8.toInt32)) b0 1 := ⟨_, rfl⟩
      rw [← w_5]
      have K0 := K0 r_4 w_5
      refine r_iconst (pc := 35) (v := 1) dX7_putOnTape_35 (by decide) ?_
      refine r_iadd (pc := 36) dX7_putOnTape_36 ?_
      refine s_putI (pc := 37) dX7_putOnTape_37 fl_X7_13 rfl rfl k_b0 ?_
      refine r_iinc (pc := 40) (v := l2 + (-8)) dX7_putOnTape_40 rfl rfl (by decide) ?_
      refine r_goto (pc := 43) (L := [some (.ref b0), some (.int l1), some (.int (l2 + (-8)))]) (tgt := 3) dX7_putOnTape_43 (by decide) ?_
      exact r_le (L' := [some (.ref b0), some (.int l1), some (.int (l2 + (-8)))]) ⟨rfl, ⟨rfl, ⟨rfl, trivial⟩⟩⟩ K0
section
theorem sp_X7_putOnTape {x : Cn} {Q : Cn → Prop} {b : TT} {m : Nat} {v : Int32} (c : gr x 0 0 = some 1) (t : CT x b m) (hm : m + 4 ≤ 1200) (k : ∀ y, CTf x y → CT y (uB b m v) (m + 4) → Q y) : mSV mX7_putOnTape [.ref 0, .int v] KW x Q := by
  have key : ∀ r j y, j + r = 4 → CTf x y → CT y (fun i => if m ≤ i ∧ i < m + j then bv v (24 - 8 * (i - m)) else b i) (m + j) → GV mX7_putOnTape 3 [some (.ref 0), some (.int v), some (.int (if j = 4 then (-8) else nI (24 - 8 * j)))] [] KW y Q := by
    intro r
    induction r with
    | zero =>
      intro j y hj fy ty
      have : j = 4 := by omega
      subst this
      have cy : gr y 0 0 = some 1 := by unfold gr; rw [fy.1]; exact c
      exact v_X7_putOnTape_3 k0 cy k1t ⟨fun _ => k y fy ty, fun z => absurd (by decide) z⟩
    | succ r ih =>
      intro j y hj fy ty
      have cy : gr y 0 0 = some 1 := by unfold gr; rw [fy.1]; exact c
      rw [if_neg (by omega)]
      refine v_X7_putOnTape_3 k0 cy k1t ⟨fun z => absurd z (nI_pos (by omega)), fun _ => ⟨fun z => absurd (by rw [ty.1] at z; exact z) (nI_ge (b := 1200) (by omega) (by decide)), fun _ => ?_⟩⟩
      rw [ty.1, nI_clamp (by omega), sh8 v (by omega)]
      refine ⟨vp_in_nI (by omega) (by decide), fun q hq => ?_⟩
      have eq : q = nI (m + j) := by rw [hq, gi_ui, if_neg (by omega)]; exact ty.1
      rw [eq, nI_1]
      have e8 : nI (24 - 8 * j) + (-8) = (if j + 1 = 4 then (-8) else nI (24 - 8 * (j + 1))) := by
        by_cases c4 : j + 1 = 4
        · rw [if_pos c4, show j = 3 by omega]; decide
        · rw [if_neg c4, nm8 _ (by omega)]
          congr 1
      rw [e8]
      refine ih (j + 1) _ (by omega) ⟨fy.1, fun a i a1 a2 => by rw [gi_ui, if_neg a2, gi_ui, if_neg (fun u => a1 u.1)]; exact fy.2 a i a1 a2⟩ ⟨by rw [gi_ui, if_pos ⟨rfl, rfl⟩]; rfl, fun i hi => ?_⟩
      rw [gi_ui, if_neg (by omega), gi_ui]
      show _ = if m ≤ i ∧ i < m + (j + 1) then bv v (24 - 8 * (i - m)) else b i
      by_cases c1 : i = m + j
      · rw [if_pos ⟨rfl, c1⟩, if_pos (by omega), c1, show m + j - m = j by omega]
        rfl
      · rw [if_neg (fun u => c1 u.2), ty.2 i (by omega)]
        show (if m ≤ i ∧ i < m + j then bv v (24 - 8 * (i - m)) else b i) = _
        by_cases c2 : m ≤ i ∧ i < m + j
        · rw [if_pos c2, if_pos (by omega)]
        · rw [if_neg c2, if_neg (by omega)]
  have e0 : (fun i => if m ≤ i ∧ i < m + 0 then bv v (24 - 8 * (i - m)) else b i) = b := by
    funext i
    rw [if_neg (by omega)]
  exact v_X7_putOnTape_0 (key 4 0 x (by omega) (CTf.rf x) (by rw [e0]; exact t))
end
set_option maxHeartbeats 2000000 in
theorem v_X8_puts4_0 {K : Sh} {x : Cn} {Q : Cn → Prop} {b0 : Nat} {l1 : Int32}   (K0 : GV mX8_puts4 3 [some (.ref b0), some (.int l1), some (.int 24)] [] K x Q) : mSV mX8_puts4 [.ref b0, .int l1] K x Q := by
  refine s_V (by decide) (by simp [Value.category]) (Nat.le_of_ble_eq_true rfl) ?_
  show mGM mX8_puts4 0 [some (.ref b0), some (.int l1), none] [] (hp K x) (PV K Q)
  refine r_bipush (pc := 0) (v := 24) dX8_puts4_0 (by decide) ?_
  refine r_istore_n (pc := 2) dX8_puts4_2 (by decide) ?_
  exact r_le (L' := [some (.ref b0), some (.int l1), some (.int 24)]) ⟨rfl, ⟨rfl, ⟨rfl, trivial⟩⟩⟩ K0
set_option maxHeartbeats 2000000 in
theorem v_X8_puts4_3 {K : Sh} {x : Cn} {Q : Cn → Prop} {b0 : Nat} {l1 : Int32} {l2 : Int32} {b0_4 : Nat} {n_b0_4 : Nat} (k_b0 : kk K b0 = some (8, 0)) (g_b0_4 : gr x b0 4 = some b0_4) (k_b0_4 : kk K b0_4 = some (21, n_b0_4)) (K0 : (l2 < 0 → (Q x)) ∧ (¬ l2 < 0 → (vp_in (gi x b0 5) n_b0_4 ∧ (∀ r_3 : Int32, r_3 = gi (ui x b0_4 ((gi x b0 5) : Int32).toNatClampNeg ((((l1 >>> (l2 &&& 31)) : Int32).toInt8.toInt32 : Int32).toInt8.toInt32)) b0 5 → (GV mX8_puts4 3 [some (.ref b0), some (.int l1), some (.int (l2 + (-8)))] [] K (ui (ui x b0_4 ((gi x b0 5) : Int32).toNatClampNeg ((((l1 >>> (l2 &&& 31)) : Int32).toInt8.toInt32 : Int32).toInt8.toInt32)) b0 5 (r_3 + 1)) Q))))) : GV mX8_puts4 3 [some (.ref b0), some (.int l1), some (.int l2)] [] K x Q := by
  show mGM mX8_puts4 3 [some (.ref b0), some (.int l1), some (.int l2)] [] (hp K x) (PV K Q)
  refine r_iload_n (pc := 3) dX8_puts4_3 rfl ?_
  refine r_if_lt (pc := 4) (tgt := 36) dX8_puts4_4 (by decide) (fun q => ?_) (fun q => ?_)
  · have K0 := K0.1 q
    exact s_ret rfl dX8_puts4_36 K0
  · have K0 := K0.2 q
    refine r_aload_n (pc := 7) dX8_puts4_7 rfl ?_
    refine s_getR (pc := 8) dX8_puts4_8 fl_X8_19 rfl k_b0 g_b0_4 ?_
    refine r_aload_n (pc := 11) dX8_puts4_11 rfl ?_
    refine s_getI (pc := 12) dX8_puts4_12 fl_X8_94 rfl k_b0 ?_
    refine r_iload_n (pc := 15) dX8_puts4_15 rfl ?_
    refine r_iload_n (pc := 16) dX8_puts4_16 rfl ?_
    refine r_ishr (pc := 17) dX8_puts4_17 ?_
    refine r_i2b (pc := 18) dX8_puts4_18 ?_
    obtain ⟨i_2, K0⟩ := K0
    refine s_bast (pc := 19) dX8_puts4_19 k_b0_4 i_2 ?_
    refine r_aload_n (pc := 20) dX8_puts4_20 rfl ?_
    refine r_dup (pc := 21) dX8_puts4_21 rfl ?_
    refine s_getI (pc := 22) dX8_puts4_22 fl_X8_94 rfl k_b0 ?_
    obtain ⟨r_3, w_4⟩ : ∃ z : Int32, z = gi (ui x b0_4 ((gi x b0 5) : Int32).toNatClampNeg ((((l1 >>> (l2 &&& 31)) : Int32).toInt8.toInt32 : Int32).toInt8.toInt32)) b0 5 := ⟨_, rfl⟩
    rw [← w_4]
    have K0 := K0 r_3 w_4
    refine r_iconst (pc := 25) (v := 1) dX8_puts4_25 (by decide) ?_
    refine r_iadd (pc := 26) dX8_puts4_26 ?_
    refine s_putI (pc := 27) dX8_puts4_27 fl_X8_94 rfl rfl k_b0 ?_
    refine r_iinc (pc := 30) (v := l2 + (-8)) dX8_puts4_30 rfl rfl (by decide) ?_
    refine r_goto (pc := 33) (L := [some (.ref b0), some (.int l1), some (.int (l2 + (-8)))]) (tgt := 3) dX8_puts4_33 (by decide) ?_
    exact r_le (L' := [some (.ref b0), some (.int l1), some (.int (l2 + (-8)))]) ⟨rfl, ⟨rfl, ⟨rfl, trivial⟩⟩⟩ K0
section
theorem sp_X8_puts4 {x : Cn} {Q : Cn → Prop} {b : TT} {m : Nat} {v : Int32} (M : MRf x 718) (t : RT x b m) (hm : m + 4 ≤ 1200) (k : ∀ y, RTf x y → RT y (uB b m v) (m + 4) → Q y) : mSV mX8_puts4 [.ref 717, .int v] KW x Q := by
  have key : ∀ r j y, j + r = 4 → RTf x y → RT y (fun i => if m ≤ i ∧ i < m + j then bv v (24 - 8 * (i - m)) else b i) (m + j) → GV mX8_puts4 3 [some (.ref 717), some (.int v), some (.int (if j = 4 then (-8) else nI (24 - 8 * j)))] [] KW y Q := by
    intro r
    induction r with
    | zero =>
      intro j y hj fy ty
      have : j = 4 := by omega
      subst this
      exact v_X8_puts4_3 km (M.keep fy.1).2.2.2.1 km720 ⟨fun _ => k y fy ty, fun z => absurd (by decide) z⟩
    | succ r ih =>
      intro j y hj fy ty
      rw [if_neg (by omega)]
      refine v_X8_puts4_3 km (M.keep fy.1).2.2.2.1 km720 ⟨fun z => absurd z (nI_pos (by omega)), fun _ => ?_⟩
      rw [ty.1, nI_clamp (by omega)]
      refine ⟨vp_in_nI (by omega) (by decide), fun q hq => ?_⟩
      have eq : q = nI (m + j) := by rw [hq, gi_ui, if_neg (by omega)]; exact ty.1
      rw [eq, nI_1]
      have e8 : nI (24 - 8 * j) + (-8) = (if j + 1 = 4 then (-8) else nI (24 - 8 * (j + 1))) := by
        by_cases c4 : j + 1 = 4
        · rw [if_pos c4, show j = 3 by omega]; decide
        · rw [if_neg c4, nm8 _ (by omega)]
          congr 1
      rw [e8]
      refine ih (j + 1) _ (by omega) ⟨fy.1, fun a i a1 a2 => by rw [gi_ui, if_neg a2, gi_ui, if_neg (fun u => a1 u.1)]; exact fy.2 a i a1 a2⟩ ⟨by rw [gi_ui, if_pos ⟨rfl, rfl⟩]; rfl, fun i hi => ?_⟩
      rw [gi_ui, if_neg (by omega), gi_ui]
      show _ = if m ≤ i ∧ i < m + (j + 1) then bv v (24 - 8 * (i - m)) else b i
      by_cases c1 : i = m + j
      · rw [if_pos ⟨rfl, c1⟩, if_pos (by omega), c1, show m + j - m = j by omega]
        rfl
      · rw [if_neg (fun u => c1 u.2), ty.2 i (by omega)]
        show (if m ≤ i ∧ i < m + j then bv v (24 - 8 * (i - m)) else b i) = _
        by_cases c2 : m ≤ i ∧ i < m + j
        · rw [if_pos c2, if_pos (by omega)]
        · rw [if_neg c2, if_neg (by omega)]
  have e0 : (fun i => if m ≤ i ∧ i < m + 0 then bv v (24 - 8 * (i - m)) else b i) = b := by
    funext i
    rw [if_neg (by omega)]
  exact v_X8_puts4_0 (key 4 0 x (by omega) (RTf.rf x) (by rw [e0]; exact t))
theorem Rel.tape {x u : Cn} (R : Rel x) (er : u.2 = x.2) (eq : ∀ a j, a ≠ 1 → ¬ (a = 0 ∧ j = 1) → a ≠ 720 → ¬ (a = 717 ∧ j = 5) → gi u a j = gi x a j) (t : TPr u) : Rel u := by
  obtain ⟨W, C, S, A, N, E, nm, hs⟩ := R.sea
  have c1 := R.1
  have e8 : gi u 718 = gi x 718 := funext (fun i => eq 718 i (by decide) (by omega) (by decide) (by omega))
  refine ⟨R.1.keep er, R.2.1.keep er, ⟨?_, ?_⟩, t, R.2.2.2.2.1.keep (eq 175 1 (by decide) (by omega) (by decide) (by omega)) (eq 717 22 (by decide) (by omega) (by decide) (by omega)) (fun i => eq 176 i (by decide) (by omega) (by decide) (by omega)) (fun i => eq 725 i (by decide) (by omega) (by decide) (by omega)), W, C, S, A, N, ?_, ?_, ?_⟩
  · trivial
  · trivial
  · rw [e8]; exact E.keep er (fun a j a1 a2 _ => eq a j (by omega) (by omega) (by omega) (by omega))
  · rw [e8]; exact nm.keep (eq 56 0 (by decide) (by omega) (by decide) (by omega)) (fun i => eq 57 i (by decide) (by omega) (by decide) (by omega)) (fun _ _ => rfl)
  · rw [e8]; exact hs.keep c1 er (eq 717 19 (by decide) (by omega) (by decide) (by omega)) (eq 0 5 (by decide) (by omega) (by decide) (by omega)) (fun a j a1 a2 => eq a j (by omega) (by omega) (by omega) (by omega)) (fun i => eq 724 i (by decide) (by omega) (by decide) (by omega)) (fun _ _ => rfl)
theorem uB_is {b : TT} {m : Nat} {v : Int32} (h : ∀ i, i < m → isB (b i)) : ∀ i, i < m + 4 → isB (uB b m v i) := by
  intro i hi
  unfold uB
  by_cases c : m ≤ i ∧ i < m + 4
  · rw [if_pos c]; exact bv_is _ _
  · rw [if_neg c]; exact h i (by omega)
/-- a name's number -/
def bd (b : TT) (fr to i : Nat) : Nat := if fr + i < to then (b (fr + i)).toNatClampNeg - 96 else 0
def pkn (b : TT) (fr to : Nat) : Nat → Nat
  | 0 => 0
  | n + 1 => 27 * pkn b fr to n + bd b fr to n
def pkv (b : TT) (fr to : Nat) : Nat := pkn b fr to 6
def ltr (b : TT) (fr to : Nat) : Prop := ∀ i, fr ≤ i → i < to → ∃ m, 97 ≤ m ∧ m ≤ 122 ∧ b i = nI m
theorem bd_lt {b : TT} {fr to : Nat} (h : ltr b fr to) (i : Nat) : bd b fr to i < 27 := by
  unfold bd
  by_cases c : fr + i < to
  · rw [if_pos c]
    obtain ⟨m, h1, h2, h3⟩ := h (fr + i) (by omega) c
    rw [h3, nI_clamp (by omega)]; omega
  · rw [if_neg c]; decide
theorem dg_6 {w : Nat} (h : w < 387420489) : w = 27 * (27 * (27 * (27 * (27 * dg w 0 + dg w 1) + dg w 2) + dg w 3) + dg w 4) + dg w 5 := by
  have e0 : dg w 0 = w / 14348907 % 27 := rfl
  have e1 : dg w 1 = w / 531441 % 27 := rfl
  have e2 : dg w 2 = w / 19683 % 27 := rfl
  have e3 : dg w 3 = w / 729 % 27 := rfl
  have e4 : dg w 4 = w / 27 % 27 := rfl
  have e5 : dg w 5 = w / 1 % 27 := rfl
  omega
theorem pkv_6 (b : TT) (fr to : Nat) : pkv b fr to = 27 * (27 * (27 * (27 * (27 * bd b fr to 0 + bd b fr to 1) + bd b fr to 2) + bd b fr to 3) + bd b fr to 4) + bd b fr to 5 := by
  show 27 * (27 * (27 * (27 * (27 * (27 * 0 + bd b fr to 0) + bd b fr to 1) + bd b fr to 2) + bd b fr to 3) + bd b fr to 4) + bd b fr to 5 = _
  omega
theorem pkv_lt {b : TT} {fr to : Nat} (h : ltr b fr to) : pkv b fr to < 387420489 := by
  have h0 := bd_lt h 0
  have h1 := bd_lt h 1
  have h2 := bd_lt h 2
  have h3 := bd_lt h 3
  have h4 := bd_lt h 4
  have h5 := bd_lt h 5
  rw [pkv_6]
  omega
theorem pkn_lt {b : TT} {fr to : Nat} (h : ltr b fr to) : ∀ n, n ≤ 6 → pkn b fr to n < 27 ^ n := by
  intro n
  induction n with
  | zero => intro _; exact Nat.one_pos
  | succ n ih =>
    intro hn
    have := ih (by omega)
    have := bd_lt h n
    show 27 * pkn b fr to n + bd b fr to n < 27 ^ (n + 1)
    rw [Nat.pow_succ]
    omega
theorem pkv_dg {b : TT} {fr to : Nat} (h : ltr b fr to) : ∀ i, i < 6 → dg (pkv b fr to) i = bd b fr to i := by
  have h0 := bd_lt h 0
  have h1 := bd_lt h 1
  have h2 := bd_lt h 2
  have h3 := bd_lt h 3
  have h4 := bd_lt h 4
  have h5 := bd_lt h 5
  have e := pkv_6 b fr to
  have e0 : dg (pkv b fr to) 0 = pkv b fr to / 14348907 % 27 := rfl
  have e1 : dg (pkv b fr to) 1 = pkv b fr to / 531441 % 27 := rfl
  have e2 : dg (pkv b fr to) 2 = pkv b fr to / 19683 % 27 := rfl
  have e3 : dg (pkv b fr to) 3 = pkv b fr to / 729 % 27 := rfl
  have e4 : dg (pkv b fr to) 4 = pkv b fr to / 27 % 27 := rfl
  have e5 : dg (pkv b fr to) 5 = pkv b fr to / 1 % 27 := rfl
  intro i hi
  have : i = 0 ∨ i = 1 ∨ i = 2 ∨ i = 3 ∨ i = 4 ∨ i = 5 := by omega
  rcases this with rfl | rfl | rfl | rfl | rfl | rfl
  · rw [e0]; omega
  · rw [e1]; omega
  · rw [e2]; omega
  · rw [e3]; omega
  · rw [e4]; omega
  · rw [e5]; omega
theorem dg_inj {v w : Nat} (hv : v < 387420489) (hw : w < 387420489) (h : ∀ i, i < 6 → dg v i = dg w i) : v = w := by
  rw [dg_6 hv, dg_6 hw, h 0 (by decide), h 1 (by decide), h 2 (by decide), h 3 (by decide), h 4 (by decide), h 5 (by decide)]
theorem let_v {m : Nat} (h1 : 97 ≤ m) (h2 : m ≤ 122) : (nI m - 97) + 1 = nI (m - 96) := by
  rw [show nI m - 97 = nI (m - 97) from pk_sub (b := 97) h1, nI_1]
  congr 1
  omega
def stN (T : TT) (v : Nat) : Nat → Unit → Unit ⊕ Int32 := fun c _ => if T (54 + c) = nI v then .inr (nI c) else .inl ()
def fnd (T : TT) (C v : Nat) : Int32 := lpR (stN T v) (fun _ => -1) C 0 ()
end
set_option maxHeartbeats 2000000 in
theorem v_X7_feed_0 {K : Sh} {x : Cn} {Q : Int32 → Cn → Prop} {b0 : Nat} {l1 : Int32} {l2 : Int32} {l3 : Int32} {l4 : Int32} {l5 : Int32}  (k_b0 : kk K b0 = some (7, 0)) (K0 : (((gi x b0 1) + 20) ≤ 1200 → (mSV mX7_putOnTape [.ref b0, .int l1] K x (fun y_2 => mSV mX7_putOnTape [.ref b0, .int l2] K y_2 (fun y_3 => mSV mX7_putOnTape [.ref b0, .int l3] K y_3 (fun y_4 => mSV mX7_putOnTape [.ref b0, .int l4] K y_4 (fun y_5 => mSV mX7_putOnTape [.ref b0, .int l5] K y_5 (fun y_6 => Q (gi y_6 b0 1) y_6))))))) ∧ (¬ ((gi x b0 1) + 20) ≤ 1200 → (Q (-1) x))) : mSI mX7_feed [.ref b0, .int l1, .int l2, .int l3, .int l4, .int l5] K x Q := by
  refine s_I (by decide) (by simp [Value.category]) (Nat.le_of_ble_eq_true rfl) ?_
  show mGM mX7_feed 0 [some (.ref b0), some (.int l1), some (.int l2), some (.int l3), some (.int l4), some (.int l5)] [] (hp K x) (PI K Q)
  refine r_aload_n (pc := 0) dX7_feed_0 rfl ?_
  refine s_getI (pc := 1) dX7_feed_1 fl_X7_13 rfl k_b0 ?_
  refine r_bipush (pc := 4) (v := 20) dX7_feed_4 (by decide) ?_
  refine r_iadd (pc := 6) dX7_feed_6 ?_
  refine r_sipush (pc := 7) (v := 1200) dX7_feed_7 (by decide) ?_
  refine r_icmp_le (pc := 10) (tgt := 15) dX7_feed_10 (by decide) (fun q => ?_) (fun q => ?_)
  · have K0 := K0.1 q
    refine r_aload_n (pc := 15) dX7_feed_15 rfl ?_
    refine r_iload_n (pc := 16) dX7_feed_16 rfl ?_
    refine s_VV (pc := 17) mX7_putOnTape (ci := 7) (a := b0) (As := [.int l1]) dX7_feed_17 lk_X7_65 in_X7_putOnTape mo_X7_putOnTape ⟨by decide, rfl⟩ ⟨by decide, by decide⟩ (Nat.le_of_ble_eq_true rfl) k_b0 (mSV_mono K0 (fun y_2 K0 => ?_))
    refine r_aload_n (pc := 20) dX7_feed_20 rfl ?_
    refine r_iload_n (pc := 21) dX7_feed_21 rfl ?_
    refine s_VV (pc := 22) mX7_putOnTape (ci := 7) (a := b0) (As := [.int l2]) dX7_feed_22 lk_X7_65 in_X7_putOnTape mo_X7_putOnTape ⟨by decide, rfl⟩ ⟨by decide, by decide⟩ (Nat.le_of_ble_eq_true rfl) k_b0 (mSV_mono K0 (fun y_3 K0 => ?_))
    refine r_aload_n (pc := 25) dX7_feed_25 rfl ?_
    refine r_iload_n (pc := 26) dX7_feed_26 rfl ?_
    refine s_VV (pc := 27) mX7_putOnTape (ci := 7) (a := b0) (As := [.int l3]) dX7_feed_27 lk_X7_65 in_X7_putOnTape mo_X7_putOnTape ⟨by decide, rfl⟩ ⟨by decide, by decide⟩ (Nat.le_of_ble_eq_true rfl) k_b0 (mSV_mono K0 (fun y_4 K0 => ?_))
    refine r_aload_n (pc := 30) dX7_feed_30 rfl ?_
    refine r_iload (pc := 31) dX7_feed_31 rfl ?_
    refine s_VV (pc := 33) mX7_putOnTape (ci := 7) (a := b0) (As := [.int l4]) dX7_feed_33 lk_X7_65 in_X7_putOnTape mo_X7_putOnTape ⟨by decide, rfl⟩ ⟨by decide, by decide⟩ (Nat.le_of_ble_eq_true rfl) k_b0 (mSV_mono K0 (fun y_5 K0 => ?_))
    refine r_aload_n (pc := 36) dX7_feed_36 rfl ?_
    refine r_iload (pc := 37) dX7_feed_37 rfl ?_
    refine s_VV (pc := 39) mX7_putOnTape (ci := 7) (a := b0) (As := [.int l5]) dX7_feed_39 lk_X7_65 in_X7_putOnTape mo_X7_putOnTape ⟨by decide, rfl⟩ ⟨by decide, by decide⟩ (Nat.le_of_ble_eq_true rfl) k_b0 (mSV_mono K0 (fun y_6 K0 => ?_))
    refine r_aload_n (pc := 42) dX7_feed_42 rfl ?_
    refine s_getI (pc := 43) dX7_feed_43 fl_X7_13 rfl k_b0 ?_
    exact s_iret rfl dX7_feed_46 K0
  · have K0 := K0.2 q
    refine r_iconst (pc := 13) (v := (-1)) dX7_feed_13 (by decide) ?_
    exact s_iret rfl dX7_feed_14 K0
set_option maxHeartbeats 2000000 in
theorem v_X8_feed_0 {K : Sh} {x : Cn} {Q : Int32 → Cn → Prop} {b0 : Nat} {l1 : Int32} {l2 : Int32} {l3 : Int32} {l4 : Int32} {l5 : Int32}  (k_b0 : kk K b0 = some (8, 0)) (K0 : (((gi x b0 5) + 20) ≤ 1200 → (mSV mX8_puts4 [.ref b0, .int l1] K x (fun y_2 => mSV mX8_puts4 [.ref b0, .int l2] K y_2 (fun y_3 => mSV mX8_puts4 [.ref b0, .int l3] K y_3 (fun y_4 => mSV mX8_puts4 [.ref b0, .int l4] K y_4 (fun y_5 => mSV mX8_puts4 [.ref b0, .int l5] K y_5 (fun y_6 => Q (gi y_6 b0 5) y_6))))))) ∧ (¬ ((gi x b0 5) + 20) ≤ 1200 → (Q (-1) x))) : mSI mX8_feed [.ref b0, .int l1, .int l2, .int l3, .int l4, .int l5] K x Q := by
  refine s_I (by decide) (by simp [Value.category]) (Nat.le_of_ble_eq_true rfl) ?_
  show mGM mX8_feed 0 [some (.ref b0), some (.int l1), some (.int l2), some (.int l3), some (.int l4), some (.int l5)] [] (hp K x) (PI K Q)
  refine r_aload_n (pc := 0) dX8_feed_0 rfl ?_
  refine s_getI (pc := 1) dX8_feed_1 fl_X8_94 rfl k_b0 ?_
  refine r_bipush (pc := 4) (v := 20) dX8_feed_4 (by decide) ?_
  refine r_iadd (pc := 6) dX8_feed_6 ?_
  refine r_sipush (pc := 7) (v := 1200) dX8_feed_7 (by decide) ?_
  refine r_icmp_le (pc := 10) (tgt := 15) dX8_feed_10 (by decide) (fun q => ?_) (fun q => ?_)
  · have K0 := K0.1 q
    refine r_aload_n (pc := 15) dX8_feed_15 rfl ?_
    refine r_iload_n (pc := 16) dX8_feed_16 rfl ?_
    refine s_VV (pc := 17) mX8_puts4 (ci := 8) (a := b0) (As := [.int l1]) dX8_feed_17 lk_X8_97 in_X8_puts4 mo_X8_puts4 ⟨by decide, rfl⟩ ⟨by decide, by decide⟩ (Nat.le_of_ble_eq_true rfl) k_b0 (mSV_mono K0 (fun y_2 K0 => ?_))
    refine r_aload_n (pc := 20) dX8_feed_20 rfl ?_
    refine r_iload_n (pc := 21) dX8_feed_21 rfl ?_
    refine s_VV (pc := 22) mX8_puts4 (ci := 8) (a := b0) (As := [.int l2]) dX8_feed_22 lk_X8_97 in_X8_puts4 mo_X8_puts4 ⟨by decide, rfl⟩ ⟨by decide, by decide⟩ (Nat.le_of_ble_eq_true rfl) k_b0 (mSV_mono K0 (fun y_3 K0 => ?_))
    refine r_aload_n (pc := 25) dX8_feed_25 rfl ?_
    refine r_iload_n (pc := 26) dX8_feed_26 rfl ?_
    refine s_VV (pc := 27) mX8_puts4 (ci := 8) (a := b0) (As := [.int l3]) dX8_feed_27 lk_X8_97 in_X8_puts4 mo_X8_puts4 ⟨by decide, rfl⟩ ⟨by decide, by decide⟩ (Nat.le_of_ble_eq_true rfl) k_b0 (mSV_mono K0 (fun y_4 K0 => ?_))
    refine r_aload_n (pc := 30) dX8_feed_30 rfl ?_
    refine r_iload (pc := 31) dX8_feed_31 rfl ?_
    refine s_VV (pc := 33) mX8_puts4 (ci := 8) (a := b0) (As := [.int l4]) dX8_feed_33 lk_X8_97 in_X8_puts4 mo_X8_puts4 ⟨by decide, rfl⟩ ⟨by decide, by decide⟩ (Nat.le_of_ble_eq_true rfl) k_b0 (mSV_mono K0 (fun y_5 K0 => ?_))
    refine r_aload_n (pc := 36) dX8_feed_36 rfl ?_
    refine r_iload (pc := 37) dX8_feed_37 rfl ?_
    refine s_VV (pc := 39) mX8_puts4 (ci := 8) (a := b0) (As := [.int l5]) dX8_feed_39 lk_X8_97 in_X8_puts4 mo_X8_puts4 ⟨by decide, rfl⟩ ⟨by decide, by decide⟩ (Nat.le_of_ble_eq_true rfl) k_b0 (mSV_mono K0 (fun y_6 K0 => ?_))
    refine r_aload_n (pc := 42) dX8_feed_42 rfl ?_
    refine s_getI (pc := 43) dX8_feed_43 fl_X8_94 rfl k_b0 ?_
    exact s_iret rfl dX8_feed_46 K0
  · have K0 := K0.2 q
    refine r_iconst (pc := 13) (v := (-1)) dX8_feed_13 (by decide) ?_
    exact s_iret rfl dX8_feed_14 K0
set_option maxHeartbeats 2000000 in
theorem v_X1_isNamed_0 {K : Sh} {x : Cn} {Q : Int32 → Cn → Prop} {b0 : Nat} {l1 : Int32} {b2 : Nat} {l3 : Int32} {l4 : Int32}   (K0 : GI mX1_isNamed 3 [some (.ref b0), some (.int l1), some (.ref b2), some (.int l3), some (.int l4), some (.int 0), none] [] K x Q) : mSI mX1_isNamed [.ref b0, .int l1, .ref b2, .int l3, .int l4] K x Q := by
  refine s_I (by decide) (by simp [Value.category]) (Nat.le_of_ble_eq_true rfl) ?_
  show mGM mX1_isNamed 0 [some (.ref b0), some (.int l1), some (.ref b2), some (.int l3), some (.int l4), none, none] [] (hp K x) (PI K Q)
  refine r_iconst (pc := 0) (v := 0) dX1_isNamed_0 (by decide) ?_
  refine r_istore (pc := 1) dX1_isNamed_1 (by decide) ?_
  exact r_le (L' := [some (.ref b0), some (.int l1), some (.ref b2), some (.int l3), some (.int l4), some (.int 0), none]) ⟨rfl, ⟨rfl, ⟨rfl, ⟨rfl, ⟨rfl, ⟨rfl, trivial⟩⟩⟩⟩⟩⟩ K0
set_option maxHeartbeats 2000000 in
theorem v_X1_isNamed_3 {K : Sh} {x : Cn} {Q : Int32 → Cn → Prop} {b0 : Nat} {l1 : Int32} {b2 : Nat} {l3 : Int32} {l4 : Int32} {l5 : Int32} {b0_1 : Nat} {n_b0_1 : Nat} {n_b2 : Nat} (k_b0 : kk K b0 = some (1, 0)) (g_b0_1 : gr x b0 1 = some b0_1) (k_b0_1 : kk K b0_1 = some (20, n_b0_1)) (k_b2 : kk K b2 = some (21, n_b2)) (K0 : (6 ≤ l5 → (Q 1 x)) ∧ (¬ 6 ≤ l5 → ((l4 ≤ (l3 + l5) → (vp_in ((l1 * 6) + l5) n_b0_1 ∧ (((gi x b0_1 (((l1 * 6) + l5) : Int32).toNatClampNeg) = 0 → (GI mX1_isNamed 3 [some (.ref b0), some (.int l1), some (.ref b2), some (.int l3), some (.int l4), some (.int (l5 + 1)), none] [] K x Q)) ∧ (¬ (gi x b0_1 (((l1 * 6) + l5) : Int32).toNatClampNeg) = 0 → (Q 0 x))))) ∧ (¬ l4 ≤ (l3 + l5) → (vp_in (l3 + l5) n_b2 ∧ (vp_in ((l1 * 6) + l5) n_b0_1 ∧ (((gi x b0_1 (((l1 * 6) + l5) : Int32).toNatClampNeg) = (((gi x b2 ((l3 + l5) : Int32).toNatClampNeg) - 97) + 1) → (GI mX1_isNamed 3 [some (.ref b0), some (.int l1), some (.ref b2), some (.int l3), some (.int l4), some (.int (l5 + 1)), none] [] K x Q)) ∧ (¬ (gi x b0_1 (((l1 * 6) + l5) : Int32).toNatClampNeg) = (((gi x b2 ((l3 + l5) : Int32).toNatClampNeg) - 97) + 1) → (Q 0 x))))))))) : GI mX1_isNamed 3 [some (.ref b0), some (.int l1), some (.ref b2), some (.int l3), some (.int l4), some (.int l5), none] [] K x Q := by
  show mGM mX1_isNamed 3 [some (.ref b0), some (.int l1), some (.ref b2), some (.int l3), some (.int l4), some (.int l5), none] [] (hp K x) (PI K Q)
  refine r_iload (pc := 3) dX1_isNamed_3 rfl ?_
  refine r_bipush (pc := 5) (v := 6) dX1_isNamed_5 (by decide) ?_
  refine r_icmp_ge (pc := 7) (tgt := 61) dX1_isNamed_7 (by decide) (fun q => ?_) (fun q => ?_)
  · have K0 := K0.1 q
    refine r_iconst (pc := 61) (v := 1) dX1_isNamed_61 (by decide) ?_
    exact s_zret rfl (by decide) dX1_isNamed_62 K0
  · have K0 := K0.2 q
    refine r_iload_n (pc := 10) dX1_isNamed_10 rfl ?_
    refine r_iload (pc := 11) dX1_isNamed_11 rfl ?_
    refine r_iadd (pc := 13) dX1_isNamed_13 ?_
    refine r_iload (pc := 14) dX1_isNamed_14 rfl ?_
    refine r_icmp_ge (pc := 16) (tgt := 33) dX1_isNamed_16 (by decide) (fun q => ?_) (fun q => ?_)
    · have K0 := K0.1 q
      refine r_iconst (pc := 33) (v := 0) dX1_isNamed_33 (by decide) ?_
      refine r_istore (pc := 34) dX1_isNamed_34 (by decide) ?_
      refine r_aload_n (pc := 36) (L := [some (.ref b0), some (.int l1), some (.ref b2), some (.int l3), some (.int l4), some (.int l5), some (.int 0)]) dX1_isNamed_36 rfl ?_
      refine s_getR (pc := 37) dX1_isNamed_37 fl_X1_15 rfl k_b0 g_b0_1 ?_
      refine r_iload_n (pc := 40) dX1_isNamed_40 rfl ?_
      refine r_bipush (pc := 41) (v := 6) dX1_isNamed_41 (by decide) ?_
      refine r_imul (pc := 43) dX1_isNamed_43 ?_
      refine r_iload (pc := 44) dX1_isNamed_44 rfl ?_
      refine r_iadd (pc := 46) dX1_isNamed_46 ?_
      obtain ⟨i_3, K0⟩ := K0
      refine s_iald (pc := 47) dX1_isNamed_47 k_b0_1 i_3 ?_
      refine r_iload (pc := 48) dX1_isNamed_48 rfl ?_
      refine r_icmp_eq (pc := 50) (tgt := 55) dX1_isNamed_50 (by decide) (fun q => ?_) (fun q => ?_)
      · have K0 := K0.1 q
        refine r_iinc (pc := 55) (v := l5 + 1) dX1_isNamed_55 rfl rfl (by decide) ?_
        refine r_goto (pc := 58) (L := [some (.ref b0), some (.int l1), some (.ref b2), some (.int l3), some (.int l4), some (.int (l5 + 1)), some (.int 0)]) (tgt := 3) dX1_isNamed_58 (by decide) ?_
        exact r_le (L' := [some (.ref b0), some (.int l1), some (.ref b2), some (.int l3), some (.int l4), some (.int (l5 + 1)), none]) ⟨rfl, ⟨rfl, ⟨rfl, ⟨rfl, ⟨rfl, ⟨rfl, trivial⟩⟩⟩⟩⟩⟩ K0
      · have K0 := K0.2 q
        refine r_iconst (pc := 53) (v := 0) dX1_isNamed_53 (by decide) ?_
        exact s_zret rfl (by decide) dX1_isNamed_54 K0
    · have K0 := K0.2 q
      refine r_aload_n (pc := 19) dX1_isNamed_19 rfl ?_
      refine r_iload_n (pc := 20) dX1_isNamed_20 rfl ?_
      refine r_iload (pc := 21) dX1_isNamed_21 rfl ?_
      refine r_iadd (pc := 23) dX1_isNamed_23 ?_
      obtain ⟨i_5, K0⟩ := K0
      refine s_bald (pc := 24) dX1_isNamed_24 k_b2 i_5 ?_
      refine r_bipush (pc := 25) (v := 97) dX1_isNamed_25 (by decide) ?_
      refine r_isub (pc := 27) dX1_isNamed_27 ?_
      refine r_iconst (pc := 28) (v := 1) dX1_isNamed_28 (by decide) ?_
      refine r_iadd (pc := 29) dX1_isNamed_29 ?_
      refine r_goto (pc := 30) (tgt := 34) dX1_isNamed_30 (by decide) ?_
      refine r_istore (pc := 34) dX1_isNamed_34 (by decide) ?_
      refine r_aload_n (pc := 36) (L := [some (.ref b0), some (.int l1), some (.ref b2), some (.int l3), some (.int l4), some (.int l5), some (.int (((gi x b2 ((l3 + l5) : Int32).toNatClampNeg) - 97) + 1))]) dX1_isNamed_36 rfl ?_
      refine s_getR (pc := 37) dX1_isNamed_37 fl_X1_15 rfl k_b0 g_b0_1 ?_
      refine r_iload_n (pc := 40) dX1_isNamed_40 rfl ?_
      refine r_bipush (pc := 41) (v := 6) dX1_isNamed_41 (by decide) ?_
      refine r_imul (pc := 43) dX1_isNamed_43 ?_
      refine r_iload (pc := 44) dX1_isNamed_44 rfl ?_
      refine r_iadd (pc := 46) dX1_isNamed_46 ?_
      obtain ⟨i_6, K0⟩ := K0
      refine s_iald (pc := 47) dX1_isNamed_47 k_b0_1 i_6 ?_
      refine r_iload (pc := 48) dX1_isNamed_48 rfl ?_
      refine r_icmp_eq (pc := 50) (tgt := 55) dX1_isNamed_50 (by decide) (fun q => ?_) (fun q => ?_)
      · have K0 := K0.1 q
        refine r_iinc (pc := 55) (v := l5 + 1) dX1_isNamed_55 rfl rfl (by decide) ?_
        refine r_goto (pc := 58) (L := [some (.ref b0), some (.int l1), some (.ref b2), some (.int l3), some (.int l4), some (.int (l5 + 1)), some (.int (((gi x b2 ((l3 + l5) : Int32).toNatClampNeg) - 97) + 1))]) (tgt := 3) dX1_isNamed_58 (by decide) ?_
        exact r_le (L' := [some (.ref b0), some (.int l1), some (.ref b2), some (.int l3), some (.int l4), some (.int (l5 + 1)), none]) ⟨rfl, ⟨rfl, ⟨rfl, ⟨rfl, ⟨rfl, ⟨rfl, trivial⟩⟩⟩⟩⟩⟩ K0
      · have K0 := K0.2 q
        refine r_iconst (pc := 53) (v := 0) dX1_isNamed_53 (by decide) ?_
        exact s_zret rfl (by decide) dX1_isNamed_54 K0
section
theorem sp_X1_isNamed {x : Cn} {Q : Int32 → Cn → Prop} {nb cr w bt nB fr to : Nat} (k1 : kk KW nb = some (1, 0)) (g1 : gr x nb 1 = some (nb + 1)) (k2 : kk KW (nb + 1) = some (20, 48)) (kb : kk KW bt = some (21, nB)) (hc : cr < 8) (hw : w < 387420489) (hv : ∀ i, i < 6 → gi x (nb + 1) (6 * cr + i) = nI (dg w i)) (h : ltr (gi x bt) fr to) (hto : to ≤ nB) (hft : fr ≤ to) (hnB : nB ≤ 1200) (k : Q (b2i (w = pkv (gi x bt) fr to)) x) : mSI mX1_isNamed [.ref nb, .int (nI cr), .ref bt, .int (nI fr), .int (nI to)] KW x Q := by
  have no : ∀ i, i < 6 → ¬ dg w i = bd (gi x bt) fr to i → Q 0 x := fun i hi hne => by
    rw [b2i_f (fun e => hne (by rw [e]; exact pkv_dg h i hi))] at k
    exact k
  have key : ∀ r i, i + r = 6 → (∀ j, j < i → dg w j = bd (gi x bt) fr to j) → GI mX1_isNamed 3 [some (.ref nb), some (.int (nI cr)), some (.ref bt), some (.int (nI fr)), some (.int (nI to)), some (.int (nI i)), none] [] KW x Q := by
    intro r
    induction r with
    | zero =>
      intro i hi hj
      have : i = 6 := by omega
      subst this
      refine v_X1_isNamed_3 k1 g1 k2 kb ⟨fun _ => ?_, fun z => absurd (Int32.le_refl _) z⟩
      rw [b2i_t (dg_inj hw (pkv_lt h) (fun j hj6 => by rw [hj j hj6, pkv_dg h j hj6]))] at k
      exact k
    | succ r ih =>
      intro i hi hj
      have hd := dg_lt w i
      have ix : (nI cr * 6) + nI i = nI (6 * cr + i) := by rw [show (6 : Int32) = nI 6 by decide, pk_mul, nI_add, Nat.mul_comm]
      have i2 : nI fr + nI i = nI (fr + i) := nI_add fr i
      by_cases big : fr < 2 ^ 30
      · have hb := bd_lt h i
        refine v_X1_isNamed_3 k1 g1 k2 kb ⟨fun z => absurd z (nI_ge (b := 6) (by omega) (by decide)), fun _ => ?_⟩
        rw [ix, i2, nI_clamp (show 6 * cr + i < 2 ^ 31 by omega), nI_clamp (show fr + i < 2 ^ 31 by omega), hv i (by omega), nI_1, nI_leI (by omega) (by omega)]
        have go : dg w i = bd (gi x bt) fr to i → GI mX1_isNamed 3 [some (.ref nb), some (.int (nI cr)), some (.ref bt), some (.int (nI fr)), some (.int (nI to)), some (.int (nI (i + 1))), none] [] KW x Q := fun e => ih (i + 1) (by omega) (fun j hj' => by
          by_cases c : j = i
          · rw [c]; exact e
          · exact hj j (by omega))
        refine ⟨fun z => ⟨vp_in_nI (by omega) (by decide), fun z2 => go ?_, fun z2 => no i (by omega) ?_⟩, fun z => ⟨vp_in_nI (by omega) (by omega), vp_in_nI (by omega) (by decide), ?_⟩⟩
        · unfold bd; rw [if_neg (by omega)]; exact (nI_z (by omega)).mp z2
        · unfold bd; rw [if_neg (by omega)]; exact fun e => z2 (by rw [e]; rfl)
        · obtain ⟨m, m1, m2, m3⟩ := h (fr + i) (by omega) (by omega)
          have eb : bd (gi x bt) fr to i = m - 96 := by
            unfold bd
            rw [if_pos (by omega), m3, nI_clamp (by omega)]
          rw [m3, let_v m1 m2, nI_eq (by omega) (by omega)]
          exact ⟨fun z2 => go (by rw [eb]; exact z2), fun z2 => no i (by omega) (by rw [eb]; exact z2)⟩
      · omega
  exact v_X1_isNamed_0 (key 6 0 (by omega) (fun j hj => by omega))
end
set_option maxHeartbeats 2000000 in
theorem v_X1_carrierNamed_0 {K : Sh} {x : Cn} {Q : Int32 → Cn → Prop} {b0 : Nat} {b1 : Nat} {l2 : Int32} {l3 : Int32}   (K0 : GI mX1_carrierNamed 3 [some (.ref b0), some (.ref b1), some (.int l2), some (.int l3), some (.int 0)] [] K x Q) : mSI mX1_carrierNamed [.ref b0, .ref b1, .int l2, .int l3] K x Q := by
  refine s_I (by decide) (by simp [Value.category]) (Nat.le_of_ble_eq_true rfl) ?_
  show mGM mX1_carrierNamed 0 [some (.ref b0), some (.ref b1), some (.int l2), some (.int l3), none] [] (hp K x) (PI K Q)
  refine r_iconst (pc := 0) (v := 0) dX1_carrierNamed_0 (by decide) ?_
  refine r_istore (pc := 1) dX1_carrierNamed_1 (by decide) ?_
  exact r_le (L' := [some (.ref b0), some (.ref b1), some (.int l2), some (.int l3), some (.int 0)]) ⟨rfl, ⟨rfl, ⟨rfl, ⟨rfl, ⟨rfl, trivial⟩⟩⟩⟩⟩ K0
set_option maxHeartbeats 2000000 in
theorem v_X1_carrierNamed_3 {K : Sh} {x : Cn} {Q : Int32 → Cn → Prop} {b0 : Nat} {b1 : Nat} {l2 : Int32} {l3 : Int32} {l4 : Int32}  (k_b0 : kk K b0 = some (1, 0)) (K0 : ((gi x b0 0) ≤ l4 → (Q (-1) x)) ∧ (¬ (gi x b0 0) ≤ l4 → (mSI mX1_isNamed [.ref b0, .int l4, .ref b1, .int l2, .int l3] K x (fun r_3 y_2 => (r_3 = 0 → (GI mX1_carrierNamed 3 [some (.ref b0), some (.ref b1), some (.int l2), some (.int l3), some (.int (l4 + 1))] [] K y_2 Q)) ∧ (¬ r_3 = 0 → (Q l4 y_2)))))) : GI mX1_carrierNamed 3 [some (.ref b0), some (.ref b1), some (.int l2), some (.int l3), some (.int l4)] [] K x Q := by
  show mGM mX1_carrierNamed 3 [some (.ref b0), some (.ref b1), some (.int l2), some (.int l3), some (.int l4)] [] (hp K x) (PI K Q)
  refine r_iload (pc := 3) dX1_carrierNamed_3 rfl ?_
  refine r_aload_n (pc := 5) dX1_carrierNamed_5 rfl ?_
  refine s_getI (pc := 6) dX1_carrierNamed_6 fl_X1_9 rfl k_b0 ?_
  refine r_icmp_ge (pc := 9) (tgt := 33) dX1_carrierNamed_9 (by decide) (fun q => ?_) (fun q => ?_)
  · have K0 := K0.1 q
    refine r_iconst (pc := 33) (v := (-1)) dX1_carrierNamed_33 (by decide) ?_
    exact s_iret rfl dX1_carrierNamed_34 K0
  · have K0 := K0.2 q
    refine r_aload_n (pc := 12) dX1_carrierNamed_12 rfl ?_
    refine r_iload (pc := 13) dX1_carrierNamed_13 rfl ?_
    refine r_aload_n (pc := 15) dX1_carrierNamed_15 rfl ?_
    refine r_iload_n (pc := 16) dX1_carrierNamed_16 rfl ?_
    refine r_iload_n (pc := 17) dX1_carrierNamed_17 rfl ?_
    refine s_VI (pc := 18) mX1_isNamed (ci := 1) (a := b0) (As := [.int l4, .ref b1, .int l2, .int l3]) dX1_carrierNamed_18 lk_X1_19 in_X1_isNamed mo_X1_isNamed ⟨by decide, rfl⟩ ⟨by decide, by decide⟩ (Nat.le_of_ble_eq_true rfl) k_b0 (mSI_mono K0 (fun r_3 y_2 K0 => ?_))
    refine r_if_eq (pc := 21) (tgt := 27) dX1_carrierNamed_21 (by decide) (fun q => ?_) (fun q => ?_)
    · have K0 := K0.1 q
      refine r_iinc (pc := 27) (v := l4 + 1) dX1_carrierNamed_27 rfl rfl (by decide) ?_
      refine r_goto (pc := 30) (L := [some (.ref b0), some (.ref b1), some (.int l2), some (.int l3), some (.int (l4 + 1))]) (tgt := 3) dX1_carrierNamed_30 (by decide) ?_
      exact r_le (L' := [some (.ref b0), some (.ref b1), some (.int l2), some (.int l3), some (.int (l4 + 1))]) ⟨rfl, ⟨rfl, ⟨rfl, ⟨rfl, ⟨rfl, trivial⟩⟩⟩⟩⟩ K0
    · have K0 := K0.2 q
      refine r_iload (pc := 24) dX1_carrierNamed_24 rfl ?_
      exact s_iret rfl dX1_carrierNamed_26 K0
section
theorem sp_X1_carrierNamed {x : Cn} {Q : Int32 → Cn → Prop} {T : TT} {C nb bt nB fr to : Nat} (k1 : kk KW nb = some (1, 0)) (g1 : gr x nb 1 = some (nb + 1)) (k2 : kk KW (nb + 1) = some (20, 48)) (kb : kk KW bt = some (21, nB)) (hC : C ≤ 8) (nm : NMr x nb T C) (h : ltr (gi x bt) fr to) (hto : to ≤ nB) (hft : fr ≤ to) (hnB : nB ≤ 1200) (k : Q (fnd T C (pkv (gi x bt) fr to)) x) : mSI mX1_carrierNamed [.ref nb, .ref bt, .int (nI fr), .int (nI to)] KW x Q := by
  refine v_X1_carrierNamed_0 (lp_gen (stN T (pkv (gi x bt) fr to)) (fun _ => -1) (fun c _ => GI mX1_carrierNamed 3 [some (.ref nb), some (.ref bt), some (.int (nI fr)), some (.int (nI to)), some (.int (nI c))] [] KW x Q) (fun r => Q r x) C (fun _ q => ?_) (fun c _ hc n1 n2 => ?_) C 0 () (by omega) k)
  · exact v_X1_carrierNamed_3 k1 ⟨fun _ => q, fun z => absurd (by rw [nm.1]; exact Int32.le_refl _) z⟩
  · obtain ⟨w, ⟨hw0, hw1⟩, hw2, hw3⟩ := nm.2 c hc
    have pl := pkv_lt h
    refine v_X1_carrierNamed_3 k1 ⟨fun z => absurd (by rw [nm.1] at z; exact z) (nI_ge hc (by omega)), fun _ => sp_X1_isNamed k1 g1 k2 kb (by omega) hw1 hw3 h hto hft hnB ⟨fun z => ?_, fun z => ?_⟩⟩
    · rw [nI_1]
      refine n1 () ?_
      unfold stN
      rw [if_neg (fun e => (b2i_z _).mp z ((nI_eq (by omega) (by omega)).mp (hw2.symm.trans e)))]
    · refine n2 _ ?_
      unfold stN
      rw [if_pos (by rw [hw2, b2i_nz z])]
end
set_option maxHeartbeats 2000000 in
theorem v_X8_findName_0 {K : Sh} {x : Cn} {Q : Int32 → Cn → Prop} {b0 : Nat} {l1 : Int32}   (K0 : GI mX8_findName 2 [some (.ref b0), some (.int l1), some (.int 0)] [] K x Q) : mSI mX8_findName [.ref b0, .int l1] K x Q := by
  refine s_I (by decide) (by simp [Value.category]) (Nat.le_of_ble_eq_true rfl) ?_
  show mGM mX8_findName 0 [some (.ref b0), some (.int l1), none] [] (hp K x) (PI K Q)
  refine r_iconst (pc := 0) (v := 0) dX8_findName_0 (by decide) ?_
  refine r_istore_n (pc := 1) dX8_findName_1 (by decide) ?_
  exact r_le (L' := [some (.ref b0), some (.int l1), some (.int 0)]) ⟨rfl, ⟨rfl, ⟨rfl, trivial⟩⟩⟩ K0
set_option maxHeartbeats 2000000 in
theorem v_X8_findName_2 {K : Sh} {x : Cn} {Q : Int32 → Cn → Prop} {b0 : Nat} {l1 : Int32} {l2 : Int32} {b0_3 : Nat} {n_b0_3 : Nat} (k_b0 : kk K b0 = some (8, 0)) (g_b0_3 : gr x b0 3 = some b0_3) (k_b0_3 : kk K b0_3 = some (20, n_b0_3)) (K0 : vp_in 1 n_b0_3 ∧ (((gi x b0_3 1) ≤ l2 → (Q (-1) x)) ∧ (¬ (gi x b0_3 1) ≤ l2 → (vp_in (54 + l2) n_b0_3 ∧ ((¬ (gi x b0_3 ((54 + l2) : Int32).toNatClampNeg) = l1 → (GI mX8_findName 2 [some (.ref b0), some (.int l1), some (.int (l2 + 1))] [] K x Q)) ∧ ((gi x b0_3 ((54 + l2) : Int32).toNatClampNeg) = l1 → (Q l2 x))))))) : GI mX8_findName 2 [some (.ref b0), some (.int l1), some (.int l2)] [] K x Q := by
  show mGM mX8_findName 2 [some (.ref b0), some (.int l1), some (.int l2)] [] (hp K x) (PI K Q)
  refine r_iload_n (pc := 2) dX8_findName_2 rfl ?_
  refine r_aload_n (pc := 3) dX8_findName_3 rfl ?_
  refine s_getR (pc := 4) dX8_findName_4 fl_X8_16 rfl k_b0 g_b0_3 ?_
  refine r_iconst (pc := 7) (v := 1) dX8_findName_7 (by decide) ?_
  obtain ⟨i_1, K0⟩ := K0
  refine s_iald (pc := 8) dX8_findName_8 k_b0_3 i_1 ?_
  refine r_icmp_ge (pc := 9) (tgt := 33) dX8_findName_9 (by decide) (fun q => ?_) (fun q => ?_)
  · have K0 := K0.1 q
    refine r_iconst (pc := 33) (v := (-1)) dX8_findName_33 (by decide) ?_
    exact s_iret rfl dX8_findName_34 K0
  · have K0 := K0.2 q
    refine r_aload_n (pc := 12) dX8_findName_12 rfl ?_
    refine s_getR (pc := 13) dX8_findName_13 fl_X8_16 rfl k_b0 g_b0_3 ?_
    refine r_bipush (pc := 16) (v := 54) dX8_findName_16 (by decide) ?_
    refine r_iload_n (pc := 18) dX8_findName_18 rfl ?_
    refine r_iadd (pc := 19) dX8_findName_19 ?_
    obtain ⟨i_3, K0⟩ := K0
    refine s_iald (pc := 20) dX8_findName_20 k_b0_3 i_3 ?_
    refine r_iload_n (pc := 21) dX8_findName_21 rfl ?_
    refine r_icmp_ne (pc := 22) (tgt := 27) dX8_findName_22 (by decide) (fun q => ?_) (fun q => ?_)
    · have K0 := K0.1 q
      refine r_iinc (pc := 27) (v := l2 + 1) dX8_findName_27 rfl rfl (by decide) ?_
      refine r_goto (pc := 30) (L := [some (.ref b0), some (.int l1), some (.int (l2 + 1))]) (tgt := 2) dX8_findName_30 (by decide) ?_
      exact r_le (L' := [some (.ref b0), some (.int l1), some (.int (l2 + 1))]) ⟨rfl, ⟨rfl, ⟨rfl, trivial⟩⟩⟩ K0
    · have K0 := K0.2 q
      refine r_iload_n (pc := 25) dX8_findName_25 rfl ?_
      exact s_iret rfl dX8_findName_26 K0
section
theorem sp_X8_findName {x : Cn} {Q : Int32 → Cn → Prop} {t C v : Nat} (M : MRf x t) (ht : kk KW t = some (20, 518)) (h1 : gi x t 1 = nI C) (hC : C ≤ 8) (k : Q (fnd (gi x t) C v) x) : mSI mX8_findName [.ref 717, .int (nI v)] KW x Q := by
  refine v_X8_findName_0 (lp_gen (stN (gi x t) v) (fun _ => -1) (fun c _ => GI mX8_findName 2 [some (.ref 717), some (.int (nI v)), some (.int (nI c))] [] KW x Q) (fun r => Q r x) C (fun _ q => ?_) (fun c _ hc n1 n2 => ?_) C 0 () (by omega) k)
  · exact v_X8_findName_2 km M.2.2.1 ht ⟨v0 (k := 1) (by decide) rfl rfl, fun _ => q, fun z => absurd (by rw [h1]; exact Int32.le_refl _) z⟩
  · refine v_X8_findName_2 km M.2.2.1 ht ⟨v0 (k := 1) (by decide) rfl rfl, fun z => absurd (by rw [h1] at z; exact z) (nI_ge hc (by omega)), fun _ => ?_⟩
    rw [show (54 : Int32) + nI c = nI (54 + c) from nI_add 54 c, nI_clamp (by omega), nI_1]
    refine ⟨vp_in_nI (by omega) (by decide), fun z => n1 () ?_, fun z => n2 _ ?_⟩
    · unfold stN; rw [if_neg z]
    · unfold stN; rw [if_pos z]
end
set_option maxHeartbeats 2000000 in
theorem v_X8_packed_0 {K : Sh} {x : Cn} {Q : Int32 → Cn → Prop} {b0 : Nat} {l1 : Int32} {l2 : Int32}   (K0 : GI mX8_packed 5 [some (.ref b0), some (.int l1), some (.int l2), some (.int 0), some (.int 0)] [] K x Q) : mSI mX8_packed [.ref b0, .int l1, .int l2] K x Q := by
  refine s_I (by decide) (by simp [Value.category]) (Nat.le_of_ble_eq_true rfl) ?_
  show mGM mX8_packed 0 [some (.ref b0), some (.int l1), some (.int l2), none, none] [] (hp K x) (PI K Q)
  refine r_iconst (pc := 0) (v := 0) dX8_packed_0 (by decide) ?_
  refine r_istore_n (pc := 1) dX8_packed_1 (by decide) ?_
  refine r_iconst (pc := 2) (L := [some (.ref b0), some (.int l1), some (.int l2), some (.int 0), none]) (v := 0) dX8_packed_2 (by decide) ?_
  refine r_istore (pc := 3) dX8_packed_3 (by decide) ?_
  exact r_le (L' := [some (.ref b0), some (.int l1), some (.int l2), some (.int 0), some (.int 0)]) ⟨rfl, ⟨rfl, ⟨rfl, ⟨rfl, ⟨rfl, trivial⟩⟩⟩⟩⟩ K0
set_option maxHeartbeats 2000000 in
theorem v_X8_packed_5 {K : Sh} {x : Cn} {Q : Int32 → Cn → Prop} {b0 : Nat} {l1 : Int32} {l2 : Int32} {l3 : Int32} {l4 : Int32} {b0_4 : Nat} {n_b0_4 : Nat} (k_b0 : kk K b0 = some (8, 0)) (g_b0_4 : gr x b0 4 = some b0_4) (k_b0_4 : kk K b0_4 = some (21, n_b0_4)) (K0 : (6 ≤ l4 → (Q l3 x)) ∧ (¬ 6 ≤ l4 → ((l2 ≤ (l1 + l4) → (GI mX8_packed 5 [some (.ref b0), some (.int l1), some (.int l2), some (.int ((27 * l3) + 0)), some (.int (l4 + 1))] [] K x Q)) ∧ (¬ l2 ≤ (l1 + l4) → (vp_in (l1 + l4) n_b0_4 ∧ (∀ r_4 : Int32, r_4 = ((27 * l3) + (((gi x b0_4 ((l1 + l4) : Int32).toNatClampNeg) - 97) + 1)) → (GI mX8_packed 5 [some (.ref b0), some (.int l1), some (.int l2), some (.int r_4), some (.int (l4 + 1))] [] K x Q))))))) : GI mX8_packed 5 [some (.ref b0), some (.int l1), some (.int l2), some (.int l3), some (.int l4)] [] K x Q := by
  show mGM mX8_packed 5 [some (.ref b0), some (.int l1), some (.int l2), some (.int l3), some (.int l4)] [] (hp K x) (PI K Q)
  refine r_iload (pc := 5) dX8_packed_5 rfl ?_
  refine r_bipush (pc := 7) (v := 6) dX8_packed_7 (by decide) ?_
  refine r_icmp_ge (pc := 9) (tgt := 50) dX8_packed_9 (by decide) (fun q => ?_) (fun q => ?_)
  · have K0 := K0.1 q
    refine r_iload_n (pc := 50) dX8_packed_50 rfl ?_
    exact s_iret rfl dX8_packed_51 K0
  · have K0 := K0.2 q
    refine r_bipush (pc := 12) (v := 27) dX8_packed_12 (by decide) ?_
    refine r_iload_n (pc := 14) dX8_packed_14 rfl ?_
    refine r_imul (pc := 15) dX8_packed_15 ?_
    refine r_iload_n (pc := 16) dX8_packed_16 rfl ?_
    refine r_iload (pc := 17) dX8_packed_17 rfl ?_
    refine r_iadd (pc := 19) dX8_packed_19 ?_
    refine r_iload_n (pc := 20) dX8_packed_20 rfl ?_
    refine r_icmp_ge (pc := 21) (tgt := 41) dX8_packed_21 (by decide) (fun q => ?_) (fun q => ?_)
    · have K0 := K0.1 q
      refine r_iconst (pc := 41) (v := 0) dX8_packed_41 (by decide) ?_
      refine r_iadd (pc := 42) dX8_packed_42 ?_
      refine r_istore_n (pc := 43) dX8_packed_43 (by decide) ?_
      refine r_iinc (pc := 44) (L := [some (.ref b0), some (.int l1), some (.int l2), some (.int ((27 * l3) + 0)), some (.int l4)]) (v := l4 + 1) dX8_packed_44 rfl rfl (by decide) ?_
      refine r_goto (pc := 47) (L := [some (.ref b0), some (.int l1), some (.int l2), some (.int ((27 * l3) + 0)), some (.int (l4 + 1))]) (tgt := 5) dX8_packed_47 (by decide) ?_
      exact r_le (L' := [some (.ref b0), some (.int l1), some (.int l2), some (.int ((27 * l3) + 0)), some (.int (l4 + 1))]) ⟨rfl, ⟨rfl, ⟨rfl, ⟨rfl, ⟨rfl, trivial⟩⟩⟩⟩⟩ K0
    · have K0 := K0.2 q
      refine r_aload_n (pc := 24) dX8_packed_24 rfl ?_
      refine s_getR (pc := 25) dX8_packed_25 fl_X8_19 rfl k_b0 g_b0_4 ?_
      refine r_iload_n (pc := 28) dX8_packed_28 rfl ?_
      refine r_iload (pc := 29) dX8_packed_29 rfl ?_
      refine r_iadd (pc := 31) dX8_packed_31 ?_
      obtain ⟨i_3, K0⟩ := K0
      refine s_bald (pc := 32) dX8_packed_32 k_b0_4 i_3 ?_
      refine r_bipush (pc := 33) (v := 97) dX8_packed_33 (by decide) ?_
      refine r_isub (pc := 35) dX8_packed_35 ?_
      refine r_iconst (pc := 36) (v := 1) dX8_packed_36 (by decide) ?_
      refine r_iadd (pc := 37) dX8_packed_37 ?_
      refine r_goto (pc := 38) (tgt := 42) dX8_packed_38 (by decide) ?_
      refine r_iadd (pc := 42) dX8_packed_42 ?_
      obtain ⟨r_4, w_5⟩ : ∃ z : Int32, z = ((27 * l3) + (((gi x b0_4 ((l1 + l4) : Int32).toNatClampNeg) - 97) + 1)) := ⟨_, rfl⟩
      rw [← w_5]
      have K0 := K0 r_4 w_5
      refine r_istore_n (pc := 43) dX8_packed_43 (by decide) ?_
      refine r_iinc (pc := 44) (L := [some (.ref b0), some (.int l1), some (.int l2), some (.int r_4), some (.int l4)]) (v := l4 + 1) dX8_packed_44 rfl rfl (by decide) ?_
      refine r_goto (pc := 47) (L := [some (.ref b0), some (.int l1), some (.int l2), some (.int r_4), some (.int (l4 + 1))]) (tgt := 5) dX8_packed_47 (by decide) ?_
      exact r_le (L' := [some (.ref b0), some (.int l1), some (.int l2), some (.int r_4), some (.int (l4 + 1))]) ⟨rfl, ⟨rfl, ⟨rfl, ⟨rfl, ⟨rfl, trivial⟩⟩⟩⟩⟩ K0
section
theorem sp_X8_packed {x : Cn} {Q : Int32 → Cn → Prop} {t fr to : Nat} (M : MRf x t) (h : ltr (gi x 720) fr to) (hto : to ≤ 1200) (hft : fr ≤ to) (k : Q (nI (pkv (gi x 720) fr to)) x) : mSI mX8_packed [.ref 717, .int (nI fr), .int (nI to)] KW x Q := by
  have key : ∀ r i, i + r = 6 → GI mX8_packed 5 [some (.ref 717), some (.int (nI fr)), some (.int (nI to)), some (.int (nI (pkn (gi x 720) fr to i))), some (.int (nI i))] [] KW x Q := by
    intro r
    induction r with
    | zero =>
      intro i hi
      have : i = 6 := by omega
      subst this
      exact v_X8_packed_5 km M.2.2.2.1 km720 ⟨fun _ => k, fun z => absurd (Int32.le_refl _) z⟩
    | succ r ih =>
      intro i hi
      have pn := pkn_lt h i (by omega)
      have p5 : 27 ^ i ≤ 27 ^ 5 := Nat.pow_le_pow_right (by decide) (by omega)
      have p6 : (27 : Nat) ^ 5 = 14348907 := by decide
      have i2 : nI fr + nI i = nI (fr + i) := nI_add fr i
      have m27 : (27 : Int32) * nI (pkn (gi x 720) fr to i) = nI (27 * pkn (gi x 720) fr to i) := pk_mul 27 _
      refine v_X8_packed_5 km M.2.2.2.1 km720 ⟨fun z => absurd z (nI_ge (b := 6) (by omega) (by decide)), fun _ => ?_⟩
      rw [i2, nI_1, nI_clamp (by omega), nI_leI (by omega) (by omega), m27]
      refine ⟨fun z => ?_, fun z => ⟨vp_in_nI (by omega) (by decide), fun q hq => ?_⟩⟩
      · have e : nI (27 * pkn (gi x 720) fr to i) + 0 = nI (pkn (gi x 720) fr to (i + 1)) := by
          show nI (27 * pkn (gi x 720) fr to i) + nI 0 = nI (27 * pkn (gi x 720) fr to i + bd (gi x 720) fr to i)
          rw [nI_add]
          congr 1
          unfold bd
          rw [if_neg (by omega)]
        rw [e]
        exact ih (i + 1) (by omega)
      · obtain ⟨m, m1, m2, m3⟩ := h (fr + i) (by omega) (by omega)
        have e : q = nI (pkn (gi x 720) fr to (i + 1)) := by
          show q = nI (27 * pkn (gi x 720) fr to i + bd (gi x 720) fr to i)
          rw [hq, m3, let_v m1 m2, nI_add]
          congr 1
          unfold bd
          rw [if_pos (by omega), m3, nI_clamp (by omega)]
        rw [e]
        exact ih (i + 1) (by omega)
  exact v_X8_packed_0 (key 6 0 (by omega))
end
set_option maxHeartbeats 2000000 in
theorem v_X7_find_0 {K : Sh} {x : Cn} {Q : Int32 → Cn → Prop} {b0 : Nat} {b0_2 : Nat} (k_b0 : kk K b0 = some (7, 0)) (g_b0_2 : gr x b0 2 = some b0_2) (k_b0_2 : kk K b0_2 = some (4, 0)) (K0 : (¬ (0 < gi (ui x b0 1 0) b0_2 0) → (Q (-2) (ui x b0 1 0))) ∧ ((0 < gi (ui x b0 1 0) b0_2 0) → (((1 ≤ (gi x b0 1) ∧ (gi x b0 1) ≤ 6) → (GI mX7_find 32 [some (.ref b0), some (.int (gi x b0 1)), some (.int 0)] [] K (ui x b0 1 0) Q)) ∧ (¬ (1 ≤ (gi x b0 1) ∧ (gi x b0 1) ≤ 6) → (Q (-2) (ui x b0 1 0)))))) : mSI mX7_find [.ref b0] K x Q := by
  refine s_I (by decide) (by simp [Value.category]) (Nat.le_of_ble_eq_true rfl) ?_
  show mGM mX7_find 0 [some (.ref b0), none, none] [] (hp K x) (PI K Q)
  refine r_aload_n (pc := 0) dX7_find_0 rfl ?_
  refine s_getI (pc := 1) dX7_find_1 fl_X7_13 rfl k_b0 ?_
  refine r_istore_n (pc := 4) dX7_find_4 (by decide) ?_
  refine r_aload_n (pc := 5) (L := [some (.ref b0), some (.int (gi x b0 1)), none]) dX7_find_5 rfl ?_
  refine r_iconst (pc := 6) (v := 0) dX7_find_6 (by decide) ?_
  refine s_putI (pc := 7) dX7_find_7 fl_X7_13 rfl rfl k_b0 ?_
  refine r_aload_n (pc := 10) dX7_find_10 rfl ?_
  refine s_VI (pc := 11) mX7_hasText (ci := 7) (a := b0) (As := []) dX7_find_11 lk_X7_121 in_X7_hasText mo_X7_hasText ⟨by decide, rfl⟩ ⟨by decide, by decide⟩ (Nat.le_of_ble_eq_true rfl) k_b0 (sp_X7_hasText k_b0 g_b0_2 k_b0_2 ?_)
  refine r_if_eq (pc := 14) (tgt := 27) dX7_find_14 (by decide) (fun q => ?_) (fun q => ?_)
  · have q := (b2i_z _).mp q
    have K0 := K0.1 q
    refine r_bipush (pc := 27) (v := (-2)) dX7_find_27 (by decide) ?_
    exact s_iret rfl dX7_find_29 K0
  · have q := b2i_nz q
    have K0 := K0.2 q
    refine r_iload_n (pc := 17) dX7_find_17 rfl ?_
    refine r_iconst (pc := 18) (v := 1) dX7_find_18 (by decide) ?_
    refine r_bipush (pc := 19) (v := 6) dX7_find_19 (by decide) ?_
    refine s_SI (pc := 21) mX7_isWithin (As := [.int (gi x b0 1), .int 1, .int 6]) dX7_find_21 lk_X7_113 st_X7_isWithin mo_X7_isWithin ⟨by decide, by decide⟩ (Nat.le_of_ble_eq_true rfl) (sp_X7_isWithin  ?_)
    refine r_if_ne (pc := 24) (tgt := 30) dX7_find_24 (by decide) (fun q => ?_) (fun q => ?_)
    · have q := b2i_nz q
      have K0 := K0.1 q
      refine r_iconst (pc := 30) (v := 0) dX7_find_30 (by decide) ?_
      refine r_istore_n (pc := 31) dX7_find_31 (by decide) ?_
      exact r_le (L' := [some (.ref b0), some (.int (gi x b0 1)), some (.int 0)]) ⟨rfl, ⟨rfl, ⟨rfl, trivial⟩⟩⟩ K0
    · have q := (b2i_z _).mp q
      have K0 := K0.2 q
      refine r_bipush (pc := 27) (v := (-2)) dX7_find_27 (by decide) ?_
      exact s_iret rfl dX7_find_29 K0
set_option maxHeartbeats 2000000 in
theorem v_X7_find_32 {K : Sh} {x : Cn} {Q : Int32 → Cn → Prop} {b0 : Nat} {l1 : Int32} {l2 : Int32} {b0_3 : Nat} {b0_0 : Nat} {n_b0_0 : Nat} (k_b0 : kk K b0 = some (7, 0)) (g_b0_3 : gr x b0 3 = some b0_3) (g_b0_0 : gr x b0 0 = some b0_0) (k_b0_3 : kk K b0_3 = some (1, 0)) (k_b0_0 : kk K b0_0 = some (21, n_b0_0)) (K0 : (l1 ≤ l2 → (mSI mX1_carrierNamed [.ref b0_3, .ref b0_0, .int 0, .int l1] K x (fun r_3 y_2 => Q r_3 y_2))) ∧ (¬ l1 ≤ l2 → (vp_in l2 n_b0_0 ∧ (((97 ≤ (gi x b0_0 (l2 : Int32).toNatClampNeg) ∧ (gi x b0_0 (l2 : Int32).toNatClampNeg) ≤ 122) → (GI mX7_find 32 [some (.ref b0), some (.int l1), some (.int (l2 + 1))] [] K x Q)) ∧ (¬ (97 ≤ (gi x b0_0 (l2 : Int32).toNatClampNeg) ∧ (gi x b0_0 (l2 : Int32).toNatClampNeg) ≤ 122) → (Q (-2) x)))))) : GI mX7_find 32 [some (.ref b0), some (.int l1), some (.int l2)] [] K x Q := by
  show mGM mX7_find 32 [some (.ref b0), some (.int l1), some (.int l2)] [] (hp K x) (PI K Q)
  refine r_iload_n (pc := 32) dX7_find_32 rfl ?_
  refine r_iload_n (pc := 33) dX7_find_33 rfl ?_
  refine r_icmp_ge (pc := 34) (tgt := 58) dX7_find_34 (by decide) (fun q => ?_) (fun q => ?_)
  · have K0 := K0.1 q
    refine r_aload_n (pc := 58) dX7_find_58 rfl ?_
    refine s_getR (pc := 59) dX7_find_59 fl_X7_27 rfl k_b0 g_b0_3 ?_
    refine r_aload_n (pc := 62) dX7_find_62 rfl ?_
    refine s_getR (pc := 63) dX7_find_63 fl_X7_9 rfl k_b0 g_b0_0 ?_
    refine r_iconst (pc := 66) (v := 0) dX7_find_66 (by decide) ?_
    refine r_iload_n (pc := 67) dX7_find_67 rfl ?_
    refine s_VI (pc := 68) mX1_carrierNamed (ci := 1) (a := b0_3) (As := [.ref b0_0, .int 0, .int l1]) dX7_find_68 lk_X7_128 in_X1_carrierNamed mo_X1_carrierNamed ⟨by decide, rfl⟩ ⟨by decide, by decide⟩ (Nat.le_of_ble_eq_true rfl) k_b0_3 (mSI_mono K0 (fun r_3 y_2 K0 => ?_))
    exact s_iret rfl dX7_find_71 K0
  · have K0 := K0.2 q
    refine r_aload_n (pc := 37) dX7_find_37 rfl ?_
    refine s_getR (pc := 38) dX7_find_38 fl_X7_9 rfl k_b0 g_b0_0 ?_
    refine r_iload_n (pc := 41) dX7_find_41 rfl ?_
    obtain ⟨i_4, K0⟩ := K0
    refine s_bald (pc := 42) dX7_find_42 k_b0_0 i_4 ?_
    refine s_SI (pc := 43) mX7_isLetter (As := [.int (gi x b0_0 (l2 : Int32).toNatClampNeg)]) dX7_find_43 lk_X7_125 st_X7_isLetter mo_X7_isLetter ⟨by decide, by decide⟩ (Nat.le_of_ble_eq_true rfl) (sp_X7_isLetter  ?_)
    refine r_if_ne (pc := 46) (tgt := 52) dX7_find_46 (by decide) (fun q => ?_) (fun q => ?_)
    · have q := b2i_nz q
      have K0 := K0.1 q
      refine r_iinc (pc := 52) (v := l2 + 1) dX7_find_52 rfl rfl (by decide) ?_
      refine r_goto (pc := 55) (L := [some (.ref b0), some (.int l1), some (.int (l2 + 1))]) (tgt := 32) dX7_find_55 (by decide) ?_
      exact r_le (L' := [some (.ref b0), some (.int l1), some (.int (l2 + 1))]) ⟨rfl, ⟨rfl, ⟨rfl, trivial⟩⟩⟩ K0
    · have q := (b2i_z _).mp q
      have K0 := K0.2 q
      refine r_bipush (pc := 49) (v := (-2)) dX7_find_49 (by decide) ?_
      exact s_iret rfl dX7_find_51 K0
set_option maxHeartbeats 2000000 in
theorem v_X8_find_0 {K : Sh} {x : Cn} {Q : Int32 → Cn → Prop} {b0 : Nat} {b0_1 : Nat} {n_b0_1 : Nat} (k_b0 : kk K b0 = some (8, 0)) (g_b0_1 : gr x b0 1 = some b0_1) (k_b0_1 : kk K b0_1 = some (20, n_b0_1)) (K0 : vp_in 0 n_b0_1 ∧ ((¬ (0 < gi (ui x b0 5 0) b0_1 0) → (GI mX8_find 37 [some (.ref b0), some (.int (gi x b0 5)), some (.int 0), some (.int 0)] [] K (ui x b0 5 0) Q)) ∧ ((0 < gi (ui x b0 5 0) b0_1 0) → ((¬ (1 ≤ (gi x b0 5) ∧ (gi x b0 5) ≤ 6) → (GI mX8_find 37 [some (.ref b0), some (.int (gi x b0 5)), some (.int 0), some (.int 0)] [] K (ui x b0 5 0) Q)) ∧ ((1 ≤ (gi x b0 5) ∧ (gi x b0 5) ≤ 6) → (GI mX8_find 37 [some (.ref b0), some (.int (gi x b0 5)), some (.int 1), some (.int 0)] [] K (ui x b0 5 0) Q)))))) : mSI mX8_find [.ref b0] K x Q := by
  refine s_I (by decide) (by simp [Value.category]) (Nat.le_of_ble_eq_true rfl) ?_
  show mGM mX8_find 0 [some (.ref b0), none, none, none] [] (hp K x) (PI K Q)
  refine r_aload_n (pc := 0) dX8_find_0 rfl ?_
  refine s_getI (pc := 1) dX8_find_1 fl_X8_94 rfl k_b0 ?_
  refine r_istore_n (pc := 4) dX8_find_4 (by decide) ?_
  refine r_aload_n (pc := 5) (L := [some (.ref b0), some (.int (gi x b0 5)), none, none]) dX8_find_5 rfl ?_
  refine r_iconst (pc := 6) (v := 0) dX8_find_6 (by decide) ?_
  refine s_putI (pc := 7) dX8_find_7 fl_X8_94 rfl rfl k_b0 ?_
  refine r_aload_n (pc := 10) dX8_find_10 rfl ?_
  obtain ⟨i_1, K0⟩ := K0
  refine s_VI (pc := 11) mX8_isThere (ci := 8) (a := b0) (As := []) dX8_find_11 lk_X8_49 in_X8_isThere mo_X8_isThere ⟨by decide, rfl⟩ ⟨by decide, by decide⟩ (Nat.le_of_ble_eq_true rfl) k_b0 (sp_X8_isThere k_b0 g_b0_1 k_b0_1 i_1 ?_)
  refine r_if_eq (pc := 14) (tgt := 33) dX8_find_14 (by decide) (fun q => ?_) (fun q => ?_)
  · have q := (b2i_z _).mp q
    have K0 := K0.1 q
    refine r_iconst (pc := 33) (v := 0) dX8_find_33 (by decide) ?_
    refine r_istore_n (pc := 34) dX8_find_34 (by decide) ?_
    refine r_iconst (pc := 35) (L := [some (.ref b0), some (.int (gi x b0 5)), some (.int 0), none]) (v := 0) dX8_find_35 (by decide) ?_
    refine r_istore_n (pc := 36) dX8_find_36 (by decide) ?_
    exact r_le (L' := [some (.ref b0), some (.int (gi x b0 5)), some (.int 0), some (.int 0)]) ⟨rfl, ⟨rfl, ⟨rfl, ⟨rfl, trivial⟩⟩⟩⟩ K0
  · have q := b2i_nz q
    have K0 := K0.2 q
    refine r_iload_n (pc := 17) dX8_find_17 rfl ?_
    refine r_i2l (pc := 18) dX8_find_18 ?_
    refine r_lconst (pc := 19) (v := 1) dX8_find_19 (by decide) ?_
    refine r_ldc2 (pc := 20) (v := 6) dX8_find_20 cn_X8_53 ?_
    refine s_SI (pc := 23) mX8_in (As := [.long (((gi x b0 5) : Int32).toInt64), .long 1, .long 6]) dX8_find_23 lk_X8_45 st_X8_in mo_X8_in ⟨by decide, by decide⟩ (Nat.le_of_ble_eq_true rfl) (sq_X8_in (v := (gi x b0 5)) (lo := 1) (hi := 6) rfl (by decide) (by decide) ?_)
    refine r_if_eq (pc := 26) (tgt := 33) dX8_find_26 (by decide) (fun q => ?_) (fun q => ?_)
    · have q := (b2i_z _).mp q
      have K0 := K0.1 q
      refine r_iconst (pc := 33) (v := 0) dX8_find_33 (by decide) ?_
      refine r_istore_n (pc := 34) dX8_find_34 (by decide) ?_
      refine r_iconst (pc := 35) (L := [some (.ref b0), some (.int (gi x b0 5)), some (.int 0), none]) (v := 0) dX8_find_35 (by decide) ?_
      refine r_istore_n (pc := 36) dX8_find_36 (by decide) ?_
      exact r_le (L' := [some (.ref b0), some (.int (gi x b0 5)), some (.int 0), some (.int 0)]) ⟨rfl, ⟨rfl, ⟨rfl, ⟨rfl, trivial⟩⟩⟩⟩ K0
    · have q := b2i_nz q
      have K0 := K0.2 q
      refine r_iconst (pc := 29) (v := 1) dX8_find_29 (by decide) ?_
      refine r_goto (pc := 30) (tgt := 34) dX8_find_30 (by decide) ?_
      refine r_istore_n (pc := 34) dX8_find_34 (by decide) ?_
      refine r_iconst (pc := 35) (L := [some (.ref b0), some (.int (gi x b0 5)), some (.int 1), none]) (v := 0) dX8_find_35 (by decide) ?_
      refine r_istore_n (pc := 36) dX8_find_36 (by decide) ?_
      exact r_le (L' := [some (.ref b0), some (.int (gi x b0 5)), some (.int 1), some (.int 0)]) ⟨rfl, ⟨rfl, ⟨rfl, ⟨rfl, trivial⟩⟩⟩⟩ K0
set_option maxHeartbeats 2000000 in
theorem v_X8_find_37 {K : Sh} {x : Cn} {Q : Int32 → Cn → Prop} {b0 : Nat} {l1 : Int32} {l2 : Int32} {l3 : Int32} {b0_4 : Nat} {n_b0_4 : Nat} (k_b0 : kk K b0 = some (8, 0)) (g_b0_4 : gr x b0 4 = some b0_4) (k_b0_4 : kk K b0_4 = some (21, n_b0_4)) (K0 : (l1 ≤ l3 → ((l2 = 0 → (Q (-2) x)) ∧ (¬ l2 = 0 → (mSI mX8_packed [.ref b0, .int 0, .int l1] K x (fun r_4 y_3 => mSI mX8_findName [.ref b0, .int r_4] K y_3 (fun r_6 y_5 => Q r_6 y_5)))))) ∧ (¬ l1 ≤ l3 → ((l2 = 0 → ((l2 = 0 → (Q (-2) x)) ∧ (¬ l2 = 0 → (mSI mX8_packed [.ref b0, .int 0, .int l1] K x (fun r_10 y_9 => mSI mX8_findName [.ref b0, .int r_10] K y_9 (fun r_12 y_11 => Q r_12 y_11)))))) ∧ (¬ l2 = 0 → (vp_in l3 n_b0_4 ∧ (∀ r_14 : Int32, r_14 = (b2i (97 ≤ (gi x b0_4 (l3 : Int32).toNatClampNeg) ∧ (gi x b0_4 (l3 : Int32).toNatClampNeg) ≤ 122)) → (GI mX8_find 37 [some (.ref b0), some (.int l1), some (.int r_14), some (.int (l3 + 1))] [] K x Q))))))) : GI mX8_find 37 [some (.ref b0), some (.int l1), some (.int l2), some (.int l3)] [] K x Q := by
  show mGM mX8_find 37 [some (.ref b0), some (.int l1), some (.int l2), some (.int l3)] [] (hp K x) (PI K Q)
  refine r_iload_n (pc := 37) dX8_find_37 rfl ?_
  refine r_iload_n (pc := 38) dX8_find_38 rfl ?_
  refine r_icmp_ge (pc := 39) (tgt := 69) dX8_find_39 (by decide) (fun q => ?_) (fun q => ?_)
  · have K0 := K0.1 q
    refine r_iload_n (pc := 69) dX8_find_69 rfl ?_
    refine r_if_eq (pc := 70) (tgt := 86) dX8_find_70 (by decide) (fun q => ?_) (fun q => ?_)
    · have K0 := K0.1 q
      refine r_bipush (pc := 86) (v := (-2)) dX8_find_86 (by decide) ?_
      exact s_iret rfl dX8_find_88 K0
    · have K0 := K0.2 q
      refine r_aload_n (pc := 73) dX8_find_73 rfl ?_
      refine r_aload_n (pc := 74) dX8_find_74 rfl ?_
      refine r_iconst (pc := 75) (v := 0) dX8_find_75 (by decide) ?_
      refine r_iload_n (pc := 76) dX8_find_76 rfl ?_
      refine s_VI (pc := 77) mX8_packed (ci := 8) (a := b0) (As := [.int 0, .int l1]) dX8_find_77 lk_X8_204 in_X8_packed mo_X8_packed ⟨by decide, rfl⟩ ⟨by decide, by decide⟩ (Nat.le_of_ble_eq_true rfl) k_b0 (mSI_mono K0 (fun r_4 y_3 K0 => ?_))
      refine s_VI (pc := 80) mX8_findName (ci := 8) (a := b0) (As := [.int r_4]) dX8_find_80 lk_X8_224 in_X8_findName mo_X8_findName ⟨by decide, rfl⟩ ⟨by decide, by decide⟩ (Nat.le_of_ble_eq_true rfl) k_b0 (mSI_mono K0 (fun r_6 y_5 K0 => ?_))
      refine r_goto (pc := 83) (tgt := 88) dX8_find_83 (by decide) ?_
      exact s_iret rfl dX8_find_88 K0
  · have K0 := K0.2 q
    refine r_iload_n (pc := 42) dX8_find_42 rfl ?_
    refine r_if_eq (pc := 43) (tgt := 69) dX8_find_43 (by decide) (fun q => ?_) (fun q => ?_)
    · have K0 := K0.1 q
      refine r_iload_n (pc := 69) dX8_find_69 rfl ?_
      refine r_if_eq (pc := 70) (tgt := 86) dX8_find_70 (by decide) (fun q => ?_) (fun q => ?_)
      · have K0 := K0.1 q
        refine r_bipush (pc := 86) (v := (-2)) dX8_find_86 (by decide) ?_
        exact s_iret rfl dX8_find_88 K0
      · have K0 := K0.2 q
        refine r_aload_n (pc := 73) dX8_find_73 rfl ?_
        refine r_aload_n (pc := 74) dX8_find_74 rfl ?_
        refine r_iconst (pc := 75) (v := 0) dX8_find_75 (by decide) ?_
        refine r_iload_n (pc := 76) dX8_find_76 rfl ?_
        refine s_VI (pc := 77) mX8_packed (ci := 8) (a := b0) (As := [.int 0, .int l1]) dX8_find_77 lk_X8_204 in_X8_packed mo_X8_packed ⟨by decide, rfl⟩ ⟨by decide, by decide⟩ (Nat.le_of_ble_eq_true rfl) k_b0 (mSI_mono K0 (fun r_10 y_9 K0 => ?_))
        refine s_VI (pc := 80) mX8_findName (ci := 8) (a := b0) (As := [.int r_10]) dX8_find_80 lk_X8_224 in_X8_findName mo_X8_findName ⟨by decide, rfl⟩ ⟨by decide, by decide⟩ (Nat.le_of_ble_eq_true rfl) k_b0 (mSI_mono K0 (fun r_12 y_11 K0 => ?_))
        refine r_goto (pc := 83) (tgt := 88) dX8_find_83 (by decide) ?_
        exact s_iret rfl dX8_find_88 K0
    · have K0 := K0.2 q
      refine r_aload_n (pc := 46) dX8_find_46 rfl ?_
      refine s_getR (pc := 47) dX8_find_47 fl_X8_19 rfl k_b0 g_b0_4 ?_
      refine r_iload_n (pc := 50) dX8_find_50 rfl ?_
      obtain ⟨i_13, K0⟩ := K0
      refine s_bald (pc := 51) dX8_find_51 k_b0_4 i_13 ?_
      refine r_i2l (pc := 52) dX8_find_52 ?_
      refine r_ldc2 (pc := 53) (v := 97) dX8_find_53 cn_X8_122 ?_
      refine r_ldc2 (pc := 56) (v := 122) dX8_find_56 cn_X8_124 ?_
      refine s_SI (pc := 59) mX8_in (As := [.long (((gi x b0_4 (l3 : Int32).toNatClampNeg) : Int32).toInt64), .long 97, .long 122]) dX8_find_59 lk_X8_45 st_X8_in mo_X8_in ⟨by decide, by decide⟩ (Nat.le_of_ble_eq_true rfl) (sq_X8_in (v := (gi x b0_4 (l3 : Int32).toNatClampNeg)) (lo := 97) (hi := 122) rfl (by decide) (by decide) ?_)
      obtain ⟨r_14, w_15⟩ : ∃ z : Int32, z = (b2i (97 ≤ (gi x b0_4 (l3 : Int32).toNatClampNeg) ∧ (gi x b0_4 (l3 : Int32).toNatClampNeg) ≤ 122)) := ⟨_, rfl⟩
      rw [← w_15]
      have K0 := K0 r_14 w_15
      refine r_istore_n (pc := 62) dX8_find_62 (by decide) ?_
      refine r_iinc (pc := 63) (L := [some (.ref b0), some (.int l1), some (.int r_14), some (.int l3)]) (v := l3 + 1) dX8_find_63 rfl rfl (by decide) ?_
      refine r_goto (pc := 66) (L := [some (.ref b0), some (.int l1), some (.int r_14), some (.int (l3 + 1))]) (tgt := 37) dX8_find_66 (by decide) ?_
      exact r_le (L' := [some (.ref b0), some (.int l1), some (.int r_14), some (.int (l3 + 1))]) ⟨rfl, ⟨rfl, ⟨rfl, ⟨rfl, trivial⟩⟩⟩⟩ K0
theorem eq_feed (a b c d e : Int32) : Both mX7_feed mX8_feed [.int a, .int b, .int c, .int d, .int e] := by
  intro x R
  obtain ⟨n, hn, t1, t2, t3⟩ := R.2.2.2.1
  have i20 : nI n + 20 = nI (n + 20) := nI_add n 20
  have hle : (nI n + 20 ≤ 1200) ↔ n + 20 ≤ 1200 := by rw [i20]; exact nI_leI (b := 1200) (by omega) (by decide)
  refine v_X7_feed_0 k0 ?_
  rw [t1, hle]
  refine ⟨fun z => ?_, fun z => v_X8_feed_0 km ⟨fun u => absurd (by rw [t2, hle] at u; exact u) z, fun _ => ⟨rfl, R⟩⟩⟩
  have c0 : CT x (gi x 720) n := ⟨t1, fun i hi => (t3 i hi).1⟩
  have r0 : RT x (gi x 720) n := ⟨t2, fun i hi => rfl⟩
  have cg : ∀ y : Cn, CTf x y → gr y 0 0 = some 1 := fun y fy => by unfold gr; rw [fy.1]; exact R.1.1
  refine sp_X7_putOnTape R.1.1 c0 (by omega) (fun y1 f1 w1 => sp_X7_putOnTape (cg y1 f1) w1 (by omega) (fun y2 f2 w2 => sp_X7_putOnTape (cg y2 (f1.tr f2)) w2 (by omega) (fun y3 f3 w3 => sp_X7_putOnTape (cg y3 (f1.tr (f2.tr f3))) w3 (by omega) (fun y4 f4 w4 => sp_X7_putOnTape (cg y4 (f1.tr (f2.tr (f3.tr f4)))) w4 (by omega) (fun y5 f5 w5 => ?_)))))
  have F5 : CTf x y5 := f1.tr (f2.tr (f3.tr (f4.tr f5)))
  rw [w5.1]
  have M5 : MRf y5 718 := R.2.1.keep F5.1
  have r5 : RT y5 (gi x 720) n := ⟨(F5.2 717 5 (by decide) (by omega)).trans t2, fun i hi => F5.2 720 i (by decide) (by omega)⟩
  refine v_X8_feed_0 km ⟨fun _ => ?_, fun u => absurd (by rw [r5.1, hle]; exact z) u⟩
  have mg : ∀ y : Cn, RTf y5 y → MRf y 718 := fun y fy => M5.keep fy.1
  refine sp_X8_puts4 M5 r5 (by omega) (fun z1 g1 v1 => sp_X8_puts4 (mg z1 g1) v1 (by omega) (fun z2 g2 v2 => sp_X8_puts4 (mg z2 (g1.tr g2)) v2 (by omega) (fun z3 g3 v3 => sp_X8_puts4 (mg z3 (g1.tr (g2.tr g3))) v3 (by omega) (fun z4 g4 v4 => sp_X8_puts4 (mg z4 (g1.tr (g2.tr (g3.tr g4)))) v4 (by omega) (fun z5 g5 v5 => ?_)))))
  have G5 : RTf y5 z5 := g1.tr (g2.tr (g3.tr (g4.tr g5)))
  rw [v5.1]
  refine ⟨rfl, R.tape (G5.1.trans F5.1) (fun a j a1 a2 a3 a4 => (G5.2 a j a3 a4).trans (F5.2 a j a1 a2)) ⟨n + 4 + 4 + 4 + 4 + 4, by omega, ?_, v5.1, fun i hi => ?_⟩⟩
  · rw [G5.2 0 1 (by decide) (by omega)]; exact w5.1
  · rw [G5.2 1 i (by decide) (by omega), w5.2 i hi, v5.2 i hi]
    exact ⟨rfl, uB_is (uB_is (uB_is (uB_is (uB_is (fun i hi => (t3 i hi).2))))) i hi⟩
theorem eq_find : Both mX7_find mX8_find [] := by
  intro x R
  obtain ⟨n, hn, t1, t2, t3⟩ := R.2.2.2.1
  obtain ⟨W, C, S, A, N, E, nm, -⟩ := R.sea
  have hm := E.nums
  have hC : C ≤ 8 := hm.2.2.2.2.2.1
  have t0 := (Rel.t2 E).1
  have tC := (Rel.t2 E).2.1
  have kn : kk KW 56 = some (1, 0) := by decide
  have er : (ui (ui x 0 1 0) 717 5 0).2 = x.2 := rfl
  have eq : ∀ a j, ¬ (a = 0 ∧ j = 1) → ¬ (a = 717 ∧ j = 5) → gi (ui (ui x 0 1 0) 717 5 0) a j = gi x a j := fun a j a2 a4 => by rw [gi_ui, if_neg a4, gi_ui, if_neg a2]
  have Rz : Rel (ui (ui x 0 1 0) 717 5 0) := R.tape er (fun a j a1 a2 a3 a4 => eq a j a2 a4) ⟨0, by decide, by rw [gi_ui, if_neg (by omega), gi_ui, if_pos ⟨rfl, rfl⟩]; rfl, by rw [gi_ui, if_pos ⟨rfl, rfl⟩]; rfl, fun i hi => absurd hi (Nat.not_lt_zero _)⟩
  have My : MRf (ui x 0 1 0) 718 := R.2.1.keep rfl
  have Mz : MRf (ui (ui x 0 1 0) 717 5 0) 718 := R.2.1.keep rfl
  have e5 : gi (ui x 0 1 0) 717 5 = nI n := by rw [gi_ui, if_neg (by omega)]; exact t2
  have tz : ∀ i, gi (ui (ui x 0 1 0) 717 5 0) 718 i = gi x 718 i := fun i => eq 718 i (by omega) (by omega)
  have bz : gi (ui (ui x 0 1 0) 717 5 0) 720 = gi x 720 := funext (fun i => eq 720 i (by omega) (by omega))
  have hin : (1 ≤ nI n ∧ nI n ≤ 6) ↔ (1 ≤ n ∧ n ≤ 6) := by
    rw [show (1 ≤ nI n) ↔ 1 ≤ n from nI_leI (a := 1) (by decide) (by omega), show (nI n ≤ 6) ↔ n ≤ 6 from nI_leI (b := 6) (by omega) (by decide)]
  -- the reference, when it is no name
  have bad : (¬ (0 < nI W) ∨ ¬ (1 ≤ n ∧ n ≤ 6)) → mSI mX8_find [.ref 717] KW (ui x 0 1 0) (fun r' z => -2 = r' ∧ Rel z) := by
    intro hb
    have g37 : GI mX8_find 37 [some (.ref 717), some (.int (nI n)), some (.int 0), some (.int 0)] [] KW (ui (ui x 0 1 0) 717 5 0) (fun r' z => -2 = r' ∧ Rel z) := v_X8_find_37 km Mz.2.2.2.1 km720 ⟨fun _ => ⟨fun _ => ⟨rfl, Rz⟩, fun u => absurd rfl u⟩, fun _ => ⟨fun _ => ⟨fun _ => ⟨rfl, Rz⟩, fun u => absurd rfl u⟩, fun u => absurd rfl u⟩⟩
    refine v_X8_find_0 km My.1 km1 ?_
    rw [e5, tz 0, t0, hin]
    exact ⟨v0 (k := 0) (by decide) rfl rfl, fun _ => g37, fun u1 => ⟨fun _ => g37, fun u2 => absurd u2 (hb.elim (fun z => absurd u1 z) id)⟩⟩
  refine v_X7_find_0 k0 R.1.2.1 (ks0 E.1) ?_
  rw [t1, show gi (ui x 0 1 0) 2 0 = nI W by rw [gi_ui, if_neg (by omega)]; exact hm.1, hin]
  refine ⟨fun z => bad (Or.inl z), fun z1 => ⟨fun z2 => ?_, fun z => bad (Or.inr z)⟩⟩
  have by1 : ∀ i, i < n → gi (ui x 0 1 0) 1 i = gi x 720 i := fun i hi => by rw [gi_ui, if_neg (by omega)]; exact (t3 i hi).1
  have cR : CRf (ui x 0 1 0) := R.1.keep rfl
  -- the reference's walk over the letters
  have ref : ∀ Q : Int32 → Cn → Prop, GI mX8_find 37 [some (.ref 717), some (.int (nI n)), some (.int 1), some (.int 0)] [] KW (ui (ui x 0 1 0) 717 5 0) Q → mSI mX8_find [.ref 717] KW (ui x 0 1 0) Q := by
    intro Q g
    refine v_X8_find_0 km My.1 km1 ?_
    rw [e5, tz 0, t0, hin]
    exact ⟨v0 (k := 0) (by decide) rfl rfl, fun u => absurd z1 u, fun _ => ⟨fun u => absurd z2 u, fun _ => g⟩⟩
  by_cases hl : ∀ i, i < n → (97 ≤ gi x 720 i ∧ gi x 720 i ≤ 122)
  · have lt : ltr (gi x 720) 0 n := fun i _ hi => by
      have := hl i hi
      obtain ⟨m, h1, h2⟩ := nI_of2 (M := 122) (n := 122) (by decide) (Int32.not_lt.mpr (Int32.le_trans (by decide) this.1)) this.2
      refine ⟨m, ?_, h1, h2⟩
      have g := this.1
      rw [h2] at g
      exact (nI_leI (a := 97) (by decide) (by omega)).mp g
    have lt1 : ltr (gi (ui x 0 1 0) 1) 0 n := fun i h0 hi => by rw [by1 i hi]; exact lt i h0 hi
    have pe : pkv (gi (ui x 0 1 0) 1) 0 n = pkv (gi x 720) 0 n := by
      have : ∀ i, bd (gi (ui x 0 1 0) 1) 0 n i = bd (gi x 720) 0 n i := fun i => by
        unfold bd
        by_cases c : 0 + i < n
        · rw [if_pos c, if_pos c, by1 _ c]
        · rw [if_neg c, if_neg c]
      rw [pkv_6, pkv_6, this, this, this, this, this, this]
    have key : ∀ r i, i + r = n → GI mX7_find 32 [some (.ref 0), some (.int (nI n)), some (.int (nI i))] [] KW (ui x 0 1 0) (fun r y => mSI mX8_find [.ref 717] KW y (fun r' z => r = r' ∧ Rel z)) := by
      intro r
      induction r with
      | zero =>
        intro i hi
        have : i = n := by omega
        subst this
        refine v_X7_find_32 k0 cR.2.2.1 cR.1 kn k1t ⟨fun _ => sp_X1_carrierNamed (T := gi x 718) (C := C) (fr := 0) kn cR.2.2.2.2.2.2.2.1 (by decide) k1t hC (nm.keep (by rw [gi_ui, if_neg (by omega)]) (fun j => by rw [gi_ui, if_neg (by omega)]) (fun _ _ => rfl)) lt1 (by omega) (by omega) (by decide) ?_, fun z => absurd (Int32.le_refl _) z⟩
        rw [pe]
        refine ref _ ?_
        have k2 : ∀ r j, j + r = i → GI mX8_find 37 [some (.ref 717), some (.int (nI i)), some (.int 1), some (.int (nI j))] [] KW (ui (ui x 0 1 0) 717 5 0) (fun r' z => fnd (gi x 718) C (pkv (gi x 720) 0 i) = r' ∧ Rel z) := by
          intro r
          induction r with
          | zero =>
            intro j hj
            have : j = i := by omega
            subst this
            refine v_X8_find_37 km Mz.2.2.2.1 km720 ⟨fun _ => ⟨fun u => absurd u (by decide), fun _ => sp_X8_packed (fr := 0) Mz (by rw [bz]; exact lt) (by omega) (by omega) (sp_X8_findName Mz km1 (by rw [tz]; exact tC) hC ⟨?_, Rz⟩)⟩, fun z => absurd (Int32.le_refl _) z⟩
            rw [bz, show gi (ui (ui x 0 1 0) 717 5 0) 718 = gi x 718 from funext tz]
          | succ r ih =>
            intro j hj
            refine v_X8_find_37 km Mz.2.2.2.1 km720 ⟨fun z => absurd z (nI_ge (by omega) (by omega)), fun _ => ⟨fun u => absurd u (by decide), fun _ => ⟨vp_in_nI (by omega) (by decide), fun q hq => ?_⟩⟩⟩
            rw [nI_clamp (by omega), bz, b2i_t (hl j (by omega))] at hq
            rw [hq, nI_1]
            exact ih (j + 1) (by omega)
        exact k2 i 0 (by omega)
      | succ r ih =>
        intro i hi
        refine v_X7_find_32 k0 cR.2.2.1 cR.1 kn k1t ⟨fun z => absurd z (nI_ge (by omega) (by omega)), fun _ => ⟨vp_in_nI (by omega) (by decide), ?_⟩⟩
        rw [nI_clamp (by omega), by1 i (by omega), nI_1]
        exact ⟨fun _ => ih (i + 1) (by omega), fun z => absurd (hl i (by omega)) z⟩
    exact key n 0 (by omega)
  · have fin : mSI mX8_find [.ref 717] KW (ui x 0 1 0) (fun r' z => -2 = r' ∧ Rel z) := by
      refine ref _ ?_
      have g0 : ∀ j, GI mX8_find 37 [some (.ref 717), some (.int (nI n)), some (.int 0), some (.int (nI j))] [] KW (ui (ui x 0 1 0) 717 5 0) (fun r' z => -2 = r' ∧ Rel z) := fun j => v_X8_find_37 km Mz.2.2.2.1 km720 ⟨fun _ => ⟨fun _ => ⟨rfl, Rz⟩, fun u => absurd rfl u⟩, fun _ => ⟨fun _ => ⟨fun _ => ⟨rfl, Rz⟩, fun u => absurd rfl u⟩, fun u => absurd rfl u⟩⟩
      have k2 : ∀ r j, j + r = n → (∀ i, i < j → (97 ≤ gi x 720 i ∧ gi x 720 i ≤ 122)) → GI mX8_find 37 [some (.ref 717), some (.int (nI n)), some (.int 1), some (.int (nI j))] [] KW (ui (ui x 0 1 0) 717 5 0) (fun r' z => -2 = r' ∧ Rel z) := by
        intro r
        induction r with
        | zero => intro j hj h; exact absurd (fun i hi => h i (by omega)) hl
        | succ r ih =>
          intro j hj h
          refine v_X8_find_37 km Mz.2.2.2.1 km720 ⟨fun z => absurd z (nI_ge (by omega) (by omega)), fun _ => ⟨fun u => absurd u (by decide), fun _ => ⟨vp_in_nI (by omega) (by decide), fun q hq => ?_⟩⟩⟩
          rw [nI_clamp (by omega), bz] at hq
          rw [nI_1]
          by_cases c : 97 ≤ gi x 720 j ∧ gi x 720 j ≤ 122
          · rw [b2i_t c] at hq
            rw [hq]
            refine ih (j + 1) (by omega) (fun i hi => ?_)
            by_cases ci : i = j
            · rw [ci]; exact c
            · exact h i (by omega)
          · rw [b2i_f c] at hq
            rw [hq]
            exact g0 (j + 1)
      exact k2 n 0 (by omega) (fun i hi => by omega)
    have key : ∀ r i, i + r = n → (∀ j, j < i → (97 ≤ gi x 720 j ∧ gi x 720 j ≤ 122)) → GI mX7_find 32 [some (.ref 0), some (.int (nI n)), some (.int (nI i))] [] KW (ui x 0 1 0) (fun r y => mSI mX8_find [.ref 717] KW y (fun r' z => r = r' ∧ Rel z)) := by
      intro r
      induction r with
      | zero => intro i hi h; exact absurd (fun j hj => h j (by omega)) hl
      | succ r ih =>
        intro i hi h
        refine v_X7_find_32 k0 cR.2.2.1 cR.1 kn k1t ⟨fun z => absurd z (nI_ge (by omega) (by omega)), fun _ => ⟨vp_in_nI (by omega) (by decide), ?_⟩⟩
        rw [nI_clamp (by omega), by1 i (by omega), nI_1]
        refine ⟨fun c => ih (i + 1) (by omega) (fun j hj => ?_), fun _ => fin⟩
        by_cases ci : j = i
        · rw [ci]; exact c
        · exact h j (by omega)
    exact key n 0 (by omega) (fun j hj => by omega)


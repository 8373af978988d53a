section
theorem Rel.tape {x u : Cn} (R : Rel x) (er : u.2 = x.2) (eq : ∀ a j, a ≠ 1 → ¬ (a = 0 ∧ j = 1) → a ≠ 720 → ¬ (a = 717 ∧ j = 5) → gi u a j = gi x a j) (t : TPr u) : Rel u := by
  obtain ⟨W, C, S, A, N, E, nm, hs⟩ := R.sea
  have c1 := R.1
  have e8 : gi u 718 = gi x 718 := funext (fun i => eq 718 i (by decide) (by omega) (by decide) (by omega))
  refine ⟨R.1.keep er, R.2.1.keep er, ⟨?_, ?_⟩, t, R.2.2.2.2.1.keep (eq 175 1 (by decide) (by omega) (by decide) (by omega)) (eq 717 22 (by decide) (by omega) (by decide) (by omega)) (fun i => eq 176 i (by decide) (by omega) (by decide) (by omega)) (fun i => eq 725 i (by decide) (by omega) (by decide) (by omega)), W, C, S, A, N, ?_, ?_, ?_⟩
  · trivial
  · trivial
  · rw [e8]; exact E.keep er (fun a j a1 a2 _ => eq a j (by omega) (by omega) (by omega) (by omega))
  · rw [e8]; exact nm.keep (eq 56 0 (by decide) (by omega) (by decide) (by omega)) (fun i => eq 57 i (by decide) (by omega) (by decide) (by omega)) (fun _ _ => rfl)
  · rw [e8]; exact hs.keep c1 er (eq 717 19 (by decide) (by omega) (by decide) (by omega)) (eq 0 5 (by decide) (by omega) (by decide) (by omega)) (fun a j a1 a2 => eq a j (by omega) (by omega) (by omega) (by omega)) (fun i => eq 724 i (by decide) (by omega) (by decide) (by omega)) (fun _ _ => rfl)
theorem uB_is {b : TT} {m : Nat} {v : Int32} (h : ∀ i, i < m → isB (b i)) : ∀ i, i < m + 4 → isB (uB b m v i) := by
  intro i hi
  unfold uB
  by_cases c : m ≤ i ∧ i < m + 4
  · rw [if_pos c]; exact bv_is _ _
  · rw [if_neg c]; exact h i (by omega)
/-- a name's number -/
def bd (b : TT) (fr to i : Nat) : Nat := if fr + i < to then (b (fr + i)).toNatClampNeg - 96 else 0
def pkn (b : TT) (fr to : Nat) : Nat → Nat
  | 0 => 0
  | n + 1 => 27 * pkn b fr to n + bd b fr to n
def pkv (b : TT) (fr to : Nat) : Nat := pkn b fr to 6
def ltr (b : TT) (fr to : Nat) : Prop := ∀ i, fr ≤ i → i < to → ∃ m, 97 ≤ m ∧ m ≤ 122 ∧ b i = nI m
theorem bd_lt {b : TT} {fr to : Nat} (h : ltr b fr to) (i : Nat) : bd b fr to i < 27 := by
  unfold bd
  by_cases c : fr + i < to
  · rw [if_pos c]
    obtain ⟨m, h1, h2, h3⟩ := h (fr + i) (by omega) c
    rw [h3, nI_clamp (by omega)]; omega
  · rw [if_neg c]; decide
theorem dg_6 {w : Nat} (h : w < 387420489) : w = 27 * (27 * (27 * (27 * (27 * dg w 0 + dg w 1) + dg w 2) + dg w 3) + dg w 4) + dg w 5 := by
  have e5 : dg w 5 = w % 27 := by show w / 1 % 27 = _; rw [Nat.div_one]
  have e4 : dg w 4 = w / 27 % 27 := rfl
  have e3 : dg w 3 = w / 27 / 27 % 27 := by rw [Nat.div_div_eq_div_mul]; rfl
  have e2 : dg w 2 = w / 27 / 27 / 27 % 27 := by rw [Nat.div_div_eq_div_mul, Nat.div_div_eq_div_mul]; rfl
  have e1 : dg w 1 = w / 27 / 27 / 27 / 27 % 27 := by rw [Nat.div_div_eq_div_mul, Nat.div_div_eq_div_mul, Nat.div_div_eq_div_mul]; rfl
  have e0 : dg w 0 = w / 27 / 27 / 27 / 27 / 27 := by
    rw [Nat.div_div_eq_div_mul, Nat.div_div_eq_div_mul, Nat.div_div_eq_div_mul, Nat.div_div_eq_div_mul]
    exact Nat.mod_eq_of_lt (Nat.div_lt_of_lt_mul (show w < 14348907 * 27 from h))
  rw [e0, e1, e2, e3, e4, e5, Nat.div_add_mod, Nat.div_add_mod, Nat.div_add_mod, Nat.div_add_mod, Nat.div_add_mod]
theorem pkv_6 (b : TT) (fr to : Nat) : pkv b fr to = 27 * (27 * (27 * (27 * (27 * bd b fr to 0 + bd b fr to 1) + bd b fr to 2) + bd b fr to 3) + bd b fr to 4) + bd b fr to 5 := by
  show 27 * (27 * (27 * (27 * (27 * (27 * 0 + bd b fr to 0) + bd b fr to 1) + bd b fr to 2) + bd b fr to 3) + bd b fr to 4) + bd b fr to 5 = _
  omega
theorem pkv_lt {b : TT} {fr to : Nat} (h : ltr b fr to) : pkv b fr to < 387420489 := by
  have h0 := bd_lt h 0
  have h1 := bd_lt h 1
  have h2 := bd_lt h 2
  have h3 := bd_lt h 3
  have h4 := bd_lt h 4
  have h5 := bd_lt h 5
  rw [pkv_6]
  omega
theorem pkn_lt {b : TT} {fr to : Nat} (h : ltr b fr to) : ∀ n, n ≤ 6 → pkn b fr to n < 27 ^ n := by
  intro n
  induction n with
  | zero => intro _; exact Nat.one_pos
  | succ n ih =>
    intro hn
    have := ih (by omega)
    have := bd_lt h n
    show 27 * pkn b fr to n + bd b fr to n < 27 ^ (n + 1)
    rw [Nat.pow_succ]
    omega
theorem pkv_dg {b : TT} {fr to : Nat} (h : ltr b fr to) : ∀ i, i < 6 → dg (pkv b fr to) i = bd b fr to i := by
  have h0 := bd_lt h 0
  have h1 := bd_lt h 1
  have h2 := bd_lt h 2
  have h3 := bd_lt h 3
  have h4 := bd_lt h 4
  have h5 := bd_lt h 5
  have e := pkv_6 b fr to
  revert e
  generalize pkv b fr to = p
  intro e
  intro i hi
  have : i = 0 ∨ i = 1 ∨ i = 2 ∨ i = 3 ∨ i = 4 ∨ i = 5 := by omega
  rcases this with rfl | rfl | rfl | rfl | rfl | rfl
  · rw [show dg p 0 = p / 14348907 % 27 from rfl]; omega
  · rw [show dg p 1 = p / 531441 % 27 from rfl]; omega
  · rw [show dg p 2 = p / 19683 % 27 from rfl]; omega
  · rw [show dg p 3 = p / 729 % 27 from rfl]; omega
  · rw [show dg p 4 = p / 27 % 27 from rfl]; omega
  · rw [show dg p 5 = p / 1 % 27 from rfl]; omega
theorem dg_inj {v w : Nat} (hv : v < 387420489) (hw : w < 387420489) (h : ∀ i, i < 6 → dg v i = dg w i) : v = w := by
  rw [dg_6 hv, dg_6 hw, h 0 (by decide), h 1 (by decide), h 2 (by decide), h 3 (by decide), h 4 (by decide), h 5 (by decide)]
theorem let_v {m : Nat} (h1 : 97 ≤ m) (h2 : m ≤ 122) : (nI m - 97) + 1 = nI (m - 96) := by
  rw [show nI m - 97 = nI (m - 97) from pk_sub (b := 97) h1, nI_1]
  congr 1
  omega
def stN (T : TT) (v : Nat) : Nat → Unit → Unit ⊕ Int32 := fun c _ => if T (54 + c) = nI v then .inr (nI c) else .inl ()
def fnd (T : TT) (C v : Nat) : Int32 := lpR (stN T v) (fun _ => -1) C 0 ()
end
set_option maxHeartbeats 2000000 in
theorem v_X7_feed_0 {K : Sh} {x : Cn} {Q : Int32 → Cn → Prop} {b0 : Nat} {l1 : Int32} {l2 : Int32} {l3 : Int32} {l4 : Int32} {l5 : Int32}  (k_b0 : kk K b0 = some (7, 0)) (K0 : (((gi x b0 1) + 20) ≤ 1200 → (mSV mX7_putOnTape [.ref b0, .int l1] K x (fun y_2 => mSV mX7_putOnTape [.ref b0, .int l2] K y_2 (fun y_3 => mSV mX7_putOnTape [.ref b0, .int l3] K y_3 (fun y_4 => mSV mX7_putOnTape [.ref b0, .int l4] K y_4 (fun y_5 => mSV mX7_putOnTape [.ref b0, .int l5] K y_5 (fun y_6 => Q (gi y_6 b0 1) y_6))))))) ∧ (¬ ((gi x b0 1) + 20) ≤ 1200 → (Q (-1) x))) : mSI mX7_feed [.ref b0, .int l1, .int l2, .int l3, .int l4, .int l5] K x Q := by
  refine s_I (by decide) (by simp [Value.category]) (Nat.le_of_ble_eq_true rfl) ?_
  show mGM mX7_feed 0 [some (.ref b0), some (.int l1), some (.int l2), some (.int l3), some (.int l4), some (.int l5)] [] (hp K x) (PI K Q)
  refine r_aload_n (pc := 0) dX7_feed_0 rfl ?_
  refine s_getI (pc := 1) dX7_feed_1 fl_X7_13 rfl k_b0 ?_
  refine r_bipush (pc := 4) (v := 20) dX7_feed_4 (by decide) ?_
  refine r_iadd (pc := 6) dX7_feed_6 ?_
  refine r_sipush (pc := 7) (v := 1200) dX7_feed_7 (by decide) ?_
  refine r_icmp_le (pc := 10) (tgt := 15) dX7_feed_10 (by decide) (fun q => ?_) (fun q => ?_)
  · have K0 := K0.1 q
    refine r_aload_n (pc := 15) dX7_feed_15 rfl ?_
    refine r_iload_n (pc := 16) dX7_feed_16 rfl ?_
    refine s_VV (pc := 17) mX7_putOnTape (ci := 7) (a := b0) (As := [.int l1]) dX7_feed_17 lk_X7_65 in_X7_putOnTape mo_X7_putOnTape ⟨by decide, rfl⟩ ⟨by decide, by decide⟩ (Nat.le_of_ble_eq_true rfl) k_b0 (mSV_mono K0 (fun y_2 K0 => ?_))
    refine r_aload_n (pc := 20) dX7_feed_20 rfl ?_
    refine r_iload_n (pc := 21) dX7_feed_21 rfl ?_
    refine s_VV (pc := 22) mX7_putOnTape (ci := 7) (a := b0) (As := [.int l2]) dX7_feed_22 lk_X7_65 in_X7_putOnTape mo_X7_putOnTape ⟨by decide, rfl⟩ ⟨by decide, by decide⟩ (Nat.le_of_ble_eq_true rfl) k_b0 (mSV_mono K0 (fun y_3 K0 => ?_))
    refine r_aload_n (pc := 25) dX7_feed_25 rfl ?_
    refine r_iload_n (pc := 26) dX7_feed_26 rfl ?_
    refine s_VV (pc := 27) mX7_putOnTape (ci := 7) (a := b0) (As := [.int l3]) dX7_feed_27 lk_X7_65 in_X7_putOnTape mo_X7_putOnTape ⟨by decide, rfl⟩ ⟨by decide, by decide⟩ (Nat.le_of_ble_eq_true rfl) k_b0 (mSV_mono K0 (fun y_4 K0 => ?_))
    refine r_aload_n (pc := 30) dX7_feed_30 rfl ?_
    refine r_iload (pc := 31) dX7_feed_31 rfl ?_
    refine s_VV (pc := 33) mX7_putOnTape (ci := 7) (a := b0) (As := [.int l4]) dX7_feed_33 lk_X7_65 in_X7_putOnTape mo_X7_putOnTape ⟨by decide, rfl⟩ ⟨by decide, by decide⟩ (Nat.le_of_ble_eq_true rfl) k_b0 (mSV_mono K0 (fun y_5 K0 => ?_))
    refine r_aload_n (pc := 36) dX7_feed_36 rfl ?_
    refine r_iload (pc := 37) dX7_feed_37 rfl ?_
    refine s_VV (pc := 39) mX7_putOnTape (ci := 7) (a := b0) (As := [.int l5]) dX7_feed_39 lk_X7_65 in_X7_putOnTape mo_X7_putOnTape ⟨by decide, rfl⟩ ⟨by decide, by decide⟩ (Nat.le_of_ble_eq_true rfl) k_b0 (mSV_mono K0 (fun y_6 K0 => ?_))
    refine r_aload_n (pc := 42) dX7_feed_42 rfl ?_
    refine s_getI (pc := 43) dX7_feed_43 fl_X7_13 rfl k_b0 ?_
    exact s_iret rfl dX7_feed_46 K0
  · have K0 := K0.2 q
    refine r_iconst (pc := 13) (v := (-1)) dX7_feed_13 (by decide) ?_
    exact s_iret rfl dX7_feed_14 K0
set_option maxHeartbeats 2000000 in
theorem v_X8_feed_0 {K : Sh} {x : Cn} {Q : Int32 → Cn → Prop} {b0 : Nat} {l1 : Int32} {l2 : Int32} {l3 : Int32} {l4 : Int32} {l5 : Int32}  (k_b0 : kk K b0 = some (8, 0)) (K0 : (((gi x b0 5) + 20) ≤ 1200 → (mSV mX8_puts4 [.ref b0, .int l1] K x (fun y_2 => mSV mX8_puts4 [.ref b0, .int l2] K y_2 (fun y_3 => mSV mX8_puts4 [.ref b0, .int l3] K y_3 (fun y_4 => mSV mX8_puts4 [.ref b0, .int l4] K y_4 (fun y_5 => mSV mX8_puts4 [.ref b0, .int l5] K y_5 (fun y_6 => Q (gi y_6 b0 5) y_6))))))) ∧ (¬ ((gi x b0 5) + 20) ≤ 1200 → (Q (-1) x))) : mSI mX8_feed [.ref b0, .int l1, .int l2, .int l3, .int l4, .int l5] K x Q := by
  refine s_I (by decide) (by simp [Value.category]) (Nat.le_of_ble_eq_true rfl) ?_
  show mGM mX8_feed 0 [some (.ref b0), some (.int l1), some (.int l2), some (.int l3), some (.int l4), some (.int l5)] [] (hp K x) (PI K Q)
  refine r_aload_n (pc := 0) dX8_feed_0 rfl ?_
  refine s_getI (pc := 1) dX8_feed_1 fl_X8_94 rfl k_b0 ?_
  refine r_bipush (pc := 4) (v := 20) dX8_feed_4 (by decide) ?_
  refine r_iadd (pc := 6) dX8_feed_6 ?_
  refine r_sipush (pc := 7) (v := 1200) dX8_feed_7 (by decide) ?_
  refine r_icmp_le (pc := 10) (tgt := 15) dX8_feed_10 (by decide) (fun q => ?_) (fun q => ?_)
  · have K0 := K0.1 q
    refine r_aload_n (pc := 15) dX8_feed_15 rfl ?_
    refine r_iload_n (pc := 16) dX8_feed_16 rfl ?_
    refine s_VV (pc := 17) mX8_puts4 (ci := 8) (a := b0) (As := [.int l1]) dX8_feed_17 lk_X8_97 in_X8_puts4 mo_X8_puts4 ⟨by decide, rfl⟩ ⟨by decide, by decide⟩ (Nat.le_of_ble_eq_true rfl) k_b0 (mSV_mono K0 (fun y_2 K0 => ?_))
    refine r_aload_n (pc := 20) dX8_feed_20 rfl ?_
    refine r_iload_n (pc := 21) dX8_feed_21 rfl ?_
    refine s_VV (pc := 22) mX8_puts4 (ci := 8) (a := b0) (As := [.int l2]) dX8_feed_22 lk_X8_97 in_X8_puts4 mo_X8_puts4 ⟨by decide, rfl⟩ ⟨by decide, by decide⟩ (Nat.le_of_ble_eq_true rfl) k_b0 (mSV_mono K0 (fun y_3 K0 => ?_))
    refine r_aload_n (pc := 25) dX8_feed_25 rfl ?_
    refine r_iload_n (pc := 26) dX8_feed_26 rfl ?_
    refine s_VV (pc := 27) mX8_puts4 (ci := 8) (a := b0) (As := [.int l3]) dX8_feed_27 lk_X8_97 in_X8_puts4 mo_X8_puts4 ⟨by decide, rfl⟩ ⟨by decide, by decide⟩ (Nat.le_of_ble_eq_true rfl) k_b0 (mSV_mono K0 (fun y_4 K0 => ?_))
    refine r_aload_n (pc := 30) dX8_feed_30 rfl ?_
    refine r_iload (pc := 31) dX8_feed_31 rfl ?_
    refine s_VV (pc := 33) mX8_puts4 (ci := 8) (a := b0) (As := [.int l4]) dX8_feed_33 lk_X8_97 in_X8_puts4 mo_X8_puts4 ⟨by decide, rfl⟩ ⟨by decide, by decide⟩ (Nat.le_of_ble_eq_true rfl) k_b0 (mSV_mono K0 (fun y_5 K0 => ?_))
    refine r_aload_n (pc := 36) dX8_feed_36 rfl ?_
    refine r_iload (pc := 37) dX8_feed_37 rfl ?_
    refine s_VV (pc := 39) mX8_puts4 (ci := 8) (a := b0) (As := [.int l5]) dX8_feed_39 lk_X8_97 in_X8_puts4 mo_X8_puts4 ⟨by decide, rfl⟩ ⟨by decide, by decide⟩ (Nat.le_of_ble_eq_true rfl) k_b0 (mSV_mono K0 (fun y_6 K0 => ?_))
    refine r_aload_n (pc := 42) dX8_feed_42 rfl ?_
    refine s_getI (pc := 43) dX8_feed_43 fl_X8_94 rfl k_b0 ?_
    exact s_iret rfl dX8_feed_46 K0
  · have K0 := K0.2 q
    refine r_iconst (pc := 13) (v := (-1)) dX8_feed_13 (by decide) ?_
    exact s_iret rfl dX8_feed_14 K0
set_option maxHeartbeats 2000000 in
theorem v_X1_isNamed_0 {K : Sh} {x : Cn} {Q : Int32 → Cn → Prop} {b0 : Nat} {l1 : Int32} {b2 : Nat} {l3 : Int32} {l4 : Int32}   (K0 : GI mX1_isNamed 3 [some (.ref b0), some (.int l1), some (.ref b2), some (.int l3), some (.int l4), some (.int 0), none] [] K x Q) : mSI mX1_isNamed [.ref b0, .int l1, .ref b2, .int l3, .int l4] K x Q := by
  refine s_I (by decide) (by simp [Value.category]) (Nat.le_of_ble_eq_true rfl) ?_
  show mGM mX1_isNamed 0 [some (.ref b0), some (.int l1), some (.ref b2), some (.int l3), some (.int l4), none, none] [] (hp K x) (PI K Q)
  refine r_iconst (pc := 0) (v := 0) dX1_isNamed_0 (by decide) ?_
  refine r_istore (pc := 1) dX1_isNamed_1 (by decide) ?_
  exact r_le (L' := [some (.ref b0), some (.int l1), some (.ref b2), some (.int l3), some (.int l4), some (.int 0), none]) ⟨rfl, ⟨rfl, ⟨rfl, ⟨rfl, ⟨rfl, ⟨rfl, trivial⟩⟩⟩⟩⟩⟩ K0
set_option maxHeartbeats 2000000 in
theorem v_X1_isNamed_3 {K : Sh} {x : Cn} {Q : Int32 → Cn → Prop} {b0 : Nat} {l1 : Int32} {b2 : Nat} {l3 : Int32} {l4 : Int32} {l5 : Int32} {b0_1 : Nat} {n_b0_1 : Nat} {n_b2 : Nat} (k_b0 : kk K b0 = some (1, 0)) (g_b0_1 : gr x b0 1 = some b0_1) (k_b0_1 : kk K b0_1 = some (20, n_b0_1)) (k_b2 : kk K b2 = some (21, n_b2)) (K0 : (6 ≤ l5 → (Q 1 x)) ∧ (¬ 6 ≤ l5 → ((l4 ≤ (l3 + l5) → (vp_in ((l1 * 6) + l5) n_b0_1 ∧ (((gi x b0_1 (((l1 * 6) + l5) : Int32).toNatClampNeg) = 0 → (GI mX1_isNamed 3 [some (.ref b0), some (.int l1), some (.ref b2), some (.int l3), some (.int l4), some (.int (l5 + 1)), none] [] K x Q)) ∧ (¬ (gi x b0_1 (((l1 * 6) + l5) : Int32).toNatClampNeg) = 0 → (Q 0 x))))) ∧ (¬ l4 ≤ (l3 + l5) → (vp_in (l3 + l5) n_b2 ∧ (vp_in ((l1 * 6) + l5) n_b0_1 ∧ (((gi x b0_1 (((l1 * 6) + l5) : Int32).toNatClampNeg) = (((gi x b2 ((l3 + l5) : Int32).toNatClampNeg) - 97) + 1) → (GI mX1_isNamed 3 [some (.ref b0), some (.int l1), some (.ref b2), some (.int l3), some (.int l4), some (.int (l5 + 1)), none] [] K x Q)) ∧ (¬ (gi x b0_1 (((l1 * 6) + l5) : Int32).toNatClampNeg) = (((gi x b2 ((l3 + l5) : Int32).toNatClampNeg) - 97) + 1) → (Q 0 x))))))))) : GI mX1_isNamed 3 [some (.ref b0), some (.int l1), some (.ref b2), some (.int l3), some (.int l4), some (.int l5), none] [] K x Q := by
  show mGM mX1_isNamed 3 [some (.ref b0), some (.int l1), some (.ref b2), some (.int l3), some (.int l4), some (.int l5), none] [] (hp K x) (PI K Q)
  refine r_iload (pc := 3) dX1_isNamed_3 rfl ?_
  refine r_bipush (pc := 5) (v := 6) dX1_isNamed_5 (by decide) ?_
  refine r_icmp_ge (pc := 7) (tgt := 61) dX1_isNamed_7 (by decide) (fun q => ?_) (fun q => ?_)
  · have K0 := K0.1 q
    refine r_iconst (pc := 61) (v := 1) dX1_isNamed_61 (by decide) ?_
    exact s_zret rfl (by decide) dX1_isNamed_62 K0
  · have K0 := K0.2 q
    refine r_iload_n (pc := 10) dX1_isNamed_10 rfl ?_
    refine r_iload (pc := 11) dX1_isNamed_11 rfl ?_
    refine r_iadd (pc := 13) dX1_isNamed_13 ?_
    refine r_iload (pc := 14) dX1_isNamed_14 rfl ?_
    refine r_icmp_ge (pc := 16) (tgt := 33) dX1_isNamed_16 (by decide) (fun q => ?_) (fun q => ?_)
    · have K0 := K0.1 q
      refine r_iconst (pc := 33) (v := 0) dX1_isNamed_33 (by decide) ?_
      refine r_istore (pc := 34) dX1_isNamed_34 (by decide) ?_
      refine r_aload_n (pc := 36) (L := [some (.ref b0), some (.int l1), some (.ref b2), some (.int l3), some (.int l4), some (.int l5), some (.int 0)]) dX1_isNamed_36 rfl ?_
      refine s_getR (pc := 37) dX1_isNamed_37 fl_X1_15 rfl k_b0 g_b0_1 ?_
      refine r_iload_n (pc := 40) dX1_isNamed_40 rfl ?_
      refine r_bipush (pc := 41) (v := 6) dX1_isNamed_41 (by decide) ?_
      refine r_imul (pc := 43) dX1_isNamed_43 ?_
      refine r_iload (pc := 44) dX1_isNamed_44 rfl ?_
      refine r_iadd (pc := 46) dX1_isNamed_46 ?_
      obtain ⟨i_3, K0⟩ := K0
      refine s_iald (pc := 47) dX1_isNamed_47 k_b0_1 i_3 ?_
      refine r_iload (pc := 48) dX1_isNamed_48 rfl ?_
      refine r_icmp_eq (pc := 50) (tgt := 55) dX1_isNamed_50 (by decide) (fun q => ?_) (fun q => ?_)
      · have K0 := K0.1 q
        refine r_iinc (pc := 55) (v := l5 + 1) dX1_isNamed_55 rfl rfl (by decide) ?_
        refine r_goto (pc := 58) (L := [some (.ref b0), some (.int l1), some (.ref b2), some (.int l3), some (.int l4), some (.int (l5 + 1)), some (.int 0)]) (tgt := 3) dX1_isNamed_58 (by decide) ?_
        exact r_le (L' := [some (.ref b0), some (.int l1), some (.ref b2), some (.int l3), some (.int l4), some (.int (l5 + 1)), none]) ⟨rfl, ⟨rfl, ⟨rfl, ⟨rfl, ⟨rfl, ⟨rfl, trivial⟩⟩⟩⟩⟩⟩ K0
      · have K0 := K0.2 q
        refine r_iconst (pc := 53) (v := 0) dX1_isNamed_53 (by decide) ?_
        exact s_zret rfl (by decide) dX1_isNamed_54 K0
    · have K0 := K0.2 q
      refine r_aload_n (pc := 19) dX1_isNamed_19 rfl ?_
      refine r_iload_n (pc := 20) dX1_isNamed_20 rfl ?_
      refine r_iload (pc := 21) dX1_isNamed_21 rfl ?_
      refine r_iadd (pc := 23) dX1_isNamed_23 ?_
      obtain ⟨i_5, K0⟩ := K0
      refine s_bald (pc := 24) dX1_isNamed_24 k_b2 i_5 ?_
      refine r_bipush (pc := 25) (v := 97) dX1_isNamed_25 (by decide) ?_
      refine r_isub (pc := 27) dX1_isNamed_27 ?_
      refine r_iconst (pc := 28) (v := 1) dX1_isNamed_28 (by decide) ?_
      refine r_iadd (pc := 29) dX1_isNamed_29 ?_
      refine r_goto (pc := 30) (tgt := 34) dX1_isNamed_30 (by decide) ?_
      refine r_istore (pc := 34) dX1_isNamed_34 (by decide) ?_
      refine r_aload_n (pc := 36) (L := [some (.ref b0), some (.int l1), some (.ref b2), some (.int l3), some (.int l4), some (.int l5), some (.int (((gi x b2 ((l3 + l5) : Int32).toNatClampNeg) - 97) + 1))]) dX1_isNamed_36 rfl ?_
      refine s_getR (pc := 37) dX1_isNamed_37 fl_X1_15 rfl k_b0 g_b0_1 ?_
      refine r_iload_n (pc := 40) dX1_isNamed_40 rfl ?_
      refine r_bipush (pc := 41) (v := 6) dX1_isNamed_41 (by decide) ?_
      refine r_imul (pc := 43) dX1_isNamed_43 ?_
      refine r_iload (pc := 44) dX1_isNamed_44 rfl ?_
      refine r_iadd (pc := 46) dX1_isNamed_46 ?_
      obtain ⟨i_6, K0⟩ := K0
      refine s_iald (pc := 47) dX1_isNamed_47 k_b0_1 i_6 ?_
      refine r_iload (pc := 48) dX1_isNamed_48 rfl ?_
      refine r_icmp_eq (pc := 50) (tgt := 55) dX1_isNamed_50 (by decide) (fun q => ?_) (fun q => ?_)
      · have K0 := K0.1 q
        refine r_iinc (pc := 55) (v := l5 + 1) dX1_isNamed_55 rfl rfl (by decide) ?_
        refine r_goto (pc := 58) (L := [some (.ref b0), some (.int l1), some (.ref b2), some (.int l3), some (.int l4), some (.int (l5 + 1)), some (.int (((gi x b2 ((l3 + l5) : Int32).toNatClampNeg) - 97) + 1))]) (tgt := 3) dX1_isNamed_58 (by decide) ?_
        exact r_le (L' := [some (.ref b0), some (.int l1), some (.ref b2), some (.int l3), some (.int l4), some (.int (l5 + 1)), none]) ⟨rfl, ⟨rfl, ⟨rfl, ⟨rfl, ⟨rfl, ⟨rfl, trivial⟩⟩⟩⟩⟩⟩ K0
      · have K0 := K0.2 q
        refine r_iconst (pc := 53) (v := 0) dX1_isNamed_53 (by decide) ?_
        exact s_zret rfl (by decide) dX1_isNamed_54 K0
section
end

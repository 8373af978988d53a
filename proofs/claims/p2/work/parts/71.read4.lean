/-! a line, all lines, landed side -/
abbrev PSt : Type := Nat × TT × Int32 × Nat × Nat × Nat
def ok1 (b : TT) (n W : Nat) (s : PSt) : Prop := (iw b n s.1 8 ∧ okL b n s.1 s.2.2.1 s.2.2.2.2.1) ∨ (iw b n s.1 9 ∧ okC b n s.1 s.2.1 s.2.2.2.1) ∨ (iw b n s.1 10 ∧ okS b n (tE b n s.1) s.2.1 W s.2.2.2.1 s.2.2.2.2.1) ∨ (iw b n s.1 11 ∧ okQ b n (tE b n s.1) s.2.1 W s.2.2.2.1 s.2.2.2.2.2)
def nx1 (b : TT) (n : Nat) (s : PSt) : PSt := if wnp b n s.1 = 8 then (nxt b n 6 s.1, lTT b n s.1 s.2.1, lmL b n s.1 s.2.2.1, s.2.2.2.1, s.2.2.2.2.1, s.2.2.2.2.2) else if wnp b n s.1 = 9 then (nxt b n 3 s.1, caT s.2.1 s.2.2.2.1 (vnm b n (nxt b n 1 s.1)), s.2.2.1, s.2.2.2.1 + 1, s.2.2.2.2.1, s.2.2.2.2.2) else if wnp b n s.1 = 10 then (tE b n (nwp b n (nxt b n 7 (tE b n s.1))), adT s.2.1 s.2.2.2.2.1 (srF b n (tE b n s.1) s.2.1 s.2.2.2.1), s.2.2.1, s.2.2.2.1, s.2.2.2.2.1 + 1, s.2.2.2.2.2) else (tE b n (byp b n (nxt b n 7 (tE b n s.1))), askT s.2.1 s.2.2.2.2.2 (akF b n (tE b n s.1) s.2.1 s.2.2.2.1), s.2.2.1, s.2.2.2.1, s.2.2.2.2.1, s.2.2.2.2.2 + 1)
def CSs (y : Cn) (b : TT) (n W : Nat) (s : PSt) : Prop := CS y b n s.1 s.2.1 s.2.2.1 W s.2.2.2.1 s.2.2.2.2.1 s.2.2.2.2.2
theorem byp_le {b : TT} {n r : Nat} (h : r ≤ n) : byp b n r ≤ n := by
  unfold byp
  by_cases c : tK b n r = 1 ∧ wnp b n r = 15
  · rw [if_pos c]; exact nxt_le h
  · rw [if_neg c]; exact h
theorem nwp_ge {b : TT} {n r : Nat} (h : r ≤ n) : r ≤ nwp b n r := by
  unfold nwp
  by_cases c : tK b n r = 1 ∧ wnp b n r = 14
  · rw [if_pos c]; have := tS_b (b := b) h; have := tE_b (b := b) h; omega
  · rw [if_neg c]; omega
theorem byp_ge {b : TT} {n r : Nat} (h : r ≤ n) : r ≤ byp b n r := by
  unfold byp
  by_cases c : tK b n r = 1 ∧ wnp b n r = 15
  · rw [if_pos c]; exact nxt_ge h
  · rw [if_neg c]; omega
theorem nx1_gt {b : TT} {n : Nat} {s : PSt} (h : s.1 ≤ n) (hk : ¬ tK b n s.1 = 0) : s.1 < (nx1 b n s).1 ∧ (nx1 b n s).1 ≤ n := by
  have h1 : s.1 < tE b n s.1 := nxt_gt (k := 0) h hk
  have h2 := (tE_b (b := b) h).2.1
  have h7 : nxt b n 7 (tE b n s.1) ≤ n := nxt_le h2
  have h8 : tE b n s.1 ≤ nxt b n 7 (tE b n s.1) := nxt_ge h2
  have a1 := nwp_le (b := b) h7
  have a2 := nwp_ge (b := b) h7
  have a3 := tS_b (b := b) a1
  have a4 := tE_b (b := b) a1
  have b1 := byp_le (b := b) h7
  have b2 := byp_ge (b := b) h7
  have b3 := tS_b (b := b) b1
  have b4 := tE_b (b := b) b1
  unfold nx1
  by_cases c1 : wnp b n s.1 = 8
  · rw [if_pos c1]; exact ⟨nxt_gt (k := 5) h hk, nxt_le h⟩
  · rw [if_neg c1]
    by_cases c2 : wnp b n s.1 = 9
    · rw [if_pos c2]; exact ⟨nxt_gt (k := 2) h hk, nxt_le h⟩
    · rw [if_neg c2]
      by_cases c3 : wnp b n s.1 = 10
      · rw [if_pos c3]
        show s.1 < tE b n (nwp b n (nxt b n 7 (tE b n s.1))) ∧ tE b n (nwp b n (nxt b n 7 (tE b n s.1))) ≤ n
        omega
      · rw [if_neg c3]
        show s.1 < tE b n (byp b n (nxt b n 7 (tE b n s.1))) ∧ tE b n (byp b n (nxt b n 7 (tE b n s.1))) ≤ n
        omega
theorem nx1_8 {b : TT} {n : Nat} {s : PSt} (h : iw b n s.1 8) : nx1 b n s = (nxt b n 6 s.1, lTT b n s.1 s.2.1, lmL b n s.1 s.2.2.1, s.2.2.2.1, s.2.2.2.2.1, s.2.2.2.2.2) := by
  have w : wnp b n s.1 = 8 := h.2
  unfold nx1
  rw [if_pos w]
theorem nx1_9 {b : TT} {n : Nat} {s : PSt} (h : iw b n s.1 9) : nx1 b n s = (nxt b n 3 s.1, caT s.2.1 s.2.2.2.1 (vnm b n (nxt b n 1 s.1)), s.2.2.1, s.2.2.2.1 + 1, s.2.2.2.2.1, s.2.2.2.2.2) := by
  have w : wnp b n s.1 = 9 := h.2
  unfold nx1
  rw [if_neg (show ¬ wnp b n s.1 = 8 by rw [w]; decide), if_pos w]
theorem nx1_10 {b : TT} {n : Nat} {s : PSt} (h : iw b n s.1 10) : nx1 b n s = (tE b n (nwp b n (nxt b n 7 (tE b n s.1))), adT s.2.1 s.2.2.2.2.1 (srF b n (tE b n s.1) s.2.1 s.2.2.2.1), s.2.2.1, s.2.2.2.1, s.2.2.2.2.1 + 1, s.2.2.2.2.2) := by
  have w : wnp b n s.1 = 10 := h.2
  unfold nx1
  rw [if_neg (show ¬ wnp b n s.1 = 8 by rw [w]; decide), if_neg (show ¬ wnp b n s.1 = 9 by rw [w]; decide), if_pos w]
theorem nx1_11 {b : TT} {n : Nat} {s : PSt} (h : iw b n s.1 11) : nx1 b n s = (tE b n (byp b n (nxt b n 7 (tE b n s.1))), askT s.2.1 s.2.2.2.2.2 (akF b n (tE b n s.1) s.2.1 s.2.2.2.1), s.2.2.1, s.2.2.2.1, s.2.2.2.2.1, s.2.2.2.2.2 + 1) := by
  have w : wnp b n s.1 = 11 := h.2
  unfold nx1
  rw [if_neg (show ¬ wnp b n s.1 = 8 by rw [w]; decide), if_neg (show ¬ wnp b n s.1 = 9 by rw [w]; decide), if_neg (show ¬ wnp b n s.1 = 10 by rw [w]; decide)]
set_option maxHeartbeats 2000000 in
theorem v_X3_readLine_0 {K : Sh} {x : Cn} {Q : Int32 → Cn → Prop} {b0 : Nat}  (k_b0 : kk K b0 = some (3, 0)) (K0 : (¬ (gi x b0 9 = 1 ∧ gi x b0 10 = 8) → ((¬ (gi x b0 9 = 1 ∧ gi x b0 10 = 9) → ((¬ (gi x b0 9 = 1 ∧ gi x b0 10 = 10) → ((¬ (gi x b0 9 = 1 ∧ gi x b0 10 = 11) → (mSI mX3_fail [.ref b0, .int 1] K x (fun r_6 y_5 => (r_6 = 0 ∨ r_6 = 1) ∧ (Q r_6 y_5)))) ∧ ((gi x b0 9 = 1 ∧ gi x b0 10 = 11) → (mSI mX3_readAsk [.ref b0] K x (fun r_9 y_8 => (r_9 = 0 ∨ r_9 = 1) ∧ (Q r_9 y_8)))))) ∧ ((gi x b0 9 = 1 ∧ gi x b0 10 = 10) → (mSI mX3_readSeries [.ref b0] K x (fun r_12 y_11 => (r_12 = 0 ∨ r_12 = 1) ∧ (Q r_12 y_11)))))) ∧ ((gi x b0 9 = 1 ∧ gi x b0 10 = 9) → (mSI mX3_readCarrier [.ref b0] K x (fun r_15 y_14 => (r_15 = 0 ∨ r_15 = 1) ∧ (Q r_15 y_14)))))) ∧ ((gi x b0 9 = 1 ∧ gi x b0 10 = 8) → (mSI mX3_readLimit [.ref b0] K x (fun r_18 y_17 => (r_18 = 0 ∨ r_18 = 1) ∧ (Q r_18 y_17))))) : mSI mX3_readLine [.ref b0] K x Q := by
  refine s_I (by decide) (by simp [Value.category]) (Nat.le_of_ble_eq_true rfl) ?_
  show mGM mX3_readLine 0 [some (.ref b0)] [] (hp K x) (PI K Q)
  refine r_aload_n (pc := 0) dX3_readLine_0 rfl ?_
  refine r_bipush (pc := 1) (v := 8) dX3_readLine_1 (by decide) ?_
  refine s_VI (pc := 3) mX3_isWord (ci := 3) (a := b0) (As := [.int 8]) dX3_readLine_3 lk_X3_110 in_X3_isWord mo_X3_isWord ⟨by decide, rfl⟩ ⟨by decide, by decide⟩ (Nat.le_of_ble_eq_true rfl) k_b0 (sp_X3_isWord k_b0 ?_)
  refine r_if_eq (pc := 6) (tgt := 14) dX3_readLine_6 (by decide) (fun q => ?_) (fun q => ?_)
  · have q := (b2i_z _).mp q
    have K0 := K0.1 q
    refine r_aload_n (pc := 14) dX3_readLine_14 rfl ?_
    refine r_bipush (pc := 15) (v := 9) dX3_readLine_15 (by decide) ?_
    refine s_VI (pc := 17) mX3_isWord (ci := 3) (a := b0) (As := [.int 9]) dX3_readLine_17 lk_X3_110 in_X3_isWord mo_X3_isWord ⟨by decide, rfl⟩ ⟨by decide, by decide⟩ (Nat.le_of_ble_eq_true rfl) k_b0 (sp_X3_isWord k_b0 ?_)
    refine r_if_eq (pc := 20) (tgt := 28) dX3_readLine_20 (by decide) (fun q => ?_) (fun q => ?_)
    · have q := (b2i_z _).mp q
      have K0 := K0.1 q
      refine r_aload_n (pc := 28) dX3_readLine_28 rfl ?_
      refine r_bipush (pc := 29) (v := 10) dX3_readLine_29 (by decide) ?_
      refine s_VI (pc := 31) mX3_isWord (ci := 3) (a := b0) (As := [.int 10]) dX3_readLine_31 lk_X3_110 in_X3_isWord mo_X3_isWord ⟨by decide, rfl⟩ ⟨by decide, by decide⟩ (Nat.le_of_ble_eq_true rfl) k_b0 (sp_X3_isWord k_b0 ?_)
      refine r_if_eq (pc := 34) (tgt := 42) dX3_readLine_34 (by decide) (fun q => ?_) (fun q => ?_)
      · have q := (b2i_z _).mp q
        have K0 := K0.1 q
        refine r_aload_n (pc := 42) dX3_readLine_42 rfl ?_
        refine r_bipush (pc := 43) (v := 11) dX3_readLine_43 (by decide) ?_
        refine s_VI (pc := 45) mX3_isWord (ci := 3) (a := b0) (As := [.int 11]) dX3_readLine_45 lk_X3_110 in_X3_isWord mo_X3_isWord ⟨by decide, rfl⟩ ⟨by decide, by decide⟩ (Nat.le_of_ble_eq_true rfl) k_b0 (sp_X3_isWord k_b0 ?_)
        refine r_if_eq (pc := 48) (tgt := 56) dX3_readLine_48 (by decide) (fun q => ?_) (fun q => ?_)
        · have q := (b2i_z _).mp q
          have K0 := K0.1 q
          refine r_aload_n (pc := 56) dX3_readLine_56 rfl ?_
          refine r_iconst (pc := 57) (v := 1) dX3_readLine_57 (by decide) ?_
          refine s_VI (pc := 58) mX3_fail (ci := 3) (a := b0) (As := [.int 1]) dX3_readLine_58 lk_X3_125 in_X3_fail mo_X3_fail ⟨by decide, rfl⟩ ⟨by decide, by decide⟩ (Nat.le_of_ble_eq_true rfl) k_b0 (mSI_mono K0 (fun r_6 y_5 K0 => ?_))
          obtain ⟨p_7, K0⟩ := K0
          exact s_zret rfl p_7 dX3_readLine_61 K0
        · have q := b2i_nz q
          have K0 := K0.2 q
          refine r_aload_n (pc := 51) dX3_readLine_51 rfl ?_
          refine s_VI (pc := 52) mX3_readAsk (ci := 3) (a := b0) (As := []) dX3_readLine_52 lk_X3_122 in_X3_readAsk mo_X3_readAsk ⟨by decide, rfl⟩ ⟨by decide, by decide⟩ (Nat.le_of_ble_eq_true rfl) k_b0 (mSI_mono K0 (fun r_9 y_8 K0 => ?_))
          obtain ⟨p_10, K0⟩ := K0
          exact s_zret rfl p_10 dX3_readLine_55 K0
      · have q := b2i_nz q
        have K0 := K0.2 q
        refine r_aload_n (pc := 37) dX3_readLine_37 rfl ?_
        refine s_VI (pc := 38) mX3_readSeries (ci := 3) (a := b0) (As := []) dX3_readLine_38 lk_X3_119 in_X3_readSeries mo_X3_readSeries ⟨by decide, rfl⟩ ⟨by decide, by decide⟩ (Nat.le_of_ble_eq_true rfl) k_b0 (mSI_mono K0 (fun r_12 y_11 K0 => ?_))
        obtain ⟨p_13, K0⟩ := K0
        exact s_zret rfl p_13 dX3_readLine_41 K0
    · have q := b2i_nz q
      have K0 := K0.2 q
      refine r_aload_n (pc := 23) dX3_readLine_23 rfl ?_
      refine s_VI (pc := 24) mX3_readCarrier (ci := 3) (a := b0) (As := []) dX3_readLine_24 lk_X3_116 in_X3_readCarrier mo_X3_readCarrier ⟨by decide, rfl⟩ ⟨by decide, by decide⟩ (Nat.le_of_ble_eq_true rfl) k_b0 (mSI_mono K0 (fun r_15 y_14 K0 => ?_))
      obtain ⟨p_16, K0⟩ := K0
      exact s_zret rfl p_16 dX3_readLine_27 K0
  · have q := b2i_nz q
    have K0 := K0.2 q
    refine r_aload_n (pc := 9) dX3_readLine_9 rfl ?_
    refine s_VI (pc := 10) mX3_readLimit (ci := 3) (a := b0) (As := []) dX3_readLine_10 lk_X3_113 in_X3_readLimit mo_X3_readLimit ⟨by decide, rfl⟩ ⟨by decide, by decide⟩ (Nat.le_of_ble_eq_true rfl) k_b0 (mSI_mono K0 (fun r_18 y_17 K0 => ?_))
    obtain ⟨p_19, K0⟩ := K0
    exact s_zret rfl p_19 dX3_readLine_13 K0
section
theorem sp_X3_readLine {x : Cn} {Q : Int32 → Cn → Prop} {b : TT} {n W : Nat} {s : PSt} (hW : 5 ≤ W) (c : CSs x b n W s) (k1 : ok1 b n W s → ∀ y, SCf x y → CSs y b n W (nx1 b n s) → Q 1 y) (k0 : ¬ ok1 b n W s → ∀ y, SCf x y → Q 0 y) : mSI mX3_readLine [.ref 59] KW x Q := by
  have c : CS x b n s.1 s.2.1 s.2.2.1 W s.2.2.2.1 s.2.2.2.2.1 s.2.2.2.2.2 := c
  have t := c.2.1
  have e8 : (gi x 59 9 = 1 ∧ gi x 59 10 = 8) ↔ iw b n s.1 8 := t.w 8
  have e9 : (gi x 59 9 = 1 ∧ gi x 59 10 = 9) ↔ iw b n s.1 9 := t.w 9
  have e10 : (gi x 59 9 = 1 ∧ gi x 59 10 = 10) ↔ iw b n s.1 10 := t.w 10
  have e11 : (gi x 59 9 = 1 ∧ gi x 59 10 = 11) ↔ iw b n s.1 11 := t.w 11
  have ne : ∀ i j, i < 16 → j < 16 → i ≠ j → iw b n s.1 i → ¬ iw b n s.1 j := fun i j hi hj hij h1 h2 => hij ((nI_eq (by omega) (by omega)).mp (h1.2.symm.trans h2.2))
  have we : ∀ i, iw b n s.1 i → wnp b n s.1 = nI i := fun i h => h.2
  refine v_X3_readLine_0 k59 ?_
  rw [e8, e9, e10, e11]
  refine ⟨fun n8 => ⟨fun n9 => ⟨fun n10 => ⟨fun n11 => sp_X3_fail (fun y f => ⟨Or.inl rfl, k0 (fun o => o.elim (fun z => n8 z.1) (fun o => o.elim (fun z => n9 z.1) (fun o => o.elim (fun z => n10 z.1) (fun z => n11 z.1)))) y f.sc⟩), fun o11 => ?_⟩, fun o10 => ?_⟩, fun o9 => ?_⟩, fun o8 => ?_⟩
  · rw [nx1_11 o11] at k1
    exact sp_X3_readAsk hW c (fun o y f c' => ⟨Or.inr rfl, k1 (Or.inr (Or.inr (Or.inr ⟨o11, o⟩))) y f c'⟩) (fun o y f => ⟨Or.inl rfl, k0 (fun w => w.elim (fun z => n8 z.1) (fun w => w.elim (fun z => n9 z.1) (fun w => w.elim (fun z => n10 z.1) (fun z => o z.2)))) y f⟩)
  · rw [nx1_10 o10] at k1
    exact sp_X3_readSeries hW c (fun o y f c' => ⟨Or.inr rfl, k1 (Or.inr (Or.inr (Or.inl ⟨o10, o⟩))) y f c'⟩) (fun o y f => ⟨Or.inl rfl, k0 (fun w => w.elim (fun z => n8 z.1) (fun w => w.elim (fun z => n9 z.1) (fun w => w.elim (fun z => o z.2) (fun z => ne 10 11 (by omega) (by omega) (by omega) o10 z.1)))) y f⟩)
  · rw [nx1_9 o9] at k1
    exact sp_X3_readCarrier hW c (fun o y f c' => ⟨Or.inr rfl, k1 (Or.inr (Or.inl ⟨o9, o⟩)) y f c'⟩) (fun o y f => ⟨Or.inl rfl, k0 (fun w => w.elim (fun z => n8 z.1) (fun w => w.elim (fun z => o z.2) (fun w => w.elim (fun z => ne 9 10 (by omega) (by omega) (by omega) o9 z.1) (fun z => ne 9 11 (by omega) (by omega) (by omega) o9 z.1)))) y f⟩)
  · rw [nx1_8 o8] at k1
    exact sp_X3_readLimit c (fun o y f c' => ⟨Or.inr rfl, k1 (Or.inl ⟨o8, o⟩) y f c'⟩) (fun o y f => ⟨Or.inl rfl, k0 (fun w => w.elim (fun z => o z.2) (fun w => w.elim (fun z => ne 8 9 (by omega) (by omega) (by omega) o8 z.1) (fun w => w.elim (fun z => ne 8 10 (by omega) (by omega) (by omega) o8 z.1) (fun z => ne 8 11 (by omega) (by omega) (by omega) o8 z.1)))) y f⟩)
/-- all lines: with d of them at most it comes to its end, L lines on -/
def runs (b : TT) (n W : Nat) : Nat → PSt → PSt → Nat → Prop
  | 0, _, _, _ => False
  | d + 1, s, t, L => (tK b n s.1 = 0 ∧ t = s ∧ L = 0) ∨ (¬ tK b n s.1 = 0 ∧ ok1 b n W s ∧ ∃ L', L = L' + 1 ∧ runs b n W d (nx1 b n s) t L')
def fails (b : TT) (n W : Nat) : Nat → PSt → Prop
  | 0, _ => False
  | d + 1, s => ¬ tK b n s.1 = 0 ∧ (¬ ok1 b n W s ∨ (ok1 b n W s ∧ fails b n W d (nx1 b n s)))
def SDf (x y : Cn) : Prop := y.2 = x.2 ∧ ∀ a k, ¬ (59 ≤ a ∧ a ≤ 115) → gi y a k = gi x a k
theorem SDf.rf (x : Cn) : SDf x x := ⟨rfl, fun _ _ _ => rfl⟩
theorem SDf.sc {x y z : Cn} (h : SDf x y) (g : SCf y z) : SDf x z := ⟨g.1.trans h.1, fun a k hk => (g.2 a k (Or.inl hk)).trans (h.2 a k hk)⟩
theorem SDf.u {x y : Cn} {a k : Nat} {v : Int32} (h : SDf x y) (ha : 59 ≤ a ∧ a ≤ 115) : SDf x (ui y a k v) := ⟨h.1, fun c j hj => by rw [gi_ui, if_neg (by omega)]; exact h.2 c j hj⟩
end
set_option maxHeartbeats 2000000 in
theorem v_X4_clear_0 {K : Sh} {x : Cn} {Q : Cn → Prop} {b0 : Nat}  (k_b0 : kk K b0 = some (4, 0)) (K0 : GV mX4_clear 27 [some (.ref b0), some (.int 0)] [] K (ui (ui (ui (ui (ui x b0 0 0) b0 1 0) b0 2 0) b0 3 0) b0 4 0) Q) : mSV mX4_clear [.ref b0] K x Q := by
  refine s_V (by decide) (by simp [Value.category]) (Nat.le_of_ble_eq_true rfl) ?_
  show mGM mX4_clear 0 [some (.ref b0), none] [] (hp K x) (PV K Q)
  refine r_aload_n (pc := 0) dX4_clear_0 rfl ?_
  refine r_iconst (pc := 1) (v := 0) dX4_clear_1 (by decide) ?_
  refine s_putI (pc := 2) dX4_clear_2 fl_X4_9 rfl rfl k_b0 ?_
  refine r_aload_n (pc := 5) dX4_clear_5 rfl ?_
  refine r_iconst (pc := 6) (v := 0) dX4_clear_6 (by decide) ?_
  refine s_putI (pc := 7) dX4_clear_7 fl_X4_15 rfl rfl k_b0 ?_
  refine r_aload_n (pc := 10) dX4_clear_10 rfl ?_
  refine r_iconst (pc := 11) (v := 0) dX4_clear_11 (by decide) ?_
  refine s_putI (pc := 12) dX4_clear_12 fl_X4_18 rfl rfl k_b0 ?_
  refine r_aload_n (pc := 15) dX4_clear_15 rfl ?_
  refine r_iconst (pc := 16) (v := 0) dX4_clear_16 (by decide) ?_
  refine s_putI (pc := 17) dX4_clear_17 fl_X4_21 rfl rfl k_b0 ?_
  refine r_aload_n (pc := 20) dX4_clear_20 rfl ?_
  refine r_iconst (pc := 21) (v := 0) dX4_clear_21 (by decide) ?_
  refine s_putI (pc := 22) dX4_clear_22 fl_X4_24 rfl rfl k_b0 ?_
  refine r_iconst (pc := 25) (v := 0) dX4_clear_25 (by decide) ?_
  refine r_istore_n (pc := 26) dX4_clear_26 (by decide) ?_
  exact r_le (L' := [some (.ref b0), some (.int 0)]) ⟨rfl, ⟨rfl, trivial⟩⟩ K0
set_option maxHeartbeats 2000000 in
theorem v_X4_clear_27 {K : Sh} {x : Cn} {Q : Cn → Prop} {b0 : Nat} {l1 : Int32} {b0_5 : Nat} {n_b0_5 : Nat} {b0_6 : Nat} {n_b0_6 : Nat} (k_b0 : kk K b0 = some (4, 0)) (g_b0_5 : gr x b0 5 = some b0_5) (k_b0_5 : kk K b0_5 = some (20, n_b0_5)) (g_b0_6 : gr x b0 6 = some b0_6) (k_b0_6 : kk K b0_6 = some (20, n_b0_6)) (K0 : (24 ≤ l1 → (Q x)) ∧ (¬ 24 ≤ l1 → (vp_in l1 n_b0_5 ∧ (vp_in l1 n_b0_6 ∧ (GV mX4_clear 27 [some (.ref b0), some (.int (l1 + 1))] [] K (ui (ui x b0_5 (l1 : Int32).toNatClampNeg 4) b0_6 (l1 : Int32).toNatClampNeg 4) Q))))) : GV mX4_clear 27 [some (.ref b0), some (.int l1)] [] K x Q := by
  show mGM mX4_clear 27 [some (.ref b0), some (.int l1)] [] (hp K x) (PV K Q)
  refine r_iload_n (pc := 27) dX4_clear_27 rfl ?_
  refine r_bipush (pc := 28) (v := 24) dX4_clear_28 (by decide) ?_
  refine r_icmp_ge (pc := 30) (tgt := 53) dX4_clear_30 (by decide) (fun q => ?_) (fun q => ?_)
  · have K0 := K0.1 q
    exact s_ret rfl dX4_clear_53 K0
  · have K0 := K0.2 q
    refine r_aload_n (pc := 33) dX4_clear_33 rfl ?_
    refine s_getR (pc := 34) dX4_clear_34 fl_X4_27 rfl k_b0 g_b0_5 ?_
    refine r_iload_n (pc := 37) dX4_clear_37 rfl ?_
    refine r_iconst (pc := 38) (v := 4) dX4_clear_38 (by decide) ?_
    obtain ⟨i_2, K0⟩ := K0
    refine s_iast (pc := 39) dX4_clear_39 k_b0_5 i_2 ?_
    refine r_aload_n (pc := 40) dX4_clear_40 rfl ?_
    refine s_getR (pc := 41) dX4_clear_41 fl_X4_31 rfl k_b0 g_b0_6 ?_
    refine r_iload_n (pc := 44) dX4_clear_44 rfl ?_
    refine r_iconst (pc := 45) (v := 4) dX4_clear_45 (by decide) ?_
    obtain ⟨i_3, K0⟩ := K0
    refine s_iast (pc := 46) dX4_clear_46 k_b0_6 i_3 ?_
    refine r_iinc (pc := 47) (v := l1 + 1) dX4_clear_47 rfl rfl (by decide) ?_
    refine r_goto (pc := 50) (L := [some (.ref b0), some (.int (l1 + 1))]) (tgt := 27) dX4_clear_50 (by decide) ?_
    exact r_le (L' := [some (.ref b0), some (.int (l1 + 1))]) ⟨rfl, ⟨rfl, trivial⟩⟩ K0
section
theorem lp_X4_clear {x : Cn} {Q : Cn → Prop} (r : SRf x 60) (k : ∀ y, y.2 = x.2 → (∀ a j, a ≠ 61 → a ≠ 62 → gi y a j = gi x a j) → (∀ h, h < 24 → gi y 61 h = 4 ∧ gi y 62 h = 4) → Q y) : ∀ d i y, i + d = 24 → y.2 = x.2 → (∀ a j, a ≠ 61 → a ≠ 62 → gi y a j = gi x a j) → (∀ h, h < i → gi y 61 h = 4 ∧ gi y 62 h = 4) → GV mX4_clear 27 [some (.ref 60), some (.int (nI i))] [] KW y Q := by
  intro d
  induction d with
  | zero =>
    intro i y hi h1 h2 h3
    have hg : ∀ a j, gr y a j = gr x a j := fun a j => by unfold gr; rw [h1]
    refine v_X4_clear_27 k60 ((hg _ _).trans r.1) (n_b0_5 := 24) (by decide) ((hg _ _).trans r.2.1) (n_b0_6 := 24) (by decide) ⟨fun _ => k y h1 h2 (fun h hh => h3 h (by omega)), fun z => absurd (nI_le (a := 24) (b := i) (by omega) (by omega)) z⟩
  | succ d ih =>
    intro i y hi h1 h2 h3
    have hg : ∀ a j, gr y a j = gr x a j := fun a j => by unfold gr; rw [h1]
    refine v_X4_clear_27 k60 ((hg _ _).trans r.1) (n_b0_5 := 24) (by decide) ((hg _ _).trans r.2.1) (n_b0_6 := 24) (by decide) ⟨fun z => absurd z (nI_ge (a := i) (b := 24) (by omega) (by omega)), fun _ => ⟨vp_in_nI (by omega) (by decide), vp_in_nI (by omega) (by decide), ?_⟩⟩
    rw [nI_clamp (by omega), ← nI_succ]
    refine ih (i + 1) _ (by omega) h1 (fun a j a1 a2 => by rw [gi_ui, if_neg (by omega), gi_ui, if_neg (by omega)]; exact h2 a j a1 a2) (fun h hh => ?_)
    by_cases e : h = i
    · rw [e]
      exact ⟨by rw [gi_ui, if_neg (by omega), gi_ui, if_pos ⟨rfl, rfl⟩], by rw [gi_ui, if_pos ⟨rfl, rfl⟩]⟩
    · rw [gi_ui, if_neg (by omega), gi_ui, if_neg (by omega), gi_ui, if_neg (by omega), gi_ui, if_neg (by omega)]
      exact h3 h (by omega)
theorem sp_X4_clear {x : Cn} {Q : Cn → Prop} (jk : TT) (r : SRf x 60) (k : ∀ y, y.2 = x.2 → (∀ a j, ¬ (60 ≤ a ∧ a ≤ 62) → gi y a j = gi x a j) → SEA y 60 (T00 jk) 0 0 0 0 0 → Q y) : mSV mX4_clear [.ref 60] KW x Q := by
  refine v_X4_clear_0 k60 ?_
  refine lp_X4_clear (x := ui (ui (ui (ui (ui x 60 0 0) 60 1 0) 60 2 0) 60 3 0) 60 4 0) (r.keep rfl) (fun y h1 h2 h3 => ?_) 24 0 _ (by omega) rfl (fun _ _ _ _ => rfl) (fun h hh => absurd hh (by omega))
  have z : ∀ k, k < 5 → gi y 60 k = 0 := by
    intro k hk
    rw [h2 60 k (by omega) (by omega)]
    rcases (show k = 0 ∨ k = 1 ∨ k = 2 ∨ k = 3 ∨ k = 4 by omega) with rfl | rfl | rfl | rfl | rfl <;> simp [gi_ui]
  refine k y h1 (fun a j ha => by rw [h2 a j (by omega) (by omega)]; simp only [gi_ui]; rw [if_neg (by omega), if_neg (by omega), if_neg (by omega), if_neg (by omega), if_neg (by omega)]) ⟨Or.inr (Or.inl rfl), (r.keep rfl).keep h1, ⟨(z 0 (by omega)).trans (T00_0 (by omega)).symm, (z 1 (by omega)).trans (T00_0 (by omega)).symm, (z 2 (by omega)).trans (T00_0 (by omega)).symm, (z 3 (by omega)).trans (T00_0 (by omega)).symm, (z 4 (by omega)).trans (T00_0 (by omega)).symm, fun h hh => ?_, fun s p hs => absurd hs (by omega), fun s p hs => absurd hs (by omega)⟩, T00_0 (by omega), Or.inl ⟨rfl, rfl⟩, by omega, T00_0 (by omega), by omega, T00_0 (by omega), by omega, T00_0 (by omega), by omega, T00_0 (by omega), by omega, fun h hh => ⟨4, 4, by omega, by omega, T00_4 (by omega), T00_4 (by omega)⟩, fun s hs => absurd hs (by omega), fun s hs => absurd hs (by omega)⟩
  have e1 : T00 jk (6 + 2 * h) = 4 := T00_4 (by omega)
  have e2 : T00 jk (7 + 2 * h) = 4 := T00_4 (by omega)
  rw [e1, e2]
  exact h3 h hh
end
set_option maxHeartbeats 2000000 in
theorem v_X3_readText_0 {K : Sh} {x : Cn} {Q : Int32 → Cn → Prop} {b0 : Nat} {b1 : Nat} {l2 : Int32} {n_b1 : Nat} (k_b0 : kk K b0 = some (3, 0)) (k_b1 : kk K b1 = some (21, n_b1)) (K0 : ∃ c_1 : Nat, gr (ur x b0 5 (some b1)) b0 0 = some c_1 ∧ (kk K c_1 = some (4, 0) ∧ (mSV mX4_clear [.ref c_1] K (ui (ui (ui (ui (ui (ui (ur x b0 5 (some b1)) b0 6 (if (Int32.ofNat n_b1) < l2 then (Int32.ofNat n_b1) else l2)) b0 8 0) b0 2 0) b0 3 0) b0 4 (-1)) b0 11 0) (fun y_4 => ∃ c_5 : Nat, gr y_4 b0 1 = some c_5 ∧ (kk K c_5 = some (1, 0) ∧ (mSV mX3_advance [.ref b0] K (ui y_4 c_5 0 0) (fun y_8 => mSI mX3_readWeeks [.ref b0] K y_8 (fun r_10 y_9 => (¬ r_10 = 0 → (GI mX3_readText 75 [some (.ref b0), some (.ref b1), some (.int l2), some (.int 0)] [] K (ui y_9 b0 2 1) Q)) ∧ (r_10 = 0 → (Q 0 y_9)))))))))) : mSI mX3_readText [.ref b0, .ref b1, .int l2] K x Q := by
  refine s_I (by decide) (by simp [Value.category]) (Nat.le_of_ble_eq_true rfl) ?_
  show mGM mX3_readText 0 [some (.ref b0), some (.ref b1), some (.int l2), none] [] (hp K x) (PI K Q)
  refine r_aload_n (pc := 0) dX3_readText_0 rfl ?_
  refine r_aload_n (pc := 1) dX3_readText_1 rfl ?_
  refine s_putR (pc := 2) dX3_readText_2 fl_X3_35 rfl rfl k_b0 ?_
  refine r_aload_n (pc := 5) dX3_readText_5 rfl ?_
  refine r_iload_n (pc := 6) dX3_readText_6 rfl ?_
  refine r_aload_n (pc := 7) dX3_readText_7 rfl ?_
  refine s_alen (pc := 8) dX3_readText_8 k_b1 (by decide) ?_
  refine r_mmin (pc := 9) dX3_readText_9 lk_X3_75 mw_min ⟨by decide, by decide⟩ (Nat.le_of_ble_eq_true rfl) ?_
  refine s_putI (pc := 12) dX3_readText_12 fl_X3_39 rfl rfl k_b0 ?_
  refine r_aload_n (pc := 15) dX3_readText_15 rfl ?_
  refine r_iconst (pc := 16) (v := 0) dX3_readText_16 (by decide) ?_
  refine s_putI (pc := 17) dX3_readText_17 fl_X3_45 rfl rfl k_b0 ?_
  refine r_aload_n (pc := 20) dX3_readText_20 rfl ?_
  refine r_iconst (pc := 21) (v := 0) dX3_readText_21 (by decide) ?_
  refine s_putI (pc := 22) dX3_readText_22 fl_X3_25 rfl rfl k_b0 ?_
  refine r_aload_n (pc := 25) dX3_readText_25 rfl ?_
  refine r_iconst (pc := 26) (v := 0) dX3_readText_26 (by decide) ?_
  refine s_putI (pc := 27) dX3_readText_27 fl_X3_29 rfl rfl k_b0 ?_
  refine r_aload_n (pc := 30) dX3_readText_30 rfl ?_
  refine r_iconst (pc := 31) (v := (-1)) dX3_readText_31 (by decide) ?_
  refine s_putI (pc := 32) dX3_readText_32 fl_X3_32 rfl rfl k_b0 ?_
  refine r_aload_n (pc := 35) dX3_readText_35 rfl ?_
  refine r_iconst (pc := 36) (v := 0) dX3_readText_36 (by decide) ?_
  refine s_putI (pc := 37) dX3_readText_37 fl_X3_54 rfl rfl k_b0 ?_
  refine r_aload_n (pc := 40) dX3_readText_40 rfl ?_
  obtain ⟨c_1, g_2, K0⟩ := K0
  refine s_getR (pc := 41) dX3_readText_41 fl_X3_12 rfl k_b0 g_2 ?_
  obtain ⟨e_3, K0⟩ := K0
  refine s_VV (pc := 44) mX4_clear (ci := 4) (a := c_1) (As := []) dX3_readText_44 lk_X3_81 in_X4_clear mo_X4_clear ⟨by decide, rfl⟩ ⟨by decide, by decide⟩ (Nat.le_of_ble_eq_true rfl) e_3 (mSV_mono K0 (fun y_4 K0 => ?_))
  refine r_aload_n (pc := 47) dX3_readText_47 rfl ?_
  obtain ⟨c_5, g_6, K0⟩ := K0
  refine s_getR (pc := 48) dX3_readText_48 fl_X3_21 rfl k_b0 g_6 ?_
  refine r_iconst (pc := 51) (v := 0) dX3_readText_51 (by decide) ?_
  obtain ⟨e_7, K0⟩ := K0
  refine s_putI (pc := 52) dX3_readText_52 fl_X3_84 rfl rfl e_7 ?_
  refine r_aload_n (pc := 55) dX3_readText_55 rfl ?_
  refine s_VV (pc := 56) mX3_advance (ci := 3) (a := b0) (As := []) dX3_readText_56 lk_X3_87 in_X3_advance mo_X3_advance ⟨by decide, rfl⟩ ⟨by decide, by decide⟩ (Nat.le_of_ble_eq_true rfl) k_b0 (mSV_mono K0 (fun y_8 K0 => ?_))
  refine r_aload_n (pc := 59) dX3_readText_59 rfl ?_
  refine s_VI (pc := 60) mX3_readWeeks (ci := 3) (a := b0) (As := []) dX3_readText_60 lk_X3_90 in_X3_readWeeks mo_X3_readWeeks ⟨by decide, rfl⟩ ⟨by decide, by decide⟩ (Nat.le_of_ble_eq_true rfl) k_b0 (mSI_mono K0 (fun r_10 y_9 K0 => ?_))
  refine r_if_ne (pc := 63) (tgt := 68) dX3_readText_63 (by decide) (fun q => ?_) (fun q => ?_)
  · have K0 := K0.1 q
    refine r_aload_n (pc := 68) dX3_readText_68 rfl ?_
    refine r_iconst (pc := 69) (v := 1) dX3_readText_69 (by decide) ?_
    refine s_putI (pc := 70) dX3_readText_70 fl_X3_25 rfl rfl k_b0 ?_
    refine r_iconst (pc := 73) (v := 0) dX3_readText_73 (by decide) ?_
    refine r_istore_n (pc := 74) dX3_readText_74 (by decide) ?_
    exact r_le (L' := [some (.ref b0), some (.ref b1), some (.int l2), some (.int 0)]) ⟨rfl, ⟨rfl, ⟨rfl, ⟨rfl, trivial⟩⟩⟩⟩ K0
  · have K0 := K0.2 q
    refine r_iconst (pc := 66) (v := 0) dX3_readText_66 (by decide) ?_
    exact s_zret rfl (by decide) dX3_readText_67 K0
set_option maxHeartbeats 2000000 in
theorem v_X3_readText_75 {K : Sh} {x : Cn} {Q : Int32 → Cn → Prop} {b0 : Nat} {b1 : Nat} {l2 : Int32} {l3 : Int32}  (k_b0 : kk K b0 = some (3, 0)) (K0 : ((gi x b0 6) ≤ l3 → (Q 1 x)) ∧ (¬ (gi x b0 6) ≤ l3 → (((gi x b0 9) = 0 → (Q 1 x)) ∧ (¬ (gi x b0 9) = 0 → (mSI mX3_readLine [.ref b0] K x (fun r_4 y_3 => (¬ r_4 = 0 → (GI mX3_readText 75 [some (.ref b0), some (.ref b1), some (.int l2), some (.int (l3 + 1))] [] K (ui y_3 b0 2 ((gi y_3 b0 2) + 1)) Q)) ∧ (r_4 = 0 → (Q 0 y_3)))))))) : GI mX3_readText 75 [some (.ref b0), some (.ref b1), some (.int l2), some (.int l3)] [] K x Q := by
  show mGM mX3_readText 75 [some (.ref b0), some (.ref b1), some (.int l2), some (.int l3)] [] (hp K x) (PI K Q)
  refine r_iload_n (pc := 75) dX3_readText_75 rfl ?_
  refine r_aload_n (pc := 76) dX3_readText_76 rfl ?_
  refine s_getI (pc := 77) dX3_readText_77 fl_X3_39 rfl k_b0 ?_
  refine r_icmp_ge (pc := 80) (tgt := 115) dX3_readText_80 (by decide) (fun q => ?_) (fun q => ?_)
  · have K0 := K0.1 q
    refine r_iconst (pc := 115) (v := 1) dX3_readText_115 (by decide) ?_
    exact s_zret rfl (by decide) dX3_readText_116 K0
  · have K0 := K0.2 q
    refine r_aload_n (pc := 83) dX3_readText_83 rfl ?_
    refine s_getI (pc := 84) dX3_readText_84 fl_X3_48 rfl k_b0 ?_
    refine r_if_eq (pc := 87) (tgt := 115) dX3_readText_87 (by decide) (fun q => ?_) (fun q => ?_)
    · have K0 := K0.1 q
      refine r_iconst (pc := 115) (v := 1) dX3_readText_115 (by decide) ?_
      exact s_zret rfl (by decide) dX3_readText_116 K0
    · have K0 := K0.2 q
      refine r_aload_n (pc := 90) dX3_readText_90 rfl ?_
      refine s_VI (pc := 91) mX3_readLine (ci := 3) (a := b0) (As := []) dX3_readText_91 lk_X3_94 in_X3_readLine mo_X3_readLine ⟨by decide, rfl⟩ ⟨by decide, by decide⟩ (Nat.le_of_ble_eq_true rfl) k_b0 (mSI_mono K0 (fun r_4 y_3 K0 => ?_))
      refine r_if_ne (pc := 94) (tgt := 99) dX3_readText_94 (by decide) (fun q => ?_) (fun q => ?_)
      · have K0 := K0.1 q
        refine r_aload_n (pc := 99) dX3_readText_99 rfl ?_
        refine r_dup (pc := 100) dX3_readText_100 rfl ?_
        refine s_getI (pc := 101) dX3_readText_101 fl_X3_25 rfl k_b0 ?_
        refine r_iconst (pc := 104) (v := 1) dX3_readText_104 (by decide) ?_
        refine r_iadd (pc := 105) dX3_readText_105 ?_
        refine s_putI (pc := 106) dX3_readText_106 fl_X3_25 rfl rfl k_b0 ?_
        refine r_iinc (pc := 109) (v := l3 + 1) dX3_readText_109 rfl rfl (by decide) ?_
        refine r_goto (pc := 112) (L := [some (.ref b0), some (.ref b1), some (.int l2), some (.int (l3 + 1))]) (tgt := 75) dX3_readText_112 (by decide) ?_
        exact r_le (L' := [some (.ref b0), some (.ref b1), some (.int l2), some (.int (l3 + 1))]) ⟨rfl, ⟨rfl, ⟨rfl, ⟨rfl, trivial⟩⟩⟩⟩ K0
      · have K0 := K0.2 q
        refine r_iconst (pc := 97) (v := 0) dX3_readText_97 (by decide) ?_
        exact s_zret rfl (by decide) dX3_readText_98 K0
section
theorem lp_X3_readText_75 {x : Cn} {Q : Int32 → Cn → Prop} {b : TT} {n W : Nat} {l2 : Int32} (hW : 5 ≤ W) : ∀ d s y i L0, n < s.1 + d → i ≤ s.1 → SDf x y → CSs y b n W s → gi y 59 2 = nI L0 → (∀ t L z, runs b n W d s t L → SDf x z → CSs z b n W t → gi z 59 2 = nI (L0 + L) → Q 1 z) → (fails b n W d s → ∀ z, SDf x z → Q 0 z) → GI mX3_readText 75 [some (.ref 59), some (.ref 1), some (.int l2), some (.int (nI i))] [] KW y Q := by
  intro d
  induction d with
  | zero =>
    intro s y i L0 h1 h2 f c h3 k1 k0
    have : s.1 ≤ n := c.2.2.1
    omega
  | succ d ih =>
    intro s y i L0 h1 h2 f c h3 k1 k0
    have hp : s.1 ≤ n := c.2.2.1
    have hn : n ≤ 1200 := c.1.1
    have ek : gi y 59 9 = 0 ↔ tK b n s.1 = 0 := CTk.k (b := b) c.2.1 0 (by omega)
    refine v_X3_readText_75 k59 ?_
    rw [c.1.2.1, ek]
    by_cases z : tK b n s.1 = 0
    · have q : Q 1 y := k1 s 0 y (Or.inl ⟨z, rfl, rfl⟩) f c h3
      exact ⟨fun _ => q, fun _ => ⟨fun _ => q, fun w => absurd z w⟩⟩
    · have hlt : s.1 < n := by
        have h5 := tS_b (b := b) hp
        have h6 := tK_0 (b := b) hp
        omega
      refine ⟨fun w => absurd w (nI_ge (by omega) (by omega)), fun _ => ⟨fun w => absurd w z, fun _ => ?_⟩⟩
      refine sp_X3_readLine hW c (fun o w fw cw => ⟨fun _ => ?_, fun q => absurd q (by decide)⟩) (fun o w fw => ⟨fun q => absurd rfl q, fun _ => k0 ⟨z, Or.inl o⟩ w (f.sc fw)⟩)
      have hg := nx1_gt (b := b) hp z
      have e2 : gi w 59 2 = nI L0 := (fw.2 59 2 (Or.inr ⟨rfl, rfl⟩)).trans h3
      rw [e2, ← nI_succ, ← nI_succ]
      have cw : CS w b n (nx1 b n s).1 (nx1 b n s).2.1 (nx1 b n s).2.2.1 W (nx1 b n s).2.2.2.1 (nx1 b n s).2.2.2.2.1 (nx1 b n s).2.2.2.2.2 := cw
      refine ih (nx1 b n s) _ (i + 1) (L0 + 1) (by omega) (by omega) ((f.sc fw).u (by omega)) (cw.u (by omega)) (by rw [gi_ui, if_pos ⟨rfl, rfl⟩]) (fun t L z' r f' c' e' => k1 t (L + 1) z' (Or.inr ⟨z, o, L, rfl, r⟩) f' c' (by rw [e']; congr 1; omega)) (fun r z' f' => k0 ⟨z, Or.inr ⟨o, r⟩⟩ z' f')
/-- the state behind the line of weeks -/
def s00 (b : TT) (n : Nat) (j : TT) : PSt := (nxt b n 3 0, uT (T00 j) 0 (nI (tV b n (nxt b n 1 0))), 0, 0, 0, 0)
theorem sp_X3_readText {x : Cn} {Q : Int32 → Cn → Prop} {b : TT} {n : Nat} (jk : TT) (g0 : gr x 59 0 = some 60) (g1 : gr x 59 1 = some 114) (g2 : gr x 114 1 = some 115) (r : SRf x 60) (hn : n ≤ 1200) (hb : ∀ i, i < n → gi x 1 i = b i) (hB : ∀ i, i < n → isB (b i)) (k1 : okW b n 0 → ∀ t L y, runs b n (tV b n (nxt b n 1 0)) (n + 1) (s00 b n jk) t L → SDf (ur x 59 5 (some 1)) y → CSs y b n (tV b n (nxt b n 1 0)) t → gi y 59 2 = nI (1 + L) → Q 1 y) (k0 : (¬ okW b n 0 ∨ (okW b n 0 ∧ fails b n (tV b n (nxt b n 1 0)) (n + 1) (s00 b n jk))) → ∀ y, SDf (ur x 59 5 (some 1)) y → Q 0 y) : mSI mX3_readText [.ref 59, .ref 1, .int (nI n)] KW x Q := by
  have ml : (if (Int32.ofNat 1200) < nI n then (Int32.ofNat 1200) else nI n) = nI n := if_neg (fun z => absurd ((nI_ltI (a := 1200) (b := n) (by omega) (by omega)).mp z) (by omega))
  have hgo : ∀ a k, ¬ (a = 59 ∧ k = 5) → gr (ur x 59 5 (some 1)) a k = gr x a k := fun a k h => by rw [gr_ur, if_neg h]
  refine v_X3_readText_0 k59 k1t ⟨60, (hgo _ _ (by omega)).trans g0, k60, ?_⟩
  rw [ml]
  have f0 : SDf (ur x 59 5 (some 1)) (ui (ui (ui (ui (ui (ui (ur x 59 5 (some 1)) 59 6 (nI n)) 59 8 0) 59 2 0) 59 3 0) 59 4 (-1)) 59 11 0) := ((((((SDf.rf _).u (by omega)).u (by omega)).u (by omega)).u (by omega)).u (by omega)).u (by omega)
  have e6 : gi (ui (ui (ui (ui (ui (ui (ur x 59 5 (some 1)) 59 6 (nI n)) 59 8 0) 59 2 0) 59 3 0) 59 4 (-1)) 59 11 0) 59 6 = nI n := by simp [gi_ui]
  have e8 : gi (ui (ui (ui (ui (ui (ui (ur x 59 5 (some 1)) 59 6 (nI n)) 59 8 0) 59 2 0) 59 3 0) 59 4 (-1)) 59 11 0) 59 8 = 0 := by simp [gi_ui]
  have e11 : gi (ui (ui (ui (ui (ui (ui (ur x 59 5 (some 1)) 59 6 (nI n)) 59 8 0) 59 2 0) 59 3 0) 59 4 (-1)) 59 11 0) 59 11 = 0 := by simp [gi_ui]
  have r0 : SRf (ui (ui (ui (ui (ui (ui (ur x 59 5 (some 1)) 59 6 (nI n)) 59 8 0) 59 2 0) 59 3 0) 59 4 (-1)) 59 11 0) 60 := by
    have : SRf (ur x 59 5 (some 1)) 60 := by
      obtain ⟨r1, r2, r3, r4, r5, r6, r7, r8, r9⟩ := r
      refine ⟨(hgo _ _ (by omega)).trans r1, (hgo _ _ (by omega)).trans r2, (hgo _ _ (by omega)).trans r3, (hgo _ _ (by omega)).trans r4, (hgo _ _ (by omega)).trans r5, fun s hs => ?_, fun s t hs ht => ?_, fun s hs => ?_, fun s t hs ht => ?_⟩
      · rw [hgo _ _ (by omega)]; exact r6 s hs
      · rw [hgo _ _ (by omega), hgo _ _ (by omega)]; exact r7 s t hs ht
      · rw [hgo _ _ (by omega)]; exact r8 s hs
      · rw [hgo _ _ (by omega), hgo _ _ (by omega)]; exact r9 s t hs ht
    exact this.keep rfl
  generalize ui (ui (ui (ui (ui (ui (ur x 59 5 (some 1)) 59 6 (nI n)) 59 8 0) 59 2 0) 59 3 0) 59 4 (-1)) 59 11 0 = u at f0 e6 e8 e11 r0
  refine sp_X4_clear jk r0 (fun y h1 h2 E => ?_)
  have hg : ∀ a k, gr y a k = gr (ur x 59 5 (some 1)) a k := fun a k => by unfold gr; rw [h1, f0.1]
  refine ⟨114, (hg _ _).trans ((hgo _ _ (by omega)).trans g1), k114, ?_⟩
  have f1 : SDf (ur x 59 5 (some 1)) (ui y 114 0 0) := (show SDf (ur x 59 5 (some 1)) y from ⟨h1.trans f0.1, fun a k h => (h2 a k (by omega)).trans (f0.2 a k h)⟩).u (by omega)
  have B : RB (ui y 114 0 0) b n := by
    refine ⟨hn, by rw [gi_ui, if_neg (by omega)]; exact (h2 59 6 (by omega)).trans e6, fun i hi => (f1.2 1 i (by omega)).trans (hb i hi), hB, (hg _ _).trans ((hgo _ _ (by omega)).trans g0), (hg _ _).trans ((hgo _ _ (by omega)).trans g1), (hg _ _).trans (by rw [gr_ur, if_pos ⟨rfl, rfl⟩]), (hg _ _).trans ((hgo _ _ (by omega)).trans g2)⟩
  have E1 : SEA (ui y 114 0 0) 60 (T00 jk) 0 0 0 0 0 := E.keep rfl (fun a k _ _ _ => by rw [gi_ui, if_neg (by omega)])
  have y8 : gi (ui y 114 0 0) 59 8 = nI 0 := by rw [gi_ui, if_neg (by omega)]; exact (h2 59 8 (by omega)).trans e8
  have y11 : gi (ui y 114 0 0) 59 11 = 0 := by rw [gi_ui, if_neg (by omega)]; exact (h2 59 11 (by omega)).trans e11
  have y114 : gi (ui y 114 0 0) 114 0 = 0 := by rw [gi_ui, if_pos ⟨rfl, rfl⟩]
  generalize ui y 114 0 0 = v at f1 B E1 y8 y11 y114
  refine sp_X3_advance (p := 0) B.2.2.2.2.2.2.1 B.1 B.2.2.1 B.2.2.2.1 B.2.1 y8 (by omega) (fun w fw tw => ?_)
  refine sp_X3_readWeeks (B.at fw) tw (by omega) ((fw.2 59 11 (by omega)).trans y11) (E1.keep fw.1 (fun a k _ _ _ => fw.2 a k (by omega))) ((fw.2 114 0 (by omega)).trans y114) (fun o z fz cz => ⟨fun _ => ?_, fun q => absurd q (by decide)⟩) (fun o z fz => ⟨fun q => absurd rfl q, fun _ => k0 (Or.inl o) z ((f1.sc fw.sc).sc fz)⟩)
  have hs : nxt b n 3 0 ≤ n := nxt_le (by omega)
  exact lp_X3_readText_75 (b := b) (n := n) (W := tV b n (nxt b n 1 0)) o.2.1.2.1 (n + 1) (s00 b n jk) (ui z 59 2 1) 0 1 (by omega) (by omega) (((f1.sc fw.sc).sc fz).u (by omega)) (cz.u (by omega)) (by rw [gi_ui, if_pos ⟨rfl, rfl⟩]; rfl) (fun t L z' r f' c' e' => k1 o t L z' r f' c' e') (fun r z' f' => k0 (Or.inr ⟨o, r⟩) z' f')

end

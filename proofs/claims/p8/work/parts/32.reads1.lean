/-! loops: a step for each number, an end -/
def lpR {σ : Type} (step : Nat → σ → σ ⊕ Int32) (fin : σ → Int32) : Nat → Nat → σ → Int32
  | 0, _, a => fin a
  | n + 1, s, a => match step s a with
    | .inl a' => lpR step fin n (s + 1) a'
    | .inr r => r
theorem lp_gen {σ : Type} (step : Nat → σ → σ ⊕ Int32) (fin : σ → Int32) (G : Nat → σ → Prop) (Qr : Int32 → Prop) (S : Nat) (hend : ∀ a, Qr (fin a) → G S a) (hstep : ∀ s a, s < S → (∀ a', step s a = .inl a' → G (s + 1) a') → (∀ r, step s a = .inr r → Qr r) → G s a) : ∀ (n s : Nat) (a : σ), s + n = S → Qr (lpR step fin n s a) → G s a := by
  intro n
  induction n with
  | zero =>
    intro s a hs k
    have : s = S := by omega
    subst this
    exact hend a k
  | succ n ih =>
    intro s a hs k
    refine hstep s a (by omega) (fun a' e => ih (s + 1) a' (by omega) ?_) (fun r e => ?_)
    · simp only [lpR, e] at k
      exact k
    · simp only [lpR, e] at k
      exact k
theorem cell_iff {x : Cn} {T : TT} {W : Nat} {l1 l2 l3 : Int32} {g : Int32} (hW : W ≤ 30) (hg : g = nI W) (hT : T 0 = nI W) : (0 ≤ l1 ∧ l1 ≤ T 0 - 1 ∧ 0 < T 0 ∧ 0 ≤ l2 ∧ l2 ≤ 6 ∧ 0 ≤ l3 ∧ l3 ≤ 23) ↔ (0 ≤ l1 ∧ l1 < g ∧ 0 < g ∧ 0 ≤ l2 ∧ l2 < 7 ∧ 0 ≤ l3 ∧ l3 < 24) := by
  have a1 := inN' (v := l1) (n := W) (by omega)
  have a2 := inN' (v := l2) (n := 7) (by decide)
  have a3 := inN' (v := l3) (n := 24) (by decide)
  rw [show nI 7 - 1 = (6 : Int32) by decide, show nI 7 = (7 : Int32) by decide] at a2
  rw [show nI 24 - 1 = (23 : Int32) by decide, show nI 24 = (24 : Int32) by decide] at a3
  rw [hT, hg]
  exact ⟨fun ⟨z1, z2, z3, z4, z5, z6, z7⟩ => ⟨z1, (a1.mp ⟨z1, z2⟩).2, z3, z4, (a2.mp ⟨z4, z5⟩).2, z6, (a3.mp ⟨z6, z7⟩).2⟩, fun ⟨z1, z2, z3, z4, z5, z6, z7⟩ => ⟨z1, (a1.mpr ⟨z1, z2⟩).2, z3, z4, (a2.mpr ⟨z4, z5⟩).2, z6, (a3.mpr ⟨z6, z7⟩).2⟩⟩
theorem v0 {k N : Nat} {v : Int32} (hk : v = nI k) (h : Nat.blt k N = true) (hN : Nat.ble N 100000 = true) : vp_in v N := iv0 k N hk (Nat.le_of_ble_eq_true h) (by have := Nat.le_of_ble_eq_true hN; omega)
set_option maxHeartbeats 2000000 in
theorem v_X5_bitsThatAre_0 {K : Sh} {x : Cn} {Q : Int32 → Cn → Prop} {b0 : Nat} {l1 : Int32}  (k_b0 : kk K b0 = some (5, 0)) (K0 : (l1 = 1 → (Q (gi x b0 8) x)) ∧ (l1 = 2 → (Q (gi x b0 9) x)) ∧ (l1 = 3 → (Q (gi x b0 10) x)) ∧ (l1 = 4 → (Q (gi x b0 11) x)) ∧ ((¬ l1 = 1 ∧ ¬ l1 = 2 ∧ ¬ l1 = 3 ∧ ¬ l1 = 4) → (Q (f_open x b0) x))) : mSI mX5_bitsThatAre [.ref b0, .int l1] K x Q := by
  refine s_I (by decide) (by simp [Value.category]) (Nat.le_of_ble_eq_true rfl) ?_
  show mGM mX5_bitsThatAre 0 [some (.ref b0), some (.int l1)] [] (hp K x) (PI K Q)
  refine r_iload_n (pc := 0) dX5_bitsThatAre_0 rfl ?_
  by_cases q1 : l1 = 1
  · have K0 := K0.1 q1
    refine r_tabIn (pc := 1) (tgt := 32) (off := 31) dX5_bitsThatAre_1 (by rw [q1]; decide) (by rw [q1]; decide) (by rw [q1]; decide) (by decide) ?_
    refine r_aload_n (pc := 32) dX5_bitsThatAre_32 rfl ?_
    refine s_getI (pc := 33) dX5_bitsThatAre_33 fl_X5_37 rfl k_b0 ?_
    exact s_iret rfl dX5_bitsThatAre_36 K0
  have K0 := K0.2
  by_cases q2 : l1 = 2
  · have K0 := K0.1 q2
    refine r_tabIn (pc := 1) (tgt := 37) (off := 36) dX5_bitsThatAre_1 (by rw [q2]; decide) (by rw [q2]; decide) (by rw [q2]; decide) (by decide) ?_
    refine r_aload_n (pc := 37) dX5_bitsThatAre_37 rfl ?_
    refine s_getI (pc := 38) dX5_bitsThatAre_38 fl_X5_40 rfl k_b0 ?_
    exact s_iret rfl dX5_bitsThatAre_41 K0
  have K0 := K0.2
  by_cases q3 : l1 = 3
  · have K0 := K0.1 q3
    refine r_tabIn (pc := 1) (tgt := 42) (off := 41) dX5_bitsThatAre_1 (by rw [q3]; decide) (by rw [q3]; decide) (by rw [q3]; decide) (by decide) ?_
    refine r_aload_n (pc := 42) dX5_bitsThatAre_42 rfl ?_
    refine s_getI (pc := 43) dX5_bitsThatAre_43 fl_X5_43 rfl k_b0 ?_
    exact s_iret rfl dX5_bitsThatAre_46 K0
  have K0 := K0.2
  by_cases q4 : l1 = 4
  · have K0 := K0.1 q4
    refine r_tabIn (pc := 1) (tgt := 47) (off := 46) dX5_bitsThatAre_1 (by rw [q4]; decide) (by rw [q4]; decide) (by rw [q4]; decide) (by decide) ?_
    refine r_aload_n (pc := 47) dX5_bitsThatAre_47 rfl ?_
    refine s_getI (pc := 48) dX5_bitsThatAre_48 fl_X5_46 rfl k_b0 ?_
    exact s_iret rfl dX5_bitsThatAre_51 K0
  have K0 := K0.2
  have K0 := K0 ⟨q1, q2, q3, q4⟩
  refine r_tabOut (pc := 1) (tgt := 52) dX5_bitsThatAre_1 (by have z1 : ¬ Int32.toInt (l1) = 1 := fun z => q1 (Int32.toInt_inj.mp (z.trans (by decide))); have z2 : ¬ Int32.toInt (l1) = 2 := fun z => q2 (Int32.toInt_inj.mp (z.trans (by decide))); have z3 : ¬ Int32.toInt (l1) = 3 := fun z => q3 (Int32.toInt_inj.mp (z.trans (by decide))); have z4 : ¬ Int32.toInt (l1) = 4 := fun z => q4 (Int32.toInt_inj.mp (z.trans (by decide))); omega) (by decide) ?_
  refine r_aload_n (pc := 52) dX5_bitsThatAre_52 rfl ?_
  refine s_VI (pc := 53) mX5_openBits (ci := 5) (a := b0) (As := []) dX5_bitsThatAre_53 lk_X5_57 in_X5_openBits mo_X5_openBits ⟨by decide, rfl⟩ ⟨by decide, by decide⟩ (Nat.le_of_ble_eq_true rfl) k_b0 (sp_X5_openBits k_b0 ?_)
  exact s_iret rfl dX5_bitsThatAre_56 K0
section
theorem sp_X5_bitsThatAre {x : Cn} {Q : Int32 → Cn → Prop} {p : Nat} {T : TT} {C W s : Nat} (h1 : kk KW p = some (5, 0)) (h2 : SER x p T s) (h3 : Wse T C W s) {k : Nat} (hk : k < 5) (q : Q (so T s (7 + k)) x) : mSI mX5_bitsThatAre [.ref p, .int (nI k)] KW x Q := by
  refine v_X5_bitsThatAre_0 h1 ?_
  rw [h2.1 8 (by decide) (by decide), h2.1 9 (by decide) (by decide), h2.1 10 (by decide) (by decide), h2.1 11 (by decide) (by decide), h2.opn h3]
  have hk' : k = 0 ∨ k = 1 ∨ k = 2 ∨ k = 3 ∨ k = 4 := by omega
  rcases hk' with rfl | rfl | rfl | rfl | rfl
  · exact ⟨fun z => absurd z (by decide), fun z => absurd z (by decide), fun z => absurd z (by decide), fun z => absurd z (by decide), fun _ => q⟩
  · exact ⟨fun _ => q, fun z => absurd z (by decide), fun z => absurd z (by decide), fun z => absurd z (by decide), fun z => absurd (by decide) z.1⟩
  · exact ⟨fun z => absurd z (by decide), fun _ => q, fun z => absurd z (by decide), fun z => absurd z (by decide), fun z => absurd (by decide) z.2.1⟩
  · exact ⟨fun z => absurd z (by decide), fun z => absurd z (by decide), fun _ => q, fun z => absurd z (by decide), fun z => absurd (by decide) z.2.2.1⟩
  · exact ⟨fun z => absurd z (by decide), fun z => absurd z (by decide), fun z => absurd z (by decide), fun _ => q, fun z => absurd (by decide) z.2.2.2⟩
/-- the state of a week: the first kind that has it -/
def stt (T : TT) (s w : Nat) : Int32 := lpR (σ := Unit) (fun k _ => if tb (so T s (7 + k)) w = true then .inr (nI k) else .inl ()) (fun _ => -1) 5 0 ()
end
set_option maxHeartbeats 2000000 in
theorem v_X5_stateOf_0 {K : Sh} {x : Cn} {Q : Int32 → Cn → Prop} {b0 : Nat} {l1 : Int32}   (K0 : GI mX5_stateOf 2 [some (.ref b0), some (.int l1), some (.int 0)] [] K x Q) : mSI mX5_stateOf [.ref b0, .int l1] K x Q := by
  refine s_I (by decide) (by simp [Value.category]) (Nat.le_of_ble_eq_true rfl) ?_
  show mGM mX5_stateOf 0 [some (.ref b0), some (.int l1), none] [] (hp K x) (PI K Q)
  refine r_iconst (pc := 0) (v := 0) dX5_stateOf_0 (by decide) ?_
  refine r_istore_n (pc := 1) dX5_stateOf_1 (by decide) ?_
  exact r_le (L' := [some (.ref b0), some (.int l1), some (.int 0)]) ⟨rfl, ⟨rfl, ⟨rfl, trivial⟩⟩⟩ K0
set_option maxHeartbeats 2000000 in
theorem v_X5_stateOf_2 {K : Sh} {x : Cn} {Q : Int32 → Cn → Prop} {b0 : Nat} {l1 : Int32} {l2 : Int32}  (k_b0 : kk K b0 = some (5, 0)) (K0 : (4 < l2 → (Q (-1) x)) ∧ (¬ 4 < l2 → (mSI mX5_bitsThatAre [.ref b0, .int l2] K x (fun r_3 y_2 => (¬ (f_bit r_3 l1) → (GI mX5_stateOf 2 [some (.ref b0), some (.int l1), some (.int (l2 + 1))] [] K y_2 Q)) ∧ ((f_bit r_3 l1) → (Q l2 y_2)))))) : GI mX5_stateOf 2 [some (.ref b0), some (.int l1), some (.int l2)] [] K x Q := by
  show mGM mX5_stateOf 2 [some (.ref b0), some (.int l1), some (.int l2)] [] (hp K x) (PI K Q)
  refine r_iload_n (pc := 2) dX5_stateOf_2 rfl ?_
  refine r_iconst (pc := 3) (v := 4) dX5_stateOf_3 (by decide) ?_
  refine r_icmp_gt (pc := 4) (tgt := 27) dX5_stateOf_4 (by decide) (fun q => ?_) (fun q => ?_)
  · have K0 := K0.1 q
    refine r_iconst (pc := 27) (v := (-1)) dX5_stateOf_27 (by decide) ?_
    exact s_iret rfl dX5_stateOf_28 K0
  · have K0 := K0.2 q
    refine r_aload_n (pc := 7) dX5_stateOf_7 rfl ?_
    refine r_iload_n (pc := 8) dX5_stateOf_8 rfl ?_
    refine s_VI (pc := 9) mX5_bitsThatAre (ci := 5) (a := b0) (As := [.int l2]) dX5_stateOf_9 lk_X5_61 in_X5_bitsThatAre mo_X5_bitsThatAre ⟨by decide, rfl⟩ ⟨by decide, by decide⟩ (Nat.le_of_ble_eq_true rfl) k_b0 (mSI_mono K0 (fun r_3 y_2 K0 => ?_))
    refine r_iload_n (pc := 12) dX5_stateOf_12 rfl ?_
    refine s_SNI (pc := 13) mX7_hasBit (As := [.int r_3, .int l1]) dX5_stateOf_13 nl_X5_65 st_X7_hasBit mo_X7_hasBit ⟨by decide, by decide⟩ (Nat.le_of_ble_eq_true rfl) (sp_X7_hasBit  ?_)
    refine r_if_eq (pc := 16) (tgt := 21) dX5_stateOf_16 (by decide) (fun q => ?_) (fun q => ?_)
    · have q := (b2i_z _).mp q
      have K0 := K0.1 q
      refine r_iinc (pc := 21) (v := l2 + 1) dX5_stateOf_21 rfl rfl (by decide) ?_
      refine r_goto (pc := 24) (L := [some (.ref b0), some (.int l1), some (.int (l2 + 1))]) (tgt := 2) dX5_stateOf_24 (by decide) ?_
      exact r_le (L' := [some (.ref b0), some (.int l1), some (.int (l2 + 1))]) ⟨rfl, ⟨rfl, ⟨rfl, trivial⟩⟩⟩ K0
    · have q := b2i_nz q
      have K0 := K0.2 q
      refine r_iload_n (pc := 19) dX5_stateOf_19 rfl ?_
      exact s_iret rfl dX5_stateOf_20 K0
section
theorem sp_X5_stateOf {x : Cn} {Q : Int32 → Cn → Prop} {p : Nat} {T : TT} {C W s w : Nat} (hw : w < 32) (h1 : kk KW p = some (5, 0)) (h2 : SER x p T s) (h3 : Wse T C W s) (q : Q (stt T s w) x) : mSI mX5_stateOf [.ref p, .int (nI w)] KW x Q := by
  refine v_X5_stateOf_0 ?_
  refine lp_gen (σ := Unit) _ _ (fun k _ => GI mX5_stateOf 2 [some (.ref p), some (.int (nI w)), some (.int (nI k))] [] KW x Q) (fun r => Q r x) 5 (fun _ k => ?_) (fun k _ hk n1 n2 => ?_) 5 0 () rfl q
  · exact v_X5_stateOf_2 h1 ⟨fun _ => k, fun z => absurd (by decide) z⟩
  · refine v_X5_stateOf_2 h1 ⟨fun z => absurd z (show ¬ nI 4 < nI k from nI_nlt (by omega) (by omega)), fun _ => sp_X5_bitsThatAre h1 h2 h3 hk ?_⟩
    rw [f_bit_tb _ hw, nI_1]
    exact ⟨fun z => n1 () (if_neg z), fun z => n2 _ (if_pos z)⟩
end
set_option maxHeartbeats 2000000 in
theorem v_X8_stateOf_0 {K : Sh} {x : Cn} {Q : Int32 → Cn → Prop} {b0 : Nat} {l1 : Int32} {l2 : Int32}   (K0 : GI mX8_stateOf 2 [some (.ref b0), some (.int l1), some (.int l2), some (.int 0)] [] K x Q) : mSI mX8_stateOf [.ref b0, .int l1, .int l2] K x Q := by
  refine s_I (by decide) (by simp [Value.category]) (Nat.le_of_ble_eq_true rfl) ?_
  show mGM mX8_stateOf 0 [some (.ref b0), some (.int l1), some (.int l2), none] [] (hp K x) (PI K Q)
  refine r_iconst (pc := 0) (v := 0) dX8_stateOf_0 (by decide) ?_
  refine r_istore_n (pc := 1) dX8_stateOf_1 (by decide) ?_
  exact r_le (L' := [some (.ref b0), some (.int l1), some (.int l2), some (.int 0)]) ⟨rfl, ⟨rfl, ⟨rfl, ⟨rfl, trivial⟩⟩⟩⟩ K0
set_option maxHeartbeats 2000000 in
theorem v_X8_stateOf_2 {K : Sh} {x : Cn} {Q : Int32 → Cn → Prop} {b0 : Nat} {l1 : Int32} {l2 : Int32} {l3 : Int32} {b0_3 : Nat} {n_b0_3 : Nat} (k_b0 : kk K b0 = some (8, 0)) (g_b0_3 : gr x b0 3 = some b0_3) (k_b0_3 : kk K b0_3 = some (20, n_b0_3)) (K0 : (5 ≤ l3 → (Q (-1) x)) ∧ (¬ 5 ≤ l3 → ((l24 l1 n_b0_3) ∧ ((l12 (7 + l3)) ∧ ((¬ (f_has (so (gi x b0_3) (l1 : Int32).toNatClampNeg ((7 + l3) : Int32).toNatClampNeg) l2) → (GI mX8_stateOf 2 [some (.ref b0), some (.int l1), some (.int l2), some (.int (l3 + 1))] [] K x Q)) ∧ ((f_has (so (gi x b0_3) (l1 : Int32).toNatClampNeg ((7 + l3) : Int32).toNatClampNeg) l2) → (Q l3 x))))))) : GI mX8_stateOf 2 [some (.ref b0), some (.int l1), some (.int l2), some (.int l3)] [] K x Q := by
  show mGM mX8_stateOf 2 [some (.ref b0), some (.int l1), some (.int l2), some (.int l3)] [] (hp K x) (PI K Q)
  refine r_iload_n (pc := 2) dX8_stateOf_2 rfl ?_
  refine r_iconst (pc := 3) (v := 5) dX8_stateOf_3 (by decide) ?_
  refine r_icmp_ge (pc := 4) (tgt := 31) dX8_stateOf_4 (by decide) (fun q => ?_) (fun q => ?_)
  · have K0 := K0.1 q
    refine r_iconst (pc := 31) (v := (-1)) dX8_stateOf_31 (by decide) ?_
    exact s_iret rfl dX8_stateOf_32 K0
  · have K0 := K0.2 q
    refine r_aload_n (pc := 7) dX8_stateOf_7 rfl ?_
    refine r_iload_n (pc := 8) dX8_stateOf_8 rfl ?_
    refine r_bipush (pc := 9) (v := 7) dX8_stateOf_9 (by decide) ?_
    refine r_iload_n (pc := 11) dX8_stateOf_11 rfl ?_
    refine r_iadd (pc := 12) dX8_stateOf_12 ?_
    obtain ⟨p_2, K0⟩ := K0
    obtain ⟨p_3, K0⟩ := K0
    refine s_VI (pc := 13) mX8_one (ci := 8) (a := b0) (As := [.int l1, .int (7 + l3)]) dX8_stateOf_13 lk_X8_67 in_X8_one mo_X8_one ⟨by decide, rfl⟩ ⟨by decide, by decide⟩ (Nat.le_of_ble_eq_true rfl) k_b0 (sr_X8_one k_b0 g_b0_3 k_b0_3 p_2 p_3 ?_)
    refine r_iload_n (pc := 16) dX8_stateOf_16 rfl ?_
    refine s_SI (pc := 17) mX8_has (As := [.int (so (gi x b0_3) (l1 : Int32).toNatClampNeg ((7 + l3) : Int32).toNatClampNeg), .int l2]) dX8_stateOf_17 lk_X8_75 st_X8_has mo_X8_has ⟨by decide, by decide⟩ (Nat.le_of_ble_eq_true rfl) (sp_X8_has  ?_)
    refine r_if_eq (pc := 20) (tgt := 25) dX8_stateOf_20 (by decide) (fun q => ?_) (fun q => ?_)
    · have q := (b2i_z _).mp q
      have K0 := K0.1 q
      refine r_iinc (pc := 25) (v := l3 + 1) dX8_stateOf_25 rfl rfl (by decide) ?_
      refine r_goto (pc := 28) (L := [some (.ref b0), some (.int l1), some (.int l2), some (.int (l3 + 1))]) (tgt := 2) dX8_stateOf_28 (by decide) ?_
      exact r_le (L' := [some (.ref b0), some (.int l1), some (.int l2), some (.int (l3 + 1))]) ⟨rfl, ⟨rfl, ⟨rfl, ⟨rfl, trivial⟩⟩⟩⟩ K0
    · have q := b2i_nz q
      have K0 := K0.2 q
      refine r_iload_n (pc := 23) dX8_stateOf_23 rfl ?_
      exact s_iret rfl dX8_stateOf_24 K0
section
theorem sp_X8_stateOf {x : Cn} {Q : Int32 → Cn → Prop} {t s w : Nat} (hw : w < 32) (hs : s < 24) (M : MRf x t) (ht : kk KW t = some (20, 518)) (q : Q (stt (gi x t) s w) x) : mSI mX8_stateOf [.ref 717, .int (nI s), .int (nI w)] KW x Q := by
  refine v_X8_stateOf_0 ?_
  refine lp_gen (σ := Unit) _ _ (fun k _ => GI mX8_stateOf 2 [some (.ref 717), some (.int (nI s)), some (.int (nI w)), some (.int (nI k))] [] KW x Q) (fun r => Q r x) 5 (fun _ k => ?_) (fun k _ hk n1 n2 => ?_) 5 0 () rfl q
  · exact v_X8_stateOf_2 km M.2.2.1 ht ⟨fun _ => k, fun z => absurd (by decide) z⟩
  · have e7 : (7 : Int32) + nI k = nI (7 + k) := by rw [show (7 : Int32) = nI 7 by decide, nI_add]
    refine v_X8_stateOf_2 km M.2.2.1 ht ⟨fun z => absurd z (show ¬ nI 5 ≤ nI k from nI_ge (by omega) (by omega)), fun _ => ⟨l24_nI hs rfl, ?_⟩⟩
    rw [e7, nI_clamp (by omega), nI_clamp (by omega), f_has_tb _ hw, nI_1]
    exact ⟨⟨nI_pos' (by omega), nI_lt (b := 12) (by omega) (by decide)⟩, fun z => n1 () (if_neg z), fun z => n2 _ (if_pos z)⟩
end
set_option maxHeartbeats 2000000 in
theorem v_X7_fault_0 {K : Sh} {x : Cn} {Q : Int32 → Cn → Prop} {b0 : Nat} {l1 : Int32}  (k_b0 : kk K b0 = some (7, 0)) (K0 : (¬ l1 = 0 → ((¬ l1 = 1 → (Q (-1) x)) ∧ (l1 = 1 → (Q (gi x b0 8) x)))) ∧ (l1 = 0 → (Q (gi x b0 7) x))) : mSI mX7_fault [.ref b0, .int l1] K x Q := by
  refine s_I (by decide) (by simp [Value.category]) (Nat.le_of_ble_eq_true rfl) ?_
  show mGM mX7_fault 0 [some (.ref b0), some (.int l1)] [] (hp K x) (PI K Q)
  refine r_iload_n (pc := 0) dX7_fault_0 rfl ?_
  refine r_if_ne (pc := 1) (tgt := 9) dX7_fault_1 (by decide) (fun q => ?_) (fun q => ?_)
  · have K0 := K0.1 q
    refine r_iload_n (pc := 9) dX7_fault_9 rfl ?_
    refine r_iconst (pc := 10) (v := 1) dX7_fault_10 (by decide) ?_
    refine r_icmp_ne (pc := 11) (tgt := 21) dX7_fault_11 (by decide) (fun q => ?_) (fun q => ?_)
    · have K0 := K0.1 q
      refine r_iconst (pc := 21) (v := (-1)) dX7_fault_21 (by decide) ?_
      exact s_iret rfl dX7_fault_22 K0
    · have K0 := K0.2 q
      refine r_aload_n (pc := 14) dX7_fault_14 rfl ?_
      refine s_getI (pc := 15) dX7_fault_15 fl_X7_48 rfl k_b0 ?_
      refine r_goto (pc := 18) (tgt := 22) dX7_fault_18 (by decide) ?_
      exact s_iret rfl dX7_fault_22 K0
  · have K0 := K0.2 q
    refine r_aload_n (pc := 4) dX7_fault_4 rfl ?_
    refine s_getI (pc := 5) dX7_fault_5 fl_X7_45 rfl k_b0 ?_
    exact s_iret rfl dX7_fault_8 K0
set_option maxHeartbeats 2000000 in
theorem v_X8_fault_0 {K : Sh} {x : Cn} {Q : Int32 → Cn → Prop} {b0 : Nat} {l1 : Int32}  (k_b0 : kk K b0 = some (8, 0)) (K0 : (¬ l1 = 0 → ((¬ l1 = 1 → (Q (-1) x)) ∧ (l1 = 1 → (Q (gi x b0 12) x)))) ∧ (l1 = 0 → (Q (gi x b0 11) x))) : mSI mX8_fault [.ref b0, .int l1] K x Q := by
  refine s_I (by decide) (by simp [Value.category]) (Nat.le_of_ble_eq_true rfl) ?_
  show mGM mX8_fault 0 [some (.ref b0), some (.int l1)] [] (hp K x) (PI K Q)
  refine r_iload_n (pc := 0) dX8_fault_0 rfl ?_
  refine r_if_ne (pc := 1) (tgt := 11) dX8_fault_1 (by decide) (fun q => ?_) (fun q => ?_)
  · have K0 := K0.1 q
    refine r_iload_n (pc := 11) dX8_fault_11 rfl ?_
    refine r_iconst (pc := 12) (v := 1) dX8_fault_12 (by decide) ?_
    refine r_icmp_ne (pc := 13) (tgt := 23) dX8_fault_13 (by decide) (fun q => ?_) (fun q => ?_)
    · have K0 := K0.1 q
      refine r_iconst (pc := 23) (v := (-1)) dX8_fault_23 (by decide) ?_
      exact s_iret rfl dX8_fault_24 K0
    · have K0 := K0.2 q
      refine r_aload_n (pc := 16) dX8_fault_16 rfl ?_
      refine s_getI (pc := 17) dX8_fault_17 fl_X8_23 rfl k_b0 ?_
      refine r_goto (pc := 20) (tgt := 24) dX8_fault_20 (by decide) ?_
      exact s_iret rfl dX8_fault_24 K0
  · have K0 := K0.2 q
    refine r_aload_n (pc := 4) dX8_fault_4 rfl ?_
    refine s_getI (pc := 5) dX8_fault_5 fl_X8_101 rfl k_b0 ?_
    refine r_goto (pc := 8) (tgt := 24) dX8_fault_8 (by decide) ?_
    exact s_iret rfl dX8_fault_24 K0
set_option maxHeartbeats 2000000 in
theorem v_X7_count_0 {K : Sh} {x : Cn} {Q : Int32 → Cn → Prop} {b0 : Nat} {l1 : Int32} {b0_2 : Nat} {b0_3 : Nat} (k_b0 : kk K b0 = some (7, 0)) (g_b0_2 : gr x b0 2 = some b0_2) (k_b0_2 : kk K b0_2 = some (4, 0)) (g_b0_3 : gr x b0 3 = some b0_3) (k_b0_3 : kk K b0_3 = some (1, 0)) (K0 : (l1 = 0 → (Q (gi x b0_2 0) x)) ∧ (l1 = 1 → (Q (gi x b0_3 0) x)) ∧ (l1 = 2 → (Q (gi x b0_2 3) x)) ∧ (l1 = 3 → (Q (gi x b0_2 4) x)) ∧ (l1 = 4 → (Q (gi x b0_2 1) x)) ∧ (l1 = 5 → (Q (gi x b0_2 2) x)) ∧ (l1 = 6 → (Q (gi x b0 5) x)) ∧ (l1 = 7 → (Q (gi x b0 1) x)) ∧ ((¬ l1 = 0 ∧ ¬ l1 = 1 ∧ ¬ l1 = 2 ∧ ¬ l1 = 3 ∧ ¬ l1 = 4 ∧ ¬ l1 = 5 ∧ ¬ l1 = 6 ∧ ¬ l1 = 7) → (Q (-1) x))) : mSI mX7_count [.ref b0, .int l1] K x Q := by
  refine s_I (by decide) (by simp [Value.category]) (Nat.le_of_ble_eq_true rfl) ?_
  show mGM mX7_count 0 [some (.ref b0), some (.int l1)] [] (hp K x) (PI K Q)
  refine r_iload_n (pc := 0) dX7_count_0 rfl ?_
  by_cases q0 : l1 = 0
  · have K0 := K0.1 q0
    refine r_tabIn (pc := 1) (tgt := 48) (off := 47) dX7_count_1 (by rw [q0]; decide) (by rw [q0]; decide) (by rw [q0]; decide) (by decide) ?_
    refine r_aload_n (pc := 48) dX7_count_48 rfl ?_
    refine s_getR (pc := 49) dX7_count_49 fl_X7_20 rfl k_b0 g_b0_2 ?_
    refine s_getI (pc := 52) dX7_count_52 fl_X7_91 rfl k_b0_2 ?_
    exact s_iret rfl dX7_count_55 K0
  have K0 := K0.2
  by_cases q1 : l1 = 1
  · have K0 := K0.1 q1
    refine r_tabIn (pc := 1) (tgt := 56) (off := 55) dX7_count_1 (by rw [q1]; decide) (by rw [q1]; decide) (by rw [q1]; decide) (by decide) ?_
    refine r_aload_n (pc := 56) dX7_count_56 rfl ?_
    refine s_getR (pc := 57) dX7_count_57 fl_X7_27 rfl k_b0 g_b0_3 ?_
    refine s_getI (pc := 60) dX7_count_60 fl_X7_94 rfl k_b0_3 ?_
    exact s_iret rfl dX7_count_63 K0
  have K0 := K0.2
  by_cases q2 : l1 = 2
  · have K0 := K0.1 q2
    refine r_tabIn (pc := 1) (tgt := 64) (off := 63) dX7_count_1 (by rw [q2]; decide) (by rw [q2]; decide) (by rw [q2]; decide) (by decide) ?_
    refine r_aload_n (pc := 64) dX7_count_64 rfl ?_
    refine s_getR (pc := 65) dX7_count_65 fl_X7_20 rfl k_b0 g_b0_2 ?_
    refine s_getI (pc := 68) dX7_count_68 fl_X7_97 rfl k_b0_2 ?_
    exact s_iret rfl dX7_count_71 K0
  have K0 := K0.2
  by_cases q3 : l1 = 3
  · have K0 := K0.1 q3
    refine r_tabIn (pc := 1) (tgt := 72) (off := 71) dX7_count_1 (by rw [q3]; decide) (by rw [q3]; decide) (by rw [q3]; decide) (by decide) ?_
    refine r_aload_n (pc := 72) dX7_count_72 rfl ?_
    refine s_getR (pc := 73) dX7_count_73 fl_X7_20 rfl k_b0 g_b0_2 ?_
    refine s_getI (pc := 76) dX7_count_76 fl_X7_100 rfl k_b0_2 ?_
    exact s_iret rfl dX7_count_79 K0
  have K0 := K0.2
  by_cases q4 : l1 = 4
  · have K0 := K0.1 q4
    refine r_tabIn (pc := 1) (tgt := 80) (off := 79) dX7_count_1 (by rw [q4]; decide) (by rw [q4]; decide) (by rw [q4]; decide) (by decide) ?_
    refine r_aload_n (pc := 80) dX7_count_80 rfl ?_
    refine s_getR (pc := 81) dX7_count_81 fl_X7_20 rfl k_b0 g_b0_2 ?_
    refine s_getI (pc := 84) dX7_count_84 fl_X7_103 rfl k_b0_2 ?_
    exact s_iret rfl dX7_count_87 K0
  have K0 := K0.2
  by_cases q5 : l1 = 5
  · have K0 := K0.1 q5
    refine r_tabIn (pc := 1) (tgt := 88) (off := 87) dX7_count_1 (by rw [q5]; decide) (by rw [q5]; decide) (by rw [q5]; decide) (by decide) ?_
    refine r_aload_n (pc := 88) dX7_count_88 rfl ?_
    refine s_getR (pc := 89) dX7_count_89 fl_X7_20 rfl k_b0 g_b0_2 ?_
    refine s_getI (pc := 92) dX7_count_92 fl_X7_106 rfl k_b0_2 ?_
    exact s_iret rfl dX7_count_95 K0
  have K0 := K0.2
  by_cases q6 : l1 = 6
  · have K0 := K0.1 q6
    refine r_tabIn (pc := 1) (tgt := 96) (off := 95) dX7_count_1 (by rw [q6]; decide) (by rw [q6]; decide) (by rw [q6]; decide) (by decide) ?_
    refine r_aload_n (pc := 96) dX7_count_96 rfl ?_
    refine s_getI (pc := 97) dX7_count_97 fl_X7_35 rfl k_b0 ?_
    exact s_iret rfl dX7_count_100 K0
  have K0 := K0.2
  by_cases q7 : l1 = 7
  · have K0 := K0.1 q7
    refine r_tabIn (pc := 1) (tgt := 101) (off := 100) dX7_count_1 (by rw [q7]; decide) (by rw [q7]; decide) (by rw [q7]; decide) (by decide) ?_
    refine r_aload_n (pc := 101) dX7_count_101 rfl ?_
    refine s_getI (pc := 102) dX7_count_102 fl_X7_13 rfl k_b0 ?_
    exact s_iret rfl dX7_count_105 K0
  have K0 := K0.2
  have K0 := K0 ⟨q0, q1, q2, q3, q4, q5, q6, q7⟩
  refine r_tabOut (pc := 1) (tgt := 106) dX7_count_1 (by have z0 : ¬ Int32.toInt (l1) = 0 := fun z => q0 (Int32.toInt_inj.mp (z.trans (by decide))); have z1 : ¬ Int32.toInt (l1) = 1 := fun z => q1 (Int32.toInt_inj.mp (z.trans (by decide))); have z2 : ¬ Int32.toInt (l1) = 2 := fun z => q2 (Int32.toInt_inj.mp (z.trans (by decide))); have z3 : ¬ Int32.toInt (l1) = 3 := fun z => q3 (Int32.toInt_inj.mp (z.trans (by decide))); have z4 : ¬ Int32.toInt (l1) = 4 := fun z => q4 (Int32.toInt_inj.mp (z.trans (by decide))); have z5 : ¬ Int32.toInt (l1) = 5 := fun z => q5 (Int32.toInt_inj.mp (z.trans (by decide))); have z6 : ¬ Int32.toInt (l1) = 6 := fun z => q6 (Int32.toInt_inj.mp (z.trans (by decide))); have z7 : ¬ Int32.toInt (l1) = 7 := fun z => q7 (Int32.toInt_inj.mp (z.trans (by decide))); omega) (by decide) ?_
  refine r_iconst (pc := 106) (v := (-1)) dX7_count_106 (by decide) ?_
  exact s_iret rfl dX7_count_107 K0
set_option maxHeartbeats 2000000 in
theorem v_X8_count_0 {K : Sh} {x : Cn} {Q : Int32 → Cn → Prop} {b0 : Nat} {l1 : Int32} {b0_1 : Nat} {n_b0_1 : Nat} (k_b0 : kk K b0 = some (8, 0)) (g_b0_1 : gr x b0 1 = some b0_1) (k_b0_1 : kk K b0_1 = some (20, n_b0_1)) (K0 : (l1 = 0 → (vp_in 0 n_b0_1 ∧ (Q (gi x b0_1 0) x))) ∧ (l1 = 1 → (vp_in 1 n_b0_1 ∧ (Q (gi x b0_1 1) x))) ∧ (l1 = 2 → (vp_in 2 n_b0_1 ∧ (Q (gi x b0_1 2) x))) ∧ (l1 = 3 → (vp_in 3 n_b0_1 ∧ (Q (gi x b0_1 3) x))) ∧ (l1 = 4 → (vp_in 4 n_b0_1 ∧ (Q (gi x b0_1 4) x))) ∧ (l1 = 5 → (vp_in 5 n_b0_1 ∧ (Q (gi x b0_1 5) x))) ∧ (l1 = 6 → (Q (gi x b0 19) x)) ∧ (l1 = 7 → (Q (gi x b0 5) x)) ∧ ((¬ l1 = 0 ∧ ¬ l1 = 1 ∧ ¬ l1 = 2 ∧ ¬ l1 = 3 ∧ ¬ l1 = 4 ∧ ¬ l1 = 5 ∧ ¬ l1 = 6 ∧ ¬ l1 = 7) → (Q (-1) x))) : mSI mX8_count [.ref b0, .int l1] K x Q := by
  refine s_I (by decide) (by simp [Value.category]) (Nat.le_of_ble_eq_true rfl) ?_
  show mGM mX8_count 0 [some (.ref b0), some (.int l1)] [] (hp K x) (PI K Q)
  refine r_iload_n (pc := 0) dX8_count_0 rfl ?_
  by_cases q0 : l1 = 0
  · have K0 := K0.1 q0
    refine r_tabIn (pc := 1) (tgt := 48) (off := 47) dX8_count_1 (by rw [q0]; decide) (by rw [q0]; decide) (by rw [q0]; decide) (by decide) ?_
    refine r_aload_n (pc := 48) dX8_count_48 rfl ?_
    refine s_getR (pc := 49) dX8_count_49 fl_X8_9 rfl k_b0 g_b0_1 ?_
    refine r_iconst (pc := 52) (v := 0) dX8_count_52 (by decide) ?_
    obtain ⟨i_1, K0⟩ := K0
    refine s_iald (pc := 53) dX8_count_53 k_b0_1 i_1 ?_
    exact s_iret rfl dX8_count_54 K0
  have K0 := K0.2
  by_cases q1 : l1 = 1
  · have K0 := K0.1 q1
    refine r_tabIn (pc := 1) (tgt := 55) (off := 54) dX8_count_1 (by rw [q1]; decide) (by rw [q1]; decide) (by rw [q1]; decide) (by decide) ?_
    refine r_aload_n (pc := 55) dX8_count_55 rfl ?_
    refine s_getR (pc := 56) dX8_count_56 fl_X8_9 rfl k_b0 g_b0_1 ?_
    refine r_iconst (pc := 59) (v := 1) dX8_count_59 (by decide) ?_
    obtain ⟨i_2, K0⟩ := K0
    refine s_iald (pc := 60) dX8_count_60 k_b0_1 i_2 ?_
    exact s_iret rfl dX8_count_61 K0
  have K0 := K0.2
  by_cases q2 : l1 = 2
  · have K0 := K0.1 q2
    refine r_tabIn (pc := 1) (tgt := 62) (off := 61) dX8_count_1 (by rw [q2]; decide) (by rw [q2]; decide) (by rw [q2]; decide) (by decide) ?_
    refine r_aload_n (pc := 62) dX8_count_62 rfl ?_
    refine s_getR (pc := 63) dX8_count_63 fl_X8_9 rfl k_b0 g_b0_1 ?_
    refine r_iconst (pc := 66) (v := 2) dX8_count_66 (by decide) ?_
    obtain ⟨i_3, K0⟩ := K0
    refine s_iald (pc := 67) dX8_count_67 k_b0_1 i_3 ?_
    exact s_iret rfl dX8_count_68 K0
  have K0 := K0.2
  by_cases q3 : l1 = 3
  · have K0 := K0.1 q3
    refine r_tabIn (pc := 1) (tgt := 69) (off := 68) dX8_count_1 (by rw [q3]; decide) (by rw [q3]; decide) (by rw [q3]; decide) (by decide) ?_
    refine r_aload_n (pc := 69) dX8_count_69 rfl ?_
    refine s_getR (pc := 70) dX8_count_70 fl_X8_9 rfl k_b0 g_b0_1 ?_
    refine r_iconst (pc := 73) (v := 3) dX8_count_73 (by decide) ?_
    obtain ⟨i_4, K0⟩ := K0
    refine s_iald (pc := 74) dX8_count_74 k_b0_1 i_4 ?_
    exact s_iret rfl dX8_count_75 K0
  have K0 := K0.2
  by_cases q4 : l1 = 4
  · have K0 := K0.1 q4
    refine r_tabIn (pc := 1) (tgt := 76) (off := 75) dX8_count_1 (by rw [q4]; decide) (by rw [q4]; decide) (by rw [q4]; decide) (by decide) ?_
    refine r_aload_n (pc := 76) dX8_count_76 rfl ?_
    refine s_getR (pc := 77) dX8_count_77 fl_X8_9 rfl k_b0 g_b0_1 ?_
    refine r_iconst (pc := 80) (v := 4) dX8_count_80 (by decide) ?_
    obtain ⟨i_5, K0⟩ := K0
    refine s_iald (pc := 81) dX8_count_81 k_b0_1 i_5 ?_
    exact s_iret rfl dX8_count_82 K0
  have K0 := K0.2
  by_cases q5 : l1 = 5
  · have K0 := K0.1 q5
    refine r_tabIn (pc := 1) (tgt := 83) (off := 82) dX8_count_1 (by rw [q5]; decide) (by rw [q5]; decide) (by rw [q5]; decide) (by decide) ?_
    refine r_aload_n (pc := 83) dX8_count_83 rfl ?_
    refine s_getR (pc := 84) dX8_count_84 fl_X8_9 rfl k_b0 g_b0_1 ?_
    refine r_iconst (pc := 87) (v := 5) dX8_count_87 (by decide) ?_
    obtain ⟨i_6, K0⟩ := K0
    refine s_iald (pc := 88) dX8_count_88 k_b0_1 i_6 ?_
    exact s_iret rfl dX8_count_89 K0
  have K0 := K0.2
  by_cases q6 : l1 = 6
  · have K0 := K0.1 q6
    refine r_tabIn (pc := 1) (tgt := 90) (off := 89) dX8_count_1 (by rw [q6]; decide) (by rw [q6]; decide) (by rw [q6]; decide) (by decide) ?_
    refine r_aload_n (pc := 90) dX8_count_90 rfl ?_
    refine s_getI (pc := 91) dX8_count_91 fl_X8_262 rfl k_b0 ?_
    exact s_iret rfl dX8_count_94 K0
  have K0 := K0.2
  by_cases q7 : l1 = 7
  · have K0 := K0.1 q7
    refine r_tabIn (pc := 1) (tgt := 95) (off := 94) dX8_count_1 (by rw [q7]; decide) (by rw [q7]; decide) (by rw [q7]; decide) (by decide) ?_
    refine r_aload_n (pc := 95) dX8_count_95 rfl ?_
    refine s_getI (pc := 96) dX8_count_96 fl_X8_94 rfl k_b0 ?_
    exact s_iret rfl dX8_count_99 K0
  have K0 := K0.2
  have K0 := K0 ⟨q0, q1, q2, q3, q4, q5, q6, q7⟩
  refine r_tabOut (pc := 1) (tgt := 100) dX8_count_1 (by have z0 : ¬ Int32.toInt (l1) = 0 := fun z => q0 (Int32.toInt_inj.mp (z.trans (by decide))); have z1 : ¬ Int32.toInt (l1) = 1 := fun z => q1 (Int32.toInt_inj.mp (z.trans (by decide))); have z2 : ¬ Int32.toInt (l1) = 2 := fun z => q2 (Int32.toInt_inj.mp (z.trans (by decide))); have z3 : ¬ Int32.toInt (l1) = 3 := fun z => q3 (Int32.toInt_inj.mp (z.trans (by decide))); have z4 : ¬ Int32.toInt (l1) = 4 := fun z => q4 (Int32.toInt_inj.mp (z.trans (by decide))); have z5 : ¬ Int32.toInt (l1) = 5 := fun z => q5 (Int32.toInt_inj.mp (z.trans (by decide))); have z6 : ¬ Int32.toInt (l1) = 6 := fun z => q6 (Int32.toInt_inj.mp (z.trans (by decide))); have z7 : ¬ Int32.toInt (l1) = 7 := fun z => q7 (Int32.toInt_inj.mp (z.trans (by decide))); omega) (by decide) ?_
  refine r_iconst (pc := 100) (v := (-1)) dX8_count_100 (by decide) ?_
  exact s_iret rfl dX8_count_101 K0
set_option maxHeartbeats 2000000 in
theorem v_X7_weeks_0 {K : Sh} {x : Cn} {Q : Int32 → Cn → Prop} {b0 : Nat} {l1 : Int32} {l2 : Int32} {b0_2 : Nat} {b0_2_7 : Nat} {n_b0_2_7 : Nat} (k_b0 : kk K b0 = some (7, 0)) (g_b0_2 : gr x b0 2 = some b0_2) (k_b0_2 : kk K b0_2 = some (4, 0)) (g_b0_2_7 : gr x b0_2 7 = some b0_2_7) (k_b0_2_7 : kk K b0_2_7 = some (23, n_b0_2_7)) (K0 : (¬ (0 ≤ l1 ∧ l1 < gi x b0_2 3) → (Q (-2) x)) ∧ ((0 ≤ l1 ∧ l1 < gi x b0_2 3) → (((0 ≤ l2 ∧ l2 ≤ 4) → (vp_in l1 n_b0_2_7 ∧ (∃ c_4 : Nat, gr x b0_2_7 ((l1 : Int32).toNatClampNeg) = some c_4 ∧ (kk K c_4 = some (5, 0) ∧ (mSI mX5_bitsThatAre [.ref c_4, .int l2] K x (fun r_8 y_7 => Q r_8 y_7)))))) ∧ (¬ (0 ≤ l2 ∧ l2 ≤ 4) → (Q (-2) x))))) : mSI mX7_weeks [.ref b0, .int l1, .int l2] K x Q := by
  refine s_I (by decide) (by simp [Value.category]) (Nat.le_of_ble_eq_true rfl) ?_
  show mGM mX7_weeks 0 [some (.ref b0), some (.int l1), some (.int l2)] [] (hp K x) (PI K Q)
  refine r_aload_n (pc := 0) dX7_weeks_0 rfl ?_
  refine r_iload_n (pc := 1) dX7_weeks_1 rfl ?_
  refine s_VI (pc := 2) mX7_isSeries (ci := 7) (a := b0) (As := [.int l1]) dX7_weeks_2 lk_X7_132 in_X7_isSeries mo_X7_isSeries ⟨by decide, rfl⟩ ⟨by decide, by decide⟩ (Nat.le_of_ble_eq_true rfl) k_b0 (sp_X7_isSeries k_b0 g_b0_2 k_b0_2 ?_)
  refine r_if_eq (pc := 5) (tgt := 15) dX7_weeks_5 (by decide) (fun q => ?_) (fun q => ?_)
  · have q := (b2i_z _).mp q
    have K0 := K0.1 q
    refine r_bipush (pc := 15) (v := (-2)) dX7_weeks_15 (by decide) ?_
    exact s_iret rfl dX7_weeks_17 K0
  · have q := b2i_nz q
    have K0 := K0.2 q
    refine r_iload_n (pc := 8) dX7_weeks_8 rfl ?_
    refine s_SI (pc := 9) mX7_isState (As := [.int l2]) dX7_weeks_9 lk_X7_160 st_X7_isState mo_X7_isState ⟨by decide, by decide⟩ (Nat.le_of_ble_eq_true rfl) (sp_X7_isState  ?_)
    refine r_if_ne (pc := 12) (tgt := 18) dX7_weeks_12 (by decide) (fun q => ?_) (fun q => ?_)
    · have q := b2i_nz q
      have K0 := K0.1 q
      refine r_aload_n (pc := 18) dX7_weeks_18 rfl ?_
      refine s_getR (pc := 19) dX7_weeks_19 fl_X7_20 rfl k_b0 g_b0_2 ?_
      refine s_getR (pc := 22) dX7_weeks_22 fl_X7_135 rfl k_b0_2 g_b0_2_7 ?_
      refine r_iload_n (pc := 25) dX7_weeks_25 rfl ?_
      obtain ⟨i_3, K0⟩ := K0
      obtain ⟨c_4, g_5, K0⟩ := K0
      refine s_aald (pc := 26) dX7_weeks_26 (by decide) rfl k_b0_2_7 i_3 g_5 ?_
      refine r_iload_n (pc := 27) dX7_weeks_27 rfl ?_
      obtain ⟨e_6, K0⟩ := K0
      refine s_VI (pc := 28) mX5_bitsThatAre (ci := 5) (a := c_4) (As := [.int l2]) dX7_weeks_28 lk_X7_163 in_X5_bitsThatAre mo_X5_bitsThatAre ⟨by decide, rfl⟩ ⟨by decide, by decide⟩ (Nat.le_of_ble_eq_true rfl) e_6 (mSI_mono K0 (fun r_8 y_7 K0 => ?_))
      exact s_iret rfl dX7_weeks_31 K0
    · have q := (b2i_z _).mp q
      have K0 := K0.2 q
      refine r_bipush (pc := 15) (v := (-2)) dX7_weeks_15 (by decide) ?_
      exact s_iret rfl dX7_weeks_17 K0
set_option maxHeartbeats 2000000 in
theorem v_X8_weeks_0 {K : Sh} {x : Cn} {Q : Int32 → Cn → Prop} {b0 : Nat} {l1 : Int32} {l2 : Int32} {b0_1 : Nat} {n_b0_1 : Nat} {b0_3 : Nat} {n_b0_3 : Nat} (k_b0 : kk K b0 = some (8, 0)) (g_b0_1 : gr x b0 1 = some b0_1) (k_b0_1 : kk K b0_1 = some (20, n_b0_1)) (g_b0_3 : gr x b0 3 = some b0_3) (k_b0_3 : kk K b0_3 = some (20, n_b0_3)) (K0 : vp_in 2 n_b0_1 ∧ ((¬ (0 ≤ l1 ∧ l1 ≤ gi x b0_1 2 - 1) → (Q (-2) x)) ∧ ((0 ≤ l1 ∧ l1 ≤ gi x b0_1 2 - 1) → ((¬ (0 ≤ l2 ∧ l2 ≤ 4) → (Q (-2) x)) ∧ ((0 ≤ l2 ∧ l2 ≤ 4) → ((l24 l1 n_b0_3) ∧ ((l12 (7 + l2)) ∧ (Q (so (gi x b0_3) (l1 : Int32).toNatClampNeg ((7 + l2) : Int32).toNatClampNeg) x)))))))) : mSI mX8_weeks [.ref b0, .int l1, .int l2] K x Q := by
  refine s_I (by decide) (by simp [Value.category]) (Nat.le_of_ble_eq_true rfl) ?_
  show mGM mX8_weeks 0 [some (.ref b0), some (.int l1), some (.int l2)] [] (hp K x) (PI K Q)
  refine r_aload_n (pc := 0) dX8_weeks_0 rfl ?_
  refine r_iload_n (pc := 1) dX8_weeks_1 rfl ?_
  obtain ⟨i_1, K0⟩ := K0
  refine s_VI (pc := 2) mX8_isSeries (ci := 8) (a := b0) (As := [.int l1]) dX8_weeks_2 lk_X8_273 in_X8_isSeries mo_X8_isSeries ⟨by decide, rfl⟩ ⟨by decide, by decide⟩ (Nat.le_of_ble_eq_true rfl) k_b0 (sp_X8_isSeries k_b0 g_b0_1 k_b0_1 i_1 ?_)
  refine r_if_eq (pc := 5) (tgt := 32) dX8_weeks_5 (by decide) (fun q => ?_) (fun q => ?_)
  · have q := (b2i_z _).mp q
    have K0 := K0.1 q
    refine r_bipush (pc := 32) (v := (-2)) dX8_weeks_32 (by decide) ?_
    exact s_iret rfl dX8_weeks_34 K0
  · have q := b2i_nz q
    have K0 := K0.2 q
    refine r_iload_n (pc := 8) dX8_weeks_8 rfl ?_
    refine r_i2l (pc := 9) dX8_weeks_9 ?_
    refine r_lconst (pc := 10) (v := 0) dX8_weeks_10 (by decide) ?_
    refine r_ldc2 (pc := 11) (v := 4) dX8_weeks_11 cn_X8_276 ?_
    refine s_SI (pc := 14) mX8_in (As := [.long ((l2 : Int32).toInt64), .long 0, .long 4]) dX8_weeks_14 lk_X8_45 st_X8_in mo_X8_in ⟨by decide, by decide⟩ (Nat.le_of_ble_eq_true rfl) (sq_X8_in (v := l2) (lo := 0) (hi := 4) rfl (by decide) (by decide) ?_)
    refine r_if_eq (pc := 17) (tgt := 32) dX8_weeks_17 (by decide) (fun q => ?_) (fun q => ?_)
    · have q := (b2i_z _).mp q
      have K0 := K0.1 q
      refine r_bipush (pc := 32) (v := (-2)) dX8_weeks_32 (by decide) ?_
      exact s_iret rfl dX8_weeks_34 K0
    · have q := b2i_nz q
      have K0 := K0.2 q
      refine r_aload_n (pc := 20) dX8_weeks_20 rfl ?_
      refine r_iload_n (pc := 21) dX8_weeks_21 rfl ?_
      refine r_bipush (pc := 22) (v := 7) dX8_weeks_22 (by decide) ?_
      refine r_iload_n (pc := 24) dX8_weeks_24 rfl ?_
      refine r_iadd (pc := 25) dX8_weeks_25 ?_
      obtain ⟨p_4, K0⟩ := K0
      obtain ⟨p_5, K0⟩ := K0
      refine s_VI (pc := 26) mX8_one (ci := 8) (a := b0) (As := [.int l1, .int (7 + l2)]) dX8_weeks_26 lk_X8_67 in_X8_one mo_X8_one ⟨by decide, rfl⟩ ⟨by decide, by decide⟩ (Nat.le_of_ble_eq_true rfl) k_b0 (sr_X8_one k_b0 g_b0_3 k_b0_3 p_4 p_5 ?_)
      refine r_goto (pc := 29) (tgt := 34) dX8_weeks_29 (by decide) ?_
      exact s_iret rfl dX8_weeks_34 K0
set_option maxHeartbeats 2000000 in
theorem v_X7_week_0 {K : Sh} {x : Cn} {Q : Int32 → Cn → Prop} {b0 : Nat} {l1 : Int32} {l2 : Int32} {b0_2 : Nat} {b0_2_7 : Nat} {n_b0_2_7 : Nat} (k_b0 : kk K b0 = some (7, 0)) (g_b0_2 : gr x b0 2 = some b0_2) (k_b0_2 : kk K b0_2 = some (4, 0)) (g_b0_2_7 : gr x b0_2 7 = some b0_2_7) (k_b0_2_7 : kk K b0_2_7 = some (23, n_b0_2_7)) (K0 : (¬ (0 ≤ l1 ∧ l1 < gi x b0_2 3) → (Q (-2) x)) ∧ ((0 ≤ l1 ∧ l1 < gi x b0_2 3) → (((0 ≤ l2 ∧ l2 < gi x b0_2 0) → (vp_in l1 n_b0_2_7 ∧ (∃ c_4 : Nat, gr x b0_2_7 ((l1 : Int32).toNatClampNeg) = some c_4 ∧ (kk K c_4 = some (5, 0) ∧ (mSI mX5_stateOf [.ref c_4, .int l2] K x (fun r_8 y_7 => Q r_8 y_7)))))) ∧ (¬ (0 ≤ l2 ∧ l2 < gi x b0_2 0) → (Q (-2) x))))) : mSI mX7_week [.ref b0, .int l1, .int l2] K x Q := by
  refine s_I (by decide) (by simp [Value.category]) (Nat.le_of_ble_eq_true rfl) ?_
  show mGM mX7_week 0 [some (.ref b0), some (.int l1), some (.int l2)] [] (hp K x) (PI K Q)
  refine r_aload_n (pc := 0) dX7_week_0 rfl ?_
  refine r_iload_n (pc := 1) dX7_week_1 rfl ?_
  refine s_VI (pc := 2) mX7_isSeries (ci := 7) (a := b0) (As := [.int l1]) dX7_week_2 lk_X7_132 in_X7_isSeries mo_X7_isSeries ⟨by decide, rfl⟩ ⟨by decide, by decide⟩ (Nat.le_of_ble_eq_true rfl) k_b0 (sp_X7_isSeries k_b0 g_b0_2 k_b0_2 ?_)
  refine r_if_eq (pc := 5) (tgt := 16) dX7_week_5 (by decide) (fun q => ?_) (fun q => ?_)
  · have q := (b2i_z _).mp q
    have K0 := K0.1 q
    refine r_bipush (pc := 16) (v := (-2)) dX7_week_16 (by decide) ?_
    exact s_iret rfl dX7_week_18 K0
  · have q := b2i_nz q
    have K0 := K0.2 q
    refine r_aload_n (pc := 8) dX7_week_8 rfl ?_
    refine r_iload_n (pc := 9) dX7_week_9 rfl ?_
    refine s_VI (pc := 10) mX7_isWeek (ci := 7) (a := b0) (As := [.int l2]) dX7_week_10 lk_X7_167 in_X7_isWeek mo_X7_isWeek ⟨by decide, rfl⟩ ⟨by decide, by decide⟩ (Nat.le_of_ble_eq_true rfl) k_b0 (sp_X7_isWeek k_b0 g_b0_2 k_b0_2 ?_)
    refine r_if_ne (pc := 13) (tgt := 19) dX7_week_13 (by decide) (fun q => ?_) (fun q => ?_)
    · have q := b2i_nz q
      have K0 := K0.1 q
      refine r_aload_n (pc := 19) dX7_week_19 rfl ?_
      refine s_getR (pc := 20) dX7_week_20 fl_X7_20 rfl k_b0 g_b0_2 ?_
      refine s_getR (pc := 23) dX7_week_23 fl_X7_135 rfl k_b0_2 g_b0_2_7 ?_
      refine r_iload_n (pc := 26) dX7_week_26 rfl ?_
      obtain ⟨i_3, K0⟩ := K0
      obtain ⟨c_4, g_5, K0⟩ := K0
      refine s_aald (pc := 27) dX7_week_27 (by decide) rfl k_b0_2_7 i_3 g_5 ?_
      refine r_iload_n (pc := 28) dX7_week_28 rfl ?_
      obtain ⟨e_6, K0⟩ := K0
      refine s_VI (pc := 29) mX5_stateOf (ci := 5) (a := c_4) (As := [.int l2]) dX7_week_29 lk_X7_170 in_X5_stateOf mo_X5_stateOf ⟨by decide, rfl⟩ ⟨by decide, by decide⟩ (Nat.le_of_ble_eq_true rfl) e_6 (mSI_mono K0 (fun r_8 y_7 K0 => ?_))
      exact s_iret rfl dX7_week_32 K0
    · have q := (b2i_z _).mp q
      have K0 := K0.2 q
      refine r_bipush (pc := 16) (v := (-2)) dX7_week_16 (by decide) ?_
      exact s_iret rfl dX7_week_18 K0
set_option maxHeartbeats 2000000 in
theorem v_X8_week_0 {K : Sh} {x : Cn} {Q : Int32 → Cn → Prop} {b0 : Nat} {l1 : Int32} {l2 : Int32} {b0_1 : Nat} {n_b0_1 : Nat} (k_b0 : kk K b0 = some (8, 0)) (g_b0_1 : gr x b0 1 = some b0_1) (k_b0_1 : kk K b0_1 = some (20, n_b0_1)) (K0 : vp_in 2 n_b0_1 ∧ ((¬ (0 ≤ l1 ∧ l1 ≤ gi x b0_1 2 - 1) → (Q (-2) x)) ∧ ((0 ≤ l1 ∧ l1 ≤ gi x b0_1 2 - 1) → (vp_in 0 n_b0_1 ∧ ((¬ (0 ≤ l2 ∧ l2 ≤ gi x b0_1 0 - 1) → (Q (-2) x)) ∧ ((0 ≤ l2 ∧ l2 ≤ gi x b0_1 0 - 1) → (mSI mX8_stateOf [.ref b0, .int l1, .int l2] K x (fun r_6 y_5 => Q r_6 y_5)))))))) : mSI mX8_week [.ref b0, .int l1, .int l2] K x Q := by
  refine s_I (by decide) (by simp [Value.category]) (Nat.le_of_ble_eq_true rfl) ?_
  show mGM mX8_week 0 [some (.ref b0), some (.int l1), some (.int l2)] [] (hp K x) (PI K Q)
  refine r_aload_n (pc := 0) dX8_week_0 rfl ?_
  refine r_iload_n (pc := 1) dX8_week_1 rfl ?_
  obtain ⟨i_1, K0⟩ := K0
  refine s_VI (pc := 2) mX8_isSeries (ci := 8) (a := b0) (As := [.int l1]) dX8_week_2 lk_X8_273 in_X8_isSeries mo_X8_isSeries ⟨by decide, rfl⟩ ⟨by decide, by decide⟩ (Nat.le_of_ble_eq_true rfl) k_b0 (sp_X8_isSeries k_b0 g_b0_1 k_b0_1 i_1 ?_)
  refine r_if_eq (pc := 5) (tgt := 25) dX8_week_5 (by decide) (fun q => ?_) (fun q => ?_)
  · have q := (b2i_z _).mp q
    have K0 := K0.1 q
    refine r_bipush (pc := 25) (v := (-2)) dX8_week_25 (by decide) ?_
    exact s_iret rfl dX8_week_27 K0
  · have q := b2i_nz q
    have K0 := K0.2 q
    refine r_aload_n (pc := 8) dX8_week_8 rfl ?_
    refine r_iload_n (pc := 9) dX8_week_9 rfl ?_
    obtain ⟨i_3, K0⟩ := K0
    refine s_VI (pc := 10) mX8_isWeek (ci := 8) (a := b0) (As := [.int l2]) dX8_week_10 lk_X8_57 in_X8_isWeek mo_X8_isWeek ⟨by decide, rfl⟩ ⟨by decide, by decide⟩ (Nat.le_of_ble_eq_true rfl) k_b0 (sp_X8_isWeek k_b0 g_b0_1 k_b0_1 i_3 ?_)
    refine r_if_eq (pc := 13) (tgt := 25) dX8_week_13 (by decide) (fun q => ?_) (fun q => ?_)
    · have q := (b2i_z _).mp q
      have K0 := K0.1 q
      refine r_bipush (pc := 25) (v := (-2)) dX8_week_25 (by decide) ?_
      exact s_iret rfl dX8_week_27 K0
    · have q := b2i_nz q
      have K0 := K0.2 q
      refine r_aload_n (pc := 16) dX8_week_16 rfl ?_
      refine r_iload_n (pc := 17) dX8_week_17 rfl ?_
      refine r_iload_n (pc := 18) dX8_week_18 rfl ?_
      refine s_VI (pc := 19) mX8_stateOf (ci := 8) (a := b0) (As := [.int l1, .int l2]) dX8_week_19 lk_X8_278 in_X8_stateOf mo_X8_stateOf ⟨by decide, rfl⟩ ⟨by decide, by decide⟩ (Nat.le_of_ble_eq_true rfl) k_b0 (mSI_mono K0 (fun r_6 y_5 K0 => ?_))
      refine r_goto (pc := 22) (tgt := 27) dX8_week_22 (by decide) ?_
      exact s_iret rfl dX8_week_27 K0
theorem eq_fault (a : Int32) {x : Cn} (R : Rel x) (f : gi x 0 7 = gi x 717 11 ∧ gi x 0 8 = gi x 717 12) : mSI mX7_fault [.ref 0, .int a] KW x (fun r y => mSI mX8_fault [.ref 717, .int a] KW y (fun r' z => r = r' ∧ Rel z)) := by
  exact v_X7_fault_0 k0 ⟨fun z => ⟨fun z2 => v_X8_fault_0 km ⟨fun _ => ⟨fun _ => ⟨rfl, R⟩, fun w => absurd w z2⟩, fun w => absurd w z⟩, fun z2 => v_X8_fault_0 km ⟨fun _ => ⟨fun w => absurd z2 w, fun _ => ⟨f.2, R⟩⟩, fun w => absurd w z⟩⟩, fun z => v_X8_fault_0 km ⟨fun w => absurd z w, fun _ => ⟨f.1, R⟩⟩⟩
theorem kp_fault (a : Int32) : BothK mX7_fault mX8_fault [.int a] := by
  intro x R
  exact v_X7_fault_0 k0 ⟨fun z => ⟨fun z2 => v_X8_fault_0 km ⟨fun _ => ⟨fun _ => R, fun w => absurd w z2⟩, fun w => absurd w z⟩, fun z2 => v_X8_fault_0 km ⟨fun _ => ⟨fun w => absurd z2 w, fun _ => R⟩, fun w => absurd w z⟩⟩, fun z => v_X8_fault_0 km ⟨fun w => absurd z w, fun _ => R⟩⟩
theorem eq_count (a : Int32) : Both mX7_count mX8_count [.int a] := by
  intro x R
  obtain ⟨W, C, S, A, N, E, ⟨hc, -⟩, ⟨n, -, hh1, hh2, -⟩⟩ := R.sea
  obtain ⟨v0', v1, v2, v3, v4, -⟩ := E.2.2.1
  obtain ⟨n2, -, ht1, ht2, -⟩ := R.2.2.2.1
  have key : ∀ r : Int32, ((a = 0 → r = gi x 718 0) ∧ (a = 1 → r = gi x 718 1) ∧ (a = 2 → r = gi x 718 2) ∧ (a = 3 → r = gi x 718 3) ∧ (a = 4 → r = gi x 718 4) ∧ (a = 5 → r = gi x 718 5) ∧ (a = 6 → r = gi x 717 19) ∧ (a = 7 → r = gi x 717 5) ∧ ((¬ a = 0 ∧ ¬ a = 1 ∧ ¬ a = 2 ∧ ¬ a = 3 ∧ ¬ a = 4 ∧ ¬ a = 5 ∧ ¬ a = 6 ∧ ¬ a = 7) → r = -1)) → mSI mX8_count [.ref 717, .int a] KW x (fun r' z => r = r' ∧ Rel z) := by
    intro r h
    exact v_X8_count_0 km R.2.1.1 km1 ⟨fun z => ⟨v0 (k := 0) (by decide) rfl rfl, h.1 z, R⟩, fun z => ⟨v0 (k := 1) (by decide) rfl rfl, h.2.1 z, R⟩, fun z => ⟨v0 (k := 2) (by decide) rfl rfl, h.2.2.1 z, R⟩, fun z => ⟨v0 (k := 3) (by decide) rfl rfl, h.2.2.2.1 z, R⟩, fun z => ⟨v0 (k := 4) (by decide) rfl rfl, h.2.2.2.2.1 z, R⟩, fun z => ⟨v0 (k := 5) (by decide) rfl rfl, h.2.2.2.2.2.1 z, R⟩, fun z => ⟨h.2.2.2.2.2.2.1 z, R⟩, fun z => ⟨h.2.2.2.2.2.2.2.1 z, R⟩, fun z => ⟨h.2.2.2.2.2.2.2.2 z, R⟩⟩
  have ht := Rel.t2 E
  refine v_X7_count_0 k0 R.1.2.1 (ks0 E.1) R.1.2.2.1 (by decide) ⟨fun z => key _ ?_, fun z => key _ ?_, fun z => key _ ?_, fun z => key _ ?_, fun z => key _ ?_, fun z => key _ ?_, fun z => key _ ?_, fun z => key _ ?_, fun z => key _ ?_⟩
  · subst z; exact ⟨fun _ => v0', fun z => absurd z (by decide), fun z => absurd z (by decide), fun z => absurd z (by decide), fun z => absurd z (by decide), fun z => absurd z (by decide), fun z => absurd z (by decide), fun z => absurd z (by decide), fun z => absurd rfl z.1⟩
  · subst z; exact ⟨fun z => absurd z (by decide), fun _ => hc.trans ht.2.1.symm, fun z => absurd z (by decide), fun z => absurd z (by decide), fun z => absurd z (by decide), fun z => absurd z (by decide), fun z => absurd z (by decide), fun z => absurd z (by decide), fun z => absurd rfl z.2.1⟩
  · subst z; exact ⟨fun z => absurd z (by decide), fun z => absurd z (by decide), fun _ => v3, fun z => absurd z (by decide), fun z => absurd z (by decide), fun z => absurd z (by decide), fun z => absurd z (by decide), fun z => absurd z (by decide), fun z => absurd rfl z.2.2.1⟩
  · subst z; exact ⟨fun z => absurd z (by decide), fun z => absurd z (by decide), fun z => absurd z (by decide), fun _ => v4, fun z => absurd z (by decide), fun z => absurd z (by decide), fun z => absurd z (by decide), fun z => absurd z (by decide), fun z => absurd rfl z.2.2.2.1⟩
  · subst z; exact ⟨fun z => absurd z (by decide), fun z => absurd z (by decide), fun z => absurd z (by decide), fun z => absurd z (by decide), fun _ => v1, fun z => absurd z (by decide), fun z => absurd z (by decide), fun z => absurd z (by decide), fun z => absurd rfl z.2.2.2.2.1⟩
  · subst z; exact ⟨fun z => absurd z (by decide), fun z => absurd z (by decide), fun z => absurd z (by decide), fun z => absurd z (by decide), fun z => absurd z (by decide), fun _ => v2, fun z => absurd z (by decide), fun z => absurd z (by decide), fun z => absurd rfl z.2.2.2.2.2.1⟩
  · subst z; exact ⟨fun z => absurd z (by decide), fun z => absurd z (by decide), fun z => absurd z (by decide), fun z => absurd z (by decide), fun z => absurd z (by decide), fun z => absurd z (by decide), fun _ => hh2.trans hh1.symm, fun z => absurd z (by decide), fun z => absurd rfl z.2.2.2.2.2.2.1⟩
  · subst z; exact ⟨fun z => absurd z (by decide), fun z => absurd z (by decide), fun z => absurd z (by decide), fun z => absurd z (by decide), fun z => absurd z (by decide), fun z => absurd z (by decide), fun z => absurd z (by decide), fun _ => ht1.trans ht2.symm, fun z => absurd rfl z.2.2.2.2.2.2.2⟩
  · exact ⟨fun w => absurd w z.1, fun w => absurd w z.2.1, fun w => absurd w z.2.2.1, fun w => absurd w z.2.2.2.1, fun w => absurd w z.2.2.2.2.1, fun w => absurd w z.2.2.2.2.2.1, fun w => absurd w z.2.2.2.2.2.2.1, fun w => absurd w z.2.2.2.2.2.2.2, fun _ => rfl⟩
theorem eq_weeks (a b : Int32) : Both mX7_weeks mX8_weeks [.int a, .int b] := by
  intro x R
  obtain ⟨W, C, S, A, N, E, -, -⟩ := R.sea
  have hn := E.nums
  have ht := Rel.t2 E
  have hS : S ≤ 24 := hn.2.2.2.2.2.2.1
  have iS := inN' (v := a) (n := S) (by omega)
  have rf : mSI mX8_weeks [.ref 717, .int a, .int b] KW x (fun r' z => (if (0 ≤ a ∧ a < nI S) ∧ (0 ≤ b ∧ b ≤ 4) then so (gi x 718) a.toNatClampNeg (7 + b.toNatClampNeg) else -2) = r' ∧ Rel z) := by
    refine v_X8_weeks_0 km R.2.1.1 km1 R.2.1.2.2.1 km1 ⟨v0 (k := 2) (by decide) rfl rfl, ?_⟩
    rw [ht.2.2.1, iS]
    refine ⟨fun z => ⟨if_neg (fun w => z w.1), R⟩, fun z => ⟨fun z2 => ⟨if_neg (fun w => z2 w.2), R⟩, fun z2 => ?_⟩⟩
    obtain ⟨s, hs, rfl⟩ := inN (by omega) z
    obtain ⟨k, hk, rfl⟩ := nI_of2 (M := 4) (n := 4) (by decide) (Int32.not_lt.mpr z2.1) z2.2
    have e7 : (7 : Int32) + nI k = nI (7 + k) := by rw [show (7 : Int32) = nI 7 by decide, nI_add]
    refine ⟨l24_nI (by omega) rfl, ?_⟩
    rw [e7, if_pos ⟨z, z2⟩, nI_clamp (by omega), nI_clamp (by omega), nI_clamp (by omega)]
    exact ⟨⟨nI_pos' (by omega), nI_lt (b := 12) (by omega) (by decide)⟩, rfl, R⟩
  refine v_X7_weeks_0 k0 R.1.2.1 (ks0 E.1) E.2.1.2.2.1 (ks3 E.1) ?_
  rw [hn.2.2.1]
  refine ⟨fun z => ?_, fun z => ⟨fun z2 => ?_, fun z2 => ?_⟩⟩
  · rwa [if_neg (fun w => z w.1)] at rf
  · rw [if_pos ⟨z, z2⟩] at rf
    obtain ⟨s, hs, rfl⟩ := inN (by omega) z
    obtain ⟨k, hk, rfl⟩ := nI_of2 (M := 4) (n := 4) (by decide) (Int32.not_lt.mpr z2.1) z2.2
    obtain ⟨p, e1, e2, e3, e4, -, e6⟩ := E.ser hs
    rw [nI_clamp (by omega), nI_clamp (by omega)] at rf
    exact ⟨vp_in_nI (by omega) (by decide), p, by rw [nI_clamp (by omega)]; exact e1, e2, sp_X5_bitsThatAre e2 e3 e6 (by omega) rf⟩
  · rwa [if_neg (fun w => z2 w.2)] at rf
theorem eq_week (a b : Int32) : Both mX7_week mX8_week [.int a, .int b] := by
  intro x R
  obtain ⟨W, C, S, A, N, E, -, -⟩ := R.sea
  have hn := E.nums
  have ht := Rel.t2 E
  have hS : S ≤ 24 := hn.2.2.2.2.2.2.1
  have hW : W ≤ 30 := hn.2.2.2.2.1
  have iS := inN' (v := a) (n := S) (by omega)
  have iW := inN' (v := b) (n := W) (by omega)
  have rf : mSI mX8_week [.ref 717, .int a, .int b] KW x (fun r' z => (if (0 ≤ a ∧ a < nI S) ∧ (0 ≤ b ∧ b < nI W) then stt (gi x 718) a.toNatClampNeg b.toNatClampNeg else -2) = r' ∧ Rel z) := by
    refine v_X8_week_0 km R.2.1.1 km1 ⟨v0 (k := 2) (by decide) rfl rfl, ?_⟩
    rw [ht.2.2.1, iS, ht.1, iW]
    refine ⟨fun z => ⟨if_neg (fun w => z w.1), R⟩, fun z => ⟨v0 (k := 0) (by decide) rfl rfl, fun z2 => ⟨if_neg (fun w => z2 w.2), R⟩, fun z2 => ?_⟩⟩
    rw [if_pos ⟨z, z2⟩]
    obtain ⟨s, hs, rfl⟩ := inN (by omega) z
    obtain ⟨w, hw, rfl⟩ := inN (by omega) z2
    rw [nI_clamp (by omega), nI_clamp (by omega)]
    exact sp_X8_stateOf (by omega) (by omega) R.2.1 km1 ⟨rfl, R⟩
  refine v_X7_week_0 k0 R.1.2.1 (ks0 E.1) E.2.1.2.2.1 (ks3 E.1) ?_
  rw [hn.2.2.1, hn.1]
  refine ⟨fun z => ?_, fun z => ⟨fun z2 => ?_, fun z2 => ?_⟩⟩
  · rwa [if_neg (fun w => z w.1)] at rf
  · rw [if_pos ⟨z, z2⟩] at rf
    obtain ⟨s, hs, rfl⟩ := inN (by omega) z
    obtain ⟨w, hw, rfl⟩ := inN (by omega) z2
    obtain ⟨p, e1, e2, e3, e4, -, e6⟩ := E.ser hs
    rw [nI_clamp (by omega), nI_clamp (by omega)] at rf
    exact ⟨vp_in_nI (by omega) (by decide), p, by rw [nI_clamp (by omega)]; exact e1, e2, sp_X5_stateOf (by omega) e2 e3 e6 rf⟩
  · rwa [if_neg (fun w => z2 w.2)] at rf


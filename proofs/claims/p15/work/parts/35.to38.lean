/-! 35.reads4.lean.txt -/
section
def accT {α : Type} (g : Nat → α → α) : Nat → α → α
  | 0, a => a
  | n + 1, a => g n (accT g n a)
theorem lp_acc {α : Type} (g : Nat → α → α) (G : Nat → α → Prop) (S : Nat) (a0 : α) (hend : G S (accT g S a0)) (hstep : ∀ s a, s < S → (∀ b, g s a = b → G (s + 1) b) → G s a) : G 0 a0 := by
  have key : ∀ n s, s + n = S → G s (accT g s a0) := by
    intro n
    induction n with
    | zero =>
      intro s hs
      rw [show s = S by omega]
      exact hend
    | succ n ih =>
      intro s hs
      refine hstep s _ (by omega) (fun b e => ?_)
      rw [← e]
      exact ih (s + 1) (by omega)
  exact key S 0 (by omega)
theorem accT_congr {α : Type} {g f : Nat → α → α} {a0 : α} : ∀ n, (∀ i a, i < n → g i a = f i a) → accT g n a0 = accT f n a0 := by
  intro n
  induction n with
  | zero => intro _; rfl
  | succ n ih =>
    intro h
    simp only [accT]
    rw [ih (fun i a hi => h i a (by omega)), h n _ (by omega)]
/-- a set grows by s where c holds -/
def orS (c : Nat → Prop) [∀ s, Decidable (c s)] : Nat → Int32 → Int32 := fun s a => if c s then a ||| (1 <<< (nI s &&& 31)) else a
def inc (c : Nat → Prop) [∀ s, Decidable (c s)] : Nat → Int32 → Int32 := fun s a => if c s then a + 1 else a
abbrev kw (T : TT) (s : Nat) (f : Int32) : Prop := f_kw (nI (cpt (bas T s))) (nI (cpt (so T s 8 ||| so T s 10)) + f)
def stds (T : TT) (s : Nat) : Int32 := if kw T s 0 then 1 else if kw T s (nI (cpt (so T s 7))) then 0 else 2
set_option maxHeartbeats 2000000 in
theorem v_X8_isKept_0 {K : Sh} {x : Cn} {Q : Int32 → Cn → Prop} {b0 : Nat} {l1 : Int32} {l2 : Int32} {b0_3 : Nat} {n_b0_3 : Nat} (k_b0 : kk K b0 = some (8, 0)) (g_b0_3 : gr x b0 3 = some b0_3) (k_b0_3 : kk K b0_3 = some (20, n_b0_3)) (K0 : (l24 l1 n_b0_3) ∧ (((nI (cpt (bas (gi x b0_3) (l1 : Int32).toNatClampNeg))) ≤ 0 → (Q 0 x)) ∧ (¬ (nI (cpt (bas (gi x b0_3) (l1 : Int32).toNatClampNeg))) ≤ 0 → (((5 * ((nI (cpt (so (gi x b0_3) (l1 : Int32).toNatClampNeg 8 ||| so (gi x b0_3) (l1 : Int32).toNatClampNeg 10))) + l2)) < (4 * (nI (cpt (bas (gi x b0_3) (l1 : Int32).toNatClampNeg)))) → (Q 0 x)) ∧ (¬ (5 * ((nI (cpt (so (gi x b0_3) (l1 : Int32).toNatClampNeg 8 ||| so (gi x b0_3) (l1 : Int32).toNatClampNeg 10))) + l2)) < (4 * (nI (cpt (bas (gi x b0_3) (l1 : Int32).toNatClampNeg)))) → (Q 1 x)))))) : mSI mX8_isKept [.ref b0, .int l1, .int l2] K x Q := by
  refine s_I (by decide) (by simp [Value.category]) (Nat.le_of_ble_eq_true rfl) ?_
  show mGM mX8_isKept 0 [some (.ref b0), some (.int l1), some (.int l2), none] [] (hp K x) (PI K Q)
  refine r_aload_n (pc := 0) dX8_isKept_0 rfl ?_
  refine r_iload_n (pc := 1) dX8_isKept_1 rfl ?_
  obtain ⟨p_1, K0⟩ := K0
  refine s_VI (pc := 2) mX8_basisOf (ci := 8) (a := b0) (As := [.int l1]) dX8_isKept_2 lk_X8_71 in_X8_basisOf mo_X8_basisOf ⟨by decide, rfl⟩ ⟨by decide, by decide⟩ (Nat.le_of_ble_eq_true rfl) k_b0 (sr_X8_basisOf k_b0 g_b0_3 k_b0_3 p_1 ?_)
  refine s_SI (pc := 5) mX8_bits (As := [.int (bas (gi x b0_3) (l1 : Int32).toNatClampNeg)]) dX8_isKept_5 lk_X8_296 st_X8_bits mo_X8_bits ⟨by decide, by decide⟩ (Nat.le_of_ble_eq_true rfl) (sp_X8_bits  ?_)
  refine r_istore_n (pc := 8) dX8_isKept_8 (by decide) ?_
  refine r_iload_n (pc := 9) (L := [some (.ref b0), some (.int l1), some (.int l2), some (.int (nI (cpt (bas (gi x b0_3) (l1 : Int32).toNatClampNeg))))]) dX8_isKept_9 rfl ?_
  refine r_if_le (pc := 10) (tgt := 32) dX8_isKept_10 (by decide) (fun q => ?_) (fun q => ?_)
  · have K0 := K0.1 q
    refine r_iconst (pc := 32) (v := 0) dX8_isKept_32 (by decide) ?_
    exact s_zret rfl (by decide) dX8_isKept_33 K0
  · have K0 := K0.2 q
    refine r_iconst (pc := 13) (v := 5) dX8_isKept_13 (by decide) ?_
    refine r_aload_n (pc := 14) dX8_isKept_14 rfl ?_
    refine r_iload_n (pc := 15) dX8_isKept_15 rfl ?_
    refine s_VI (pc := 16) mX8_goodOf (ci := 8) (a := b0) (As := [.int l1]) dX8_isKept_16 lk_X8_299 in_X8_goodOf mo_X8_goodOf ⟨by decide, rfl⟩ ⟨by decide, by decide⟩ (Nat.le_of_ble_eq_true rfl) k_b0 (sr_X8_goodOf k_b0 g_b0_3 k_b0_3 p_1 ?_)
    refine r_iload_n (pc := 19) dX8_isKept_19 rfl ?_
    refine r_iadd (pc := 20) dX8_isKept_20 ?_
    refine r_imul (pc := 21) dX8_isKept_21 ?_
    refine r_iconst (pc := 22) (v := 4) dX8_isKept_22 (by decide) ?_
    refine r_iload_n (pc := 23) dX8_isKept_23 rfl ?_
    refine r_imul (pc := 24) dX8_isKept_24 ?_
    refine r_icmp_lt (pc := 25) (tgt := 32) dX8_isKept_25 (by decide) (fun q => ?_) (fun q => ?_)
    · have K0 := K0.1 q
      refine r_iconst (pc := 32) (v := 0) dX8_isKept_32 (by decide) ?_
      exact s_zret rfl (by decide) dX8_isKept_33 K0
    · have K0 := K0.2 q
      refine r_iconst (pc := 28) (v := 1) dX8_isKept_28 (by decide) ?_
      refine r_goto (pc := 29) (tgt := 33) dX8_isKept_29 (by decide) ?_
      exact s_zret rfl (by decide) dX8_isKept_33 K0
section
variable {x : Cn} {Q : Int32 → Cn → Prop}
theorem sp_X8_isKept {t s : Nat} {f : Int32} (M : MRf x t) (ht : kk KW t = some (20, 518)) (hs : s < 24) (k : Q (b2i (kw (gi x t) s f)) x) : mSI mX8_isKept [.ref 717, .int (nI s), .int f] KW x Q := by
  refine v_X8_isKept_0 km M.2.2.1 ht ⟨l24_nI hs rfl, ?_⟩
  rw [nI_clamp (show s < 2 ^ 31 by omega)]
  exact ⟨fun h => (b2i_k k).2 (fun z => Int32.not_le.mpr z.1 h), fun h => ⟨fun g => (b2i_k k).2 (fun z => Int32.not_lt.mpr z.2 g), fun g => (b2i_k k).1 ⟨Int32.not_le.mp h, Int32.not_lt.mp g⟩⟩⟩
end
set_option maxHeartbeats 2000000 in
theorem v_X8_standsOf_0 {K : Sh} {x : Cn} {Q : Int32 → Cn → Prop} {b0 : Nat} {l1 : Int32}  (k_b0 : kk K b0 = some (8, 0)) (K0 : mSI mX8_isKept [.ref b0, .int l1, .int 0] K x (fun r_2 y_1 => (r_2 = 0 → (∃ c_4 : Nat, gr y_1 b0 3 = some c_4 ∧ (∃ n_7 : Nat, kk K c_4 = some (20, n_7) ∧ ((l24 l1 n_7) ∧ (mSI mX8_isKept [.ref b0, .int l1, .int (nI (cpt (so (gi y_1 c_4) (l1 : Int32).toNatClampNeg 7)))] K y_1 (fun r_10 y_9 => (r_10 = 0 → (Q 2 y_9)) ∧ (¬ r_10 = 0 → (Q 0 y_9)))))))) ∧ (¬ r_2 = 0 → (Q 1 y_1)))) : mSI mX8_standsOf [.ref b0, .int l1] K x Q := by
  refine s_I (by decide) (by simp [Value.category]) (Nat.le_of_ble_eq_true rfl) ?_
  show mGM mX8_standsOf 0 [some (.ref b0), some (.int l1)] [] (hp K x) (PI K Q)
  refine r_aload_n (pc := 0) dX8_standsOf_0 rfl ?_
  refine r_iload_n (pc := 1) dX8_standsOf_1 rfl ?_
  refine r_iconst (pc := 2) (v := 0) dX8_standsOf_2 (by decide) ?_
  refine s_VI (pc := 3) mX8_isKept (ci := 8) (a := b0) (As := [.int l1, .int 0]) dX8_standsOf_3 lk_X8_302 in_X8_isKept mo_X8_isKept ⟨by decide, rfl⟩ ⟨by decide, by decide⟩ (Nat.le_of_ble_eq_true rfl) k_b0 (mSI_mono K0 (fun r_2 y_1 K0 => ?_))
  refine r_if_eq (pc := 6) (tgt := 13) dX8_standsOf_6 (by decide) (fun q => ?_) (fun q => ?_)
  · have K0 := K0.1 q
    refine r_aload_n (pc := 13) dX8_standsOf_13 rfl ?_
    refine r_iload_n (pc := 14) dX8_standsOf_14 rfl ?_
    refine r_aload_n (pc := 15) dX8_standsOf_15 rfl ?_
    refine r_iload_n (pc := 16) dX8_standsOf_16 rfl ?_
    refine r_bipush (pc := 17) (v := 7) dX8_standsOf_17 (by decide) ?_
    obtain ⟨c_4, g_5, K0⟩ := K0
    obtain ⟨n_7, e_6, K0⟩ := K0
    obtain ⟨p_8, K0⟩ := K0
    refine s_VI (pc := 19) mX8_one (ci := 8) (a := b0) (As := [.int l1, .int 7]) dX8_standsOf_19 lk_X8_67 in_X8_one mo_X8_one ⟨by decide, rfl⟩ ⟨by decide, by decide⟩ (Nat.le_of_ble_eq_true rfl) k_b0 (sr_X8_one k_b0 g_5 e_6 p_8 ⟨by decide, by decide⟩ ?_)
    refine s_SI (pc := 22) mX8_bits (As := [.int (so (gi y_1 c_4) (l1 : Int32).toNatClampNeg 7)]) dX8_standsOf_22 lk_X8_296 st_X8_bits mo_X8_bits ⟨by decide, by decide⟩ (Nat.le_of_ble_eq_true rfl) (sp_X8_bits  ?_)
    refine s_VI (pc := 25) mX8_isKept (ci := 8) (a := b0) (As := [.int l1, .int (nI (cpt (so (gi y_1 c_4) (l1 : Int32).toNatClampNeg 7)))]) dX8_standsOf_25 lk_X8_302 in_X8_isKept mo_X8_isKept ⟨by decide, rfl⟩ ⟨by decide, by decide⟩ (Nat.le_of_ble_eq_true rfl) k_b0 (mSI_mono K0 (fun r_10 y_9 K0 => ?_))
    refine r_if_eq (pc := 28) (tgt := 35) dX8_standsOf_28 (by decide) (fun q => ?_) (fun q => ?_)
    · have K0 := K0.1 q
      refine r_iconst (pc := 35) (v := 2) dX8_standsOf_35 (by decide) ?_
      exact s_iret rfl dX8_standsOf_36 K0
    · have K0 := K0.2 q
      refine r_iconst (pc := 31) (v := 0) dX8_standsOf_31 (by decide) ?_
      refine r_goto (pc := 32) (tgt := 36) dX8_standsOf_32 (by decide) ?_
      exact s_iret rfl dX8_standsOf_36 K0
  · have K0 := K0.2 q
    refine r_iconst (pc := 9) (v := 1) dX8_standsOf_9 (by decide) ?_
    refine r_goto (pc := 10) (tgt := 36) dX8_standsOf_10 (by decide) ?_
    exact s_iret rfl dX8_standsOf_36 K0
section
variable {x : Cn} {Q : Int32 → Cn → Prop}
theorem sp_X8_standsOf {t s : Nat} (M : MRf x t) (ht : kk KW t = some (20, 518)) (hs : s < 24) (k : Q (stds (gi x t) s) x) : mSI mX8_standsOf [.ref 717, .int (nI s)] KW x Q := by
  refine v_X8_standsOf_0 km (sp_X8_isKept M ht hs ⟨fun z => ⟨t, M.2.2.1, 518, ht, l24_nI hs rfl, ?_⟩, fun z => ?_⟩)
  · rw [nI_clamp (show s < 2 ^ 31 by omega)]
    refine sp_X8_isKept M ht hs ⟨fun z2 => ?_, fun z2 => ?_⟩
    · unfold stds at k
      rwa [if_neg ((b2i_z _).mp z), if_neg ((b2i_z _).mp z2)] at k
    · unfold stds at k
      rwa [if_neg ((b2i_z _).mp z), if_pos (b2i_nz z2)] at k
  · unfold stds at k
    rwa [if_pos (b2i_nz z)] at k
end
set_option maxHeartbeats 2000000 in
theorem v_X4_seriesOf_0 {K : Sh} {x : Cn} {Q : Int32 → Cn → Prop} {b0 : Nat} {l1 : Int32} {l2 : Int32}   (K0 : GI mX4_seriesOf 5 [some (.ref b0), some (.int l1), some (.int l2), some (.int 0), some (.int 0)] [] K x Q) : mSI mX4_seriesOf [.ref b0, .int l1, .int l2] K x Q := by
  refine s_I (by decide) (by simp [Value.category]) (Nat.le_of_ble_eq_true rfl) ?_
  show mGM mX4_seriesOf 0 [some (.ref b0), some (.int l1), some (.int l2), none, none] [] (hp K x) (PI K Q)
  refine r_iconst (pc := 0) (v := 0) dX4_seriesOf_0 (by decide) ?_
  refine r_istore_n (pc := 1) dX4_seriesOf_1 (by decide) ?_
  refine r_iconst (pc := 2) (L := [some (.ref b0), some (.int l1), some (.int l2), some (.int 0), none]) (v := 0) dX4_seriesOf_2 (by decide) ?_
  refine r_istore (pc := 3) dX4_seriesOf_3 (by decide) ?_
  exact r_le (L' := [some (.ref b0), some (.int l1), some (.int l2), some (.int 0), some (.int 0)]) ⟨rfl, ⟨rfl, ⟨rfl, ⟨rfl, ⟨rfl, trivial⟩⟩⟩⟩⟩ K0
set_option maxHeartbeats 2000000 in
theorem v_X4_seriesOf_5 {K : Sh} {x : Cn} {Q : Int32 → Cn → Prop} {b0 : Nat} {l1 : Int32} {l2 : Int32} {l3 : Int32} {l4 : Int32} {b0_7 : Nat} {n_b0_7 : Nat} (k_b0 : kk K b0 = some (4, 0)) (g_b0_7 : gr x b0 7 = some b0_7) (k_b0_7 : kk K b0_7 = some (23, n_b0_7)) (K0 : ((gi x b0 3) ≤ l4 → (Q l3 x)) ∧ (¬ (gi x b0 3) ≤ l4 → (vp_in l4 n_b0_7 ∧ (∃ c_3 : Nat, gr x b0_7 ((l4 : Int32).toNatClampNeg) = some c_3 ∧ (kk K c_3 = some (5, 0) ∧ ((¬ (gi x c_3 0 = l1 ∧ (l2 = -1 ∨ gi x c_3 1 = l2)) → (GI mX4_seriesOf 5 [some (.ref b0), some (.int l1), some (.int l2), some (.int l3), some (.int (l4 + 1))] [] K x Q)) ∧ ((gi x c_3 0 = l1 ∧ (l2 = -1 ∨ gi x c_3 1 = l2)) → (GI mX4_seriesOf 5 [some (.ref b0), some (.int l1), some (.int l2), some (.int (l3 + 1)), some (.int (l4 + 1))] [] K x Q)))))))) : GI mX4_seriesOf 5 [some (.ref b0), some (.int l1), some (.int l2), some (.int l3), some (.int l4)] [] K x Q := by
  show mGM mX4_seriesOf 5 [some (.ref b0), some (.int l1), some (.int l2), some (.int l3), some (.int l4)] [] (hp K x) (PI K Q)
  refine r_iload (pc := 5) dX4_seriesOf_5 rfl ?_
  refine r_aload_n (pc := 7) dX4_seriesOf_7 rfl ?_
  refine s_getI (pc := 8) dX4_seriesOf_8 fl_X4_21 rfl k_b0 ?_
  refine r_icmp_ge (pc := 11) (tgt := 38) dX4_seriesOf_11 (by decide) (fun q => ?_) (fun q => ?_)
  · have K0 := K0.1 q
    refine r_iload_n (pc := 38) dX4_seriesOf_38 rfl ?_
    exact s_iret rfl dX4_seriesOf_39 K0
  · have K0 := K0.2 q
    refine r_aload_n (pc := 14) dX4_seriesOf_14 rfl ?_
    refine s_getR (pc := 15) dX4_seriesOf_15 fl_X4_36 rfl k_b0 g_b0_7 ?_
    refine r_iload (pc := 18) dX4_seriesOf_18 rfl ?_
    obtain ⟨i_2, K0⟩ := K0
    obtain ⟨c_3, g_4, K0⟩ := K0
    refine s_aald (pc := 20) dX4_seriesOf_20 (by decide) rfl k_b0_7 i_2 g_4 ?_
    refine r_iload_n (pc := 21) dX4_seriesOf_21 rfl ?_
    refine r_iload_n (pc := 22) dX4_seriesOf_22 rfl ?_
    obtain ⟨e_5, K0⟩ := K0
    refine s_VI (pc := 23) mX5_isOf (ci := 5) (a := c_3) (As := [.int l1, .int l2]) dX4_seriesOf_23 lk_X4_144 in_X5_isOf mo_X5_isOf ⟨by decide, rfl⟩ ⟨by decide, by decide⟩ (Nat.le_of_ble_eq_true rfl) e_5 (sp_X5_isOf e_5 ?_)
    refine r_if_eq (pc := 26) (tgt := 32) dX4_seriesOf_26 (by decide) (fun q => ?_) (fun q => ?_)
    · have q := (b2i_z _).mp q
      have K0 := K0.1 q
      refine r_iinc (pc := 32) (v := l4 + 1) dX4_seriesOf_32 rfl rfl (by decide) ?_
      refine r_goto (pc := 35) (L := [some (.ref b0), some (.int l1), some (.int l2), some (.int l3), some (.int (l4 + 1))]) (tgt := 5) dX4_seriesOf_35 (by decide) ?_
      exact r_le (L' := [some (.ref b0), some (.int l1), some (.int l2), some (.int l3), some (.int (l4 + 1))]) ⟨rfl, ⟨rfl, ⟨rfl, ⟨rfl, ⟨rfl, trivial⟩⟩⟩⟩⟩ K0
    · have q := b2i_nz q
      have K0 := K0.2 q
      refine r_iinc (pc := 29) (v := l3 + 1) dX4_seriesOf_29 rfl rfl (by decide) ?_
      refine r_iinc (pc := 32) (L := [some (.ref b0), some (.int l1), some (.int l2), some (.int (l3 + 1)), some (.int l4)]) (v := l4 + 1) dX4_seriesOf_32 rfl rfl (by decide) ?_
      refine r_goto (pc := 35) (L := [some (.ref b0), some (.int l1), some (.int l2), some (.int (l3 + 1)), some (.int (l4 + 1))]) (tgt := 5) dX4_seriesOf_35 (by decide) ?_
      exact r_le (L' := [some (.ref b0), some (.int l1), some (.int l2), some (.int (l3 + 1)), some (.int (l4 + 1))]) ⟨rfl, ⟨rfl, ⟨rfl, ⟨rfl, ⟨rfl, trivial⟩⟩⟩⟩⟩ K0
section
variable {x : Cn} {Q : Int32 → Cn → Prop}
theorem sp_X4_seriesOf {q : Nat} {T : TT} {W C S A N : Nat} (E : SEA x q T W C S A N) {c d : Int32} (k : Q (accT (inc (fun s => so T s 0 = c ∧ (d = -1 ∨ so T s 1 = d))) S 0) x) : mSI mX4_seriesOf [.ref q, .int c, .int d] KW x Q := by
  have hn := E.nums
  have hS : S ≤ 24 := hn.2.2.2.2.2.2.1
  refine v_X4_seriesOf_0 (lp_acc (inc (fun s => so T s 0 = c ∧ (d = -1 ∨ so T s 1 = d))) (fun s a => GI mX4_seriesOf 5 [some (.ref q), some (.int c), some (.int d), some (.int a), some (.int (nI s))] [] KW x Q) S 0 ?_ (fun s a hs n1 => ?_))
  · exact v_X4_seriesOf_5 (ks0 E.1) E.2.1.2.2.1 (ks3 E.1) ⟨fun _ => k, fun z => absurd (by rw [hn.2.2.1]; exact Int32.le_refl _) z⟩
  · obtain ⟨p, e1, e2, e3, e4, -, e6⟩ := E.ser hs
    refine v_X4_seriesOf_5 (ks0 E.1) E.2.1.2.2.1 (ks3 E.1) ⟨fun z => absurd (by rw [hn.2.2.1] at z; exact z) (nI_ge hs (by omega)), fun _ => ⟨vp_in_nI (by omega) (by decide), p, by rw [nI_clamp (by omega)]; exact e1, e2, ?_⟩⟩
    rw [e3.1 0 (by decide) (by decide), e3.1 1 (by decide) (by decide), nI_1]
    exact ⟨fun z => n1 _ (if_neg z), fun z => n1 _ (if_pos z)⟩
end
set_option maxHeartbeats 2000000 in
theorem v_X8_isEntrant_0 {K : Sh} {x : Cn} {Q : Int32 → Cn → Prop} {b0 : Nat} {l1 : Int32} {l2 : Int32}   (K0 : GI mX8_isEntrant 5 [some (.ref b0), some (.int l1), some (.int l2), some (.int 0), some (.int 0)] [] K x Q) : mSI mX8_isEntrant [.ref b0, .int l1, .int l2] K x Q := by
  refine s_I (by decide) (by simp [Value.category]) (Nat.le_of_ble_eq_true rfl) ?_
  show mGM mX8_isEntrant 0 [some (.ref b0), some (.int l1), some (.int l2), none, none] [] (hp K x) (PI K Q)
  refine r_iconst (pc := 0) (v := 0) dX8_isEntrant_0 (by decide) ?_
  refine r_istore_n (pc := 1) dX8_isEntrant_1 (by decide) ?_
  refine r_iconst (pc := 2) (L := [some (.ref b0), some (.int l1), some (.int l2), some (.int 0), none]) (v := 0) dX8_isEntrant_2 (by decide) ?_
  refine r_istore (pc := 3) dX8_isEntrant_3 (by decide) ?_
  exact r_le (L' := [some (.ref b0), some (.int l1), some (.int l2), some (.int 0), some (.int 0)]) ⟨rfl, ⟨rfl, ⟨rfl, ⟨rfl, ⟨rfl, trivial⟩⟩⟩⟩⟩ K0
set_option maxHeartbeats 2000000 in
theorem v_X8_isEntrant_5 {K : Sh} {x : Cn} {Q : Int32 → Cn → Prop} {b0 : Nat} {l1 : Int32} {l2 : Int32} {l3 : Int32} {l4 : Int32} {b0_3 : Nat} {n_b0_3 : Nat} (k_b0 : kk K b0 = some (8, 0)) (g_b0_3 : gr x b0 3 = some b0_3) (k_b0_3 : kk K b0_3 = some (20, n_b0_3)) (K0 : vp_in 2 n_b0_3 ∧ (((gi x b0_3 2) ≤ l4 → ((2 ≤ l3 → (Q 0 x)) ∧ (¬ 2 ≤ l3 → (Q 1 x)))) ∧ (¬ (gi x b0_3 2) ≤ l4 → ((l24 l4 n_b0_3) ∧ ((¬ (so (gi x b0_3) (l4 : Int32).toNatClampNeg 0) = l1 → (GI mX8_isEntrant 5 [some (.ref b0), some (.int l1), some (.int l2), some (.int (l3 + 0)), some (.int (l4 + 1))] [] K x Q)) ∧ ((so (gi x b0_3) (l4 : Int32).toNatClampNeg 0) = l1 → ((¬ (so (gi x b0_3) (l4 : Int32).toNatClampNeg 1) = l2 → (GI mX8_isEntrant 5 [some (.ref b0), some (.int l1), some (.int l2), some (.int (l3 + 0)), some (.int (l4 + 1))] [] K x Q)) ∧ ((so (gi x b0_3) (l4 : Int32).toNatClampNeg 1) = l2 → (GI mX8_isEntrant 5 [some (.ref b0), some (.int l1), some (.int l2), some (.int (l3 + 1)), some (.int (l4 + 1))] [] K x Q))))))))) : GI mX8_isEntrant 5 [some (.ref b0), some (.int l1), some (.int l2), some (.int l3), some (.int l4)] [] K x Q := by
  show mGM mX8_isEntrant 5 [some (.ref b0), some (.int l1), some (.int l2), some (.int l3), some (.int l4)] [] (hp K x) (PI K Q)
  refine r_iload (pc := 5) dX8_isEntrant_5 rfl ?_
  refine r_aload_n (pc := 7) dX8_isEntrant_7 rfl ?_
  refine s_getR (pc := 8) dX8_isEntrant_8 fl_X8_16 rfl k_b0 g_b0_3 ?_
  refine r_iconst (pc := 11) (v := 2) dX8_isEntrant_11 (by decide) ?_
  obtain ⟨i_1, K0⟩ := K0
  refine s_iald (pc := 12) dX8_isEntrant_12 k_b0_3 i_1 ?_
  refine r_icmp_ge (pc := 13) (tgt := 52) dX8_isEntrant_13 (by decide) (fun q => ?_) (fun q => ?_)
  · have K0 := K0.1 q
    refine r_iload_n (pc := 52) dX8_isEntrant_52 rfl ?_
    refine r_iconst (pc := 53) (v := 2) dX8_isEntrant_53 (by decide) ?_
    refine r_icmp_ge (pc := 54) (tgt := 61) dX8_isEntrant_54 (by decide) (fun q => ?_) (fun q => ?_)
    · have K0 := K0.1 q
      refine r_iconst (pc := 61) (v := 0) dX8_isEntrant_61 (by decide) ?_
      exact s_zret rfl (by decide) dX8_isEntrant_62 K0
    · have K0 := K0.2 q
      refine r_iconst (pc := 57) (v := 1) dX8_isEntrant_57 (by decide) ?_
      refine r_goto (pc := 58) (tgt := 62) dX8_isEntrant_58 (by decide) ?_
      exact s_zret rfl (by decide) dX8_isEntrant_62 K0
  · have K0 := K0.2 q
    refine r_iload_n (pc := 16) dX8_isEntrant_16 rfl ?_
    refine r_aload_n (pc := 17) dX8_isEntrant_17 rfl ?_
    refine r_iload (pc := 18) dX8_isEntrant_18 rfl ?_
    refine r_iconst (pc := 20) (v := 0) dX8_isEntrant_20 (by decide) ?_
    obtain ⟨p_4, K0⟩ := K0
    refine s_VI (pc := 21) mX8_one (ci := 8) (a := b0) (As := [.int l4, .int 0]) dX8_isEntrant_21 lk_X8_67 in_X8_one mo_X8_one ⟨by decide, rfl⟩ ⟨by decide, by decide⟩ (Nat.le_of_ble_eq_true rfl) k_b0 (sr_X8_one k_b0 g_b0_3 k_b0_3 p_4 ⟨by decide, by decide⟩ ?_)
    refine r_iload_n (pc := 24) dX8_isEntrant_24 rfl ?_
    refine r_icmp_ne (pc := 25) (tgt := 43) dX8_isEntrant_25 (by decide) (fun q => ?_) (fun q => ?_)
    · have K0 := K0.1 q
      refine r_iconst (pc := 43) (v := 0) dX8_isEntrant_43 (by decide) ?_
      refine r_iadd (pc := 44) dX8_isEntrant_44 ?_
      refine r_istore_n (pc := 45) dX8_isEntrant_45 (by decide) ?_
      refine r_iinc (pc := 46) (L := [some (.ref b0), some (.int l1), some (.int l2), some (.int (l3 + 0)), some (.int l4)]) (v := l4 + 1) dX8_isEntrant_46 rfl rfl (by decide) ?_
      refine r_goto (pc := 49) (L := [some (.ref b0), some (.int l1), some (.int l2), some (.int (l3 + 0)), some (.int (l4 + 1))]) (tgt := 5) dX8_isEntrant_49 (by decide) ?_
      exact r_le (L' := [some (.ref b0), some (.int l1), some (.int l2), some (.int (l3 + 0)), some (.int (l4 + 1))]) ⟨rfl, ⟨rfl, ⟨rfl, ⟨rfl, ⟨rfl, trivial⟩⟩⟩⟩⟩ K0
    · have K0 := K0.2 q
      refine r_aload_n (pc := 28) dX8_isEntrant_28 rfl ?_
      refine r_iload (pc := 29) dX8_isEntrant_29 rfl ?_
      refine r_iconst (pc := 31) (v := 1) dX8_isEntrant_31 (by decide) ?_
      refine s_VI (pc := 32) mX8_one (ci := 8) (a := b0) (As := [.int l4, .int 1]) dX8_isEntrant_32 lk_X8_67 in_X8_one mo_X8_one ⟨by decide, rfl⟩ ⟨by decide, by decide⟩ (Nat.le_of_ble_eq_true rfl) k_b0 (sr_X8_one k_b0 g_b0_3 k_b0_3 p_4 ⟨by decide, by decide⟩ ?_)
      refine r_iload_n (pc := 35) dX8_isEntrant_35 rfl ?_
      refine r_icmp_ne (pc := 36) (tgt := 43) dX8_isEntrant_36 (by decide) (fun q => ?_) (fun q => ?_)
      · have K0 := K0.1 q
        refine r_iconst (pc := 43) (v := 0) dX8_isEntrant_43 (by decide) ?_
        refine r_iadd (pc := 44) dX8_isEntrant_44 ?_
        refine r_istore_n (pc := 45) dX8_isEntrant_45 (by decide) ?_
        refine r_iinc (pc := 46) (L := [some (.ref b0), some (.int l1), some (.int l2), some (.int (l3 + 0)), some (.int l4)]) (v := l4 + 1) dX8_isEntrant_46 rfl rfl (by decide) ?_
        refine r_goto (pc := 49) (L := [some (.ref b0), some (.int l1), some (.int l2), some (.int (l3 + 0)), some (.int (l4 + 1))]) (tgt := 5) dX8_isEntrant_49 (by decide) ?_
        exact r_le (L' := [some (.ref b0), some (.int l1), some (.int l2), some (.int (l3 + 0)), some (.int (l4 + 1))]) ⟨rfl, ⟨rfl, ⟨rfl, ⟨rfl, ⟨rfl, trivial⟩⟩⟩⟩⟩ K0
      · have K0 := K0.2 q
        refine r_iconst (pc := 39) (v := 1) dX8_isEntrant_39 (by decide) ?_
        refine r_goto (pc := 40) (tgt := 44) dX8_isEntrant_40 (by decide) ?_
        refine r_iadd (pc := 44) dX8_isEntrant_44 ?_
        refine r_istore_n (pc := 45) dX8_isEntrant_45 (by decide) ?_
        refine r_iinc (pc := 46) (L := [some (.ref b0), some (.int l1), some (.int l2), some (.int (l3 + 1)), some (.int l4)]) (v := l4 + 1) dX8_isEntrant_46 rfl rfl (by decide) ?_
        refine r_goto (pc := 49) (L := [some (.ref b0), some (.int l1), some (.int l2), some (.int (l3 + 1)), some (.int (l4 + 1))]) (tgt := 5) dX8_isEntrant_49 (by decide) ?_
        exact r_le (L' := [some (.ref b0), some (.int l1), some (.int l2), some (.int (l3 + 1)), some (.int (l4 + 1))]) ⟨rfl, ⟨rfl, ⟨rfl, ⟨rfl, ⟨rfl, trivial⟩⟩⟩⟩⟩ K0
section
variable {x : Cn} {Q : Int32 → Cn → Prop}
theorem sp_X8_isEntrant {t S : Nat} (M : MRf x t) (ht : kk KW t = some (20, 518)) (h2 : gi x t 2 = nI S) (hS : S ≤ 24) {c d : Int32} (hd : ¬ d = -1) (k : Q (b2i (accT (inc (fun s => so (gi x t) s 0 = c ∧ (d = -1 ∨ so (gi x t) s 1 = d))) S 0 < 2)) x) : mSI mX8_isEntrant [.ref 717, .int c, .int d] KW x Q := by
  refine v_X8_isEntrant_0 (lp_acc (inc (fun s => so (gi x t) s 0 = c ∧ (d = -1 ∨ so (gi x t) s 1 = d))) (fun s a => GI mX8_isEntrant 5 [some (.ref 717), some (.int c), some (.int d), some (.int a), some (.int (nI s))] [] KW x Q) S 0 ?_ (fun s a hs n1 => ?_))
  · exact v_X8_isEntrant_5 km M.2.2.1 ht ⟨v0 (k := 2) (by decide) rfl rfl, fun _ => ⟨fun z => (b2i_k k).2 (Int32.not_lt.mpr z), fun z => (b2i_k k).1 (Int32.not_le.mp z)⟩, fun z => absurd (by rw [h2]; exact Int32.le_refl _) z⟩
  · refine v_X8_isEntrant_5 km M.2.2.1 ht ⟨v0 (k := 2) (by decide) rfl rfl, fun z => absurd (by rw [h2] at z; exact z) (nI_ge hs (by omega)), fun _ => ⟨l24_nI (by omega) rfl, ?_⟩⟩
    rw [nI_clamp (show s < 2 ^ 31 by omega), nI_1, Int32.add_zero]
    exact ⟨fun z => n1 _ (if_neg (fun g => z g.1)), fun z1 => ⟨fun z => n1 _ (if_neg (fun g => g.2.elim hd z)), fun z => n1 _ (if_pos ⟨z1, Or.inr z⟩)⟩⟩
theorem SER.safe {x : Cn} {p : Nat} {T : TT} {C W s : Nat} (h : SER x p T s) (w : Wse T C W s) : f_safe x p ↔ kw T s 0 := by
  unfold f_safe kw
  rw [h.held w, h.1 8 (by decide) (by decide), h.1 10 (by decide) (by decide), Int32.add_zero]
theorem SER.lost {x : Cn} {p : Nat} {T : TT} {C W s : Nat} (h : SER x p T s) (w : Wse T C W s) : f_lost x p ↔ ¬ kw T s (nI (cpt (so T s 7))) := by
  unfold f_lost kw
  rw [h.held w, h.opn w, h.1 8 (by decide) (by decide), h.1 10 (by decide) (by decide)]
theorem kw_mono {T : TT} {s : Nat} (h : kw T s 0) : kw T s (nI (cpt (so T s 7))) := by
  obtain ⟨h1, h2⟩ := h
  refine ⟨h1, ?_⟩
  have c1 := cpt_le (bas T s)
  have c2 := cpt_le (so T s 8 ||| so T s 10)
  have c3 := cpt_le (so T s 7)
  rw [Int32.add_zero] at h2
  rw [show (4 : Int32) = nI 4 by decide, show (5 : Int32) = nI 5 by decide, pk_mul, pk_mul, nI_leI (by omega) (by omega)] at h2
  rw [nI_add, show (4 : Int32) = nI 4 by decide, show (5 : Int32) = nI 5 by decide, pk_mul, pk_mul, nI_leI (by omega) (by omega)]
  omega
end
set_option maxHeartbeats 2000000 in
theorem v_X7_stands_0 {K : Sh} {x : Cn} {Q : Int32 → Cn → Prop} {b0 : Nat} {l1 : Int32} {b0_2 : Nat} {b0_2_7 : Nat} {n_b0_2_7 : Nat} (k_b0 : kk K b0 = some (7, 0)) (g_b0_2 : gr x b0 2 = some b0_2) (k_b0_2 : kk K b0_2 = some (4, 0)) (g_b0_2_7 : gr x b0_2 7 = some b0_2_7) (k_b0_2_7 : kk K b0_2_7 = some (23, n_b0_2_7)) (K0 : ((0 ≤ l1 ∧ l1 < gi x b0_2 3) → (vp_in l1 n_b0_2_7 ∧ (∃ c_3 : Nat, gr x b0_2_7 ((l1 : Int32).toNatClampNeg) = some c_3 ∧ (kk K c_3 = some (5, 0) ∧ ((¬ (f_safe x c_3) → ((¬ (f_lost x c_3) → (Q 0 x)) ∧ ((f_lost x c_3) → (Q 2 x)))) ∧ ((f_safe x c_3) → (Q 1 x))))))) ∧ (¬ (0 ≤ l1 ∧ l1 < gi x b0_2 3) → (Q (-2) x))) : mSI mX7_stands [.ref b0, .int l1] K x Q := by
  refine s_I (by decide) (by simp [Value.category]) (Nat.le_of_ble_eq_true rfl) ?_
  show mGM mX7_stands 0 [some (.ref b0), some (.int l1), none] [] (hp K x) (PI K Q)
  refine r_aload_n (pc := 0) dX7_stands_0 rfl ?_
  refine r_iload_n (pc := 1) dX7_stands_1 rfl ?_
  refine s_VI (pc := 2) mX7_isSeries (ci := 7) (a := b0) (As := [.int l1]) dX7_stands_2 lk_X7_132 in_X7_isSeries mo_X7_isSeries ⟨by decide, rfl⟩ ⟨by decide, by decide⟩ (Nat.le_of_ble_eq_true rfl) k_b0 (sp_X7_isSeries k_b0 g_b0_2 k_b0_2 ?_)
  refine r_if_ne (pc := 5) (tgt := 11) dX7_stands_5 (by decide) (fun q => ?_) (fun q => ?_)
  · have q := b2i_nz q
    have K0 := K0.1 q
    refine r_aload_n (pc := 11) dX7_stands_11 rfl ?_
    refine s_getR (pc := 12) dX7_stands_12 fl_X7_20 rfl k_b0 g_b0_2 ?_
    refine s_getR (pc := 15) dX7_stands_15 fl_X7_135 rfl k_b0_2 g_b0_2_7 ?_
    refine r_iload_n (pc := 18) dX7_stands_18 rfl ?_
    obtain ⟨i_2, K0⟩ := K0
    obtain ⟨c_3, g_4, K0⟩ := K0
    refine s_aald (pc := 19) dX7_stands_19 (by decide) rfl k_b0_2_7 i_2 g_4 ?_
    refine r_astore_n (pc := 20) dX7_stands_20 (by decide) ?_
    refine r_aload_n (pc := 21) (L := [some (.ref b0), some (.int l1), some (.ref c_3)]) dX7_stands_21 rfl ?_
    obtain ⟨e_5, K0⟩ := K0
    refine s_VI (pc := 22) mX5_isSafe (ci := 5) (a := c_3) (As := []) dX7_stands_22 lk_X7_236 in_X5_isSafe mo_X5_isSafe ⟨by decide, rfl⟩ ⟨by decide, by decide⟩ (Nat.le_of_ble_eq_true rfl) e_5 (sp_X5_isSafe e_5 ?_)
    refine r_if_eq (pc := 25) (tgt := 30) dX7_stands_25 (by decide) (fun q => ?_) (fun q => ?_)
    · have q := (b2i_z _).mp q
      have K0 := K0.1 q
      refine r_aload_n (pc := 30) dX7_stands_30 rfl ?_
      refine s_VI (pc := 31) mX5_isLost (ci := 5) (a := c_3) (As := []) dX7_stands_31 lk_X7_239 in_X5_isLost mo_X5_isLost ⟨by decide, rfl⟩ ⟨by decide, by decide⟩ (Nat.le_of_ble_eq_true rfl) e_5 (sp_X5_isLost e_5 ?_)
      refine r_if_eq (pc := 34) (tgt := 41) dX7_stands_34 (by decide) (fun q => ?_) (fun q => ?_)
      · have q := (b2i_z _).mp q
        have K0 := K0.1 q
        refine r_iconst (pc := 41) (v := 0) dX7_stands_41 (by decide) ?_
        exact s_iret rfl dX7_stands_42 K0
      · have q := b2i_nz q
        have K0 := K0.2 q
        refine r_iconst (pc := 37) (v := 2) dX7_stands_37 (by decide) ?_
        refine r_goto (pc := 38) (tgt := 42) dX7_stands_38 (by decide) ?_
        exact s_iret rfl dX7_stands_42 K0
    · have q := b2i_nz q
      have K0 := K0.2 q
      refine r_iconst (pc := 28) (v := 1) dX7_stands_28 (by decide) ?_
      exact s_iret rfl dX7_stands_29 K0
  · have q := (b2i_z _).mp q
    have K0 := K0.2 q
    refine r_bipush (pc := 8) (v := (-2)) dX7_stands_8 (by decide) ?_
    exact s_iret rfl dX7_stands_10 K0
set_option maxHeartbeats 2000000 in
theorem v_X8_stands_0 {K : Sh} {x : Cn} {Q : Int32 → Cn → Prop} {b0 : Nat} {l1 : Int32} {b0_1 : Nat} {n_b0_1 : Nat} (k_b0 : kk K b0 = some (8, 0)) (g_b0_1 : gr x b0 1 = some b0_1) (k_b0_1 : kk K b0_1 = some (20, n_b0_1)) (K0 : vp_in 2 n_b0_1 ∧ ((¬ (0 ≤ l1 ∧ l1 ≤ gi x b0_1 2 - 1) → (Q (-2) x)) ∧ ((0 ≤ l1 ∧ l1 ≤ gi x b0_1 2 - 1) → (mSI mX8_standsOf [.ref b0, .int l1] K x (fun r_4 y_3 => Q r_4 y_3))))) : mSI mX8_stands [.ref b0, .int l1] K x Q := by
  refine s_I (by decide) (by simp [Value.category]) (Nat.le_of_ble_eq_true rfl) ?_
  show mGM mX8_stands 0 [some (.ref b0), some (.int l1)] [] (hp K x) (PI K Q)
  refine r_aload_n (pc := 0) dX8_stands_0 rfl ?_
  refine r_iload_n (pc := 1) dX8_stands_1 rfl ?_
  obtain ⟨i_1, K0⟩ := K0
  refine s_VI (pc := 2) mX8_isSeries (ci := 8) (a := b0) (As := [.int l1]) dX8_stands_2 lk_X8_273 in_X8_isSeries mo_X8_isSeries ⟨by decide, rfl⟩ ⟨by decide, by decide⟩ (Nat.le_of_ble_eq_true rfl) k_b0 (sp_X8_isSeries k_b0 g_b0_1 k_b0_1 i_1 ?_)
  refine r_if_eq (pc := 5) (tgt := 16) dX8_stands_5 (by decide) (fun q => ?_) (fun q => ?_)
  · have q := (b2i_z _).mp q
    have K0 := K0.1 q
    refine r_bipush (pc := 16) (v := (-2)) dX8_stands_16 (by decide) ?_
    exact s_iret rfl dX8_stands_18 K0
  · have q := b2i_nz q
    have K0 := K0.2 q
    refine r_aload_n (pc := 8) dX8_stands_8 rfl ?_
    refine r_iload_n (pc := 9) dX8_stands_9 rfl ?_
    refine s_VI (pc := 10) mX8_standsOf (ci := 8) (a := b0) (As := [.int l1]) dX8_stands_10 lk_X8_305 in_X8_standsOf mo_X8_standsOf ⟨by decide, rfl⟩ ⟨by decide, by decide⟩ (Nat.le_of_ble_eq_true rfl) k_b0 (mSI_mono K0 (fun r_4 y_3 K0 => ?_))
    refine r_goto (pc := 13) (tgt := 18) dX8_stands_13 (by decide) ?_
    exact s_iret rfl dX8_stands_18 K0
set_option maxHeartbeats 2000000 in
theorem v_X7_kept_0 {K : Sh} {x : Cn} {Q : Int32 → Cn → Prop} {b0 : Nat} {l1 : Int32} {b0_2 : Nat} (k_b0 : kk K b0 = some (7, 0)) (g_b0_2 : gr x b0 2 = some b0_2) (k_b0_2 : kk K b0_2 = some (4, 0)) (K0 : (¬ (0 < gi x b0_2 0) → (Q (-2) x)) ∧ ((0 < gi x b0_2 0) → (((0 ≤ l1 ∧ l1 ≤ 1) → (GI mX7_kept 23 [some (.ref b0), some (.int l1), some (.int 0), some (.int 0), none] [] K x Q)) ∧ (¬ (0 ≤ l1 ∧ l1 ≤ 1) → (Q (-2) x))))) : mSI mX7_kept [.ref b0, .int l1] K x Q := by
  refine s_I (by decide) (by simp [Value.category]) (Nat.le_of_ble_eq_true rfl) ?_
  show mGM mX7_kept 0 [some (.ref b0), some (.int l1), none, none, none] [] (hp K x) (PI K Q)
  refine r_aload_n (pc := 0) dX7_kept_0 rfl ?_
  refine s_VI (pc := 1) mX7_hasText (ci := 7) (a := b0) (As := []) dX7_kept_1 lk_X7_121 in_X7_hasText mo_X7_hasText ⟨by decide, rfl⟩ ⟨by decide, by decide⟩ (Nat.le_of_ble_eq_true rfl) k_b0 (sp_X7_hasText k_b0 g_b0_2 k_b0_2 ?_)
  refine r_if_eq (pc := 4) (tgt := 16) dX7_kept_4 (by decide) (fun q => ?_) (fun q => ?_)
  · have q := (b2i_z _).mp q
    have K0 := K0.1 q
    refine r_bipush (pc := 16) (v := (-2)) dX7_kept_16 (by decide) ?_
    exact s_iret rfl dX7_kept_18 K0
  · have q := b2i_nz q
    have K0 := K0.2 q
    refine r_iload_n (pc := 7) dX7_kept_7 rfl ?_
    refine r_iconst (pc := 8) (v := 0) dX7_kept_8 (by decide) ?_
    refine r_iconst (pc := 9) (v := 1) dX7_kept_9 (by decide) ?_
    refine s_SI (pc := 10) mX7_isWithin (As := [.int l1, .int 0, .int 1]) dX7_kept_10 lk_X7_113 st_X7_isWithin mo_X7_isWithin ⟨by decide, by decide⟩ (Nat.le_of_ble_eq_true rfl) (sp_X7_isWithin  ?_)
    refine r_if_ne (pc := 13) (tgt := 19) dX7_kept_13 (by decide) (fun q => ?_) (fun q => ?_)
    · have q := b2i_nz q
      have K0 := K0.1 q
      refine r_iconst (pc := 19) (v := 0) dX7_kept_19 (by decide) ?_
      refine r_istore_n (pc := 20) dX7_kept_20 (by decide) ?_
      refine r_iconst (pc := 21) (L := [some (.ref b0), some (.int l1), some (.int 0), none, none]) (v := 0) dX7_kept_21 (by decide) ?_
      refine r_istore_n (pc := 22) dX7_kept_22 (by decide) ?_
      exact r_le (L' := [some (.ref b0), some (.int l1), some (.int 0), some (.int 0), none]) ⟨rfl, ⟨rfl, ⟨rfl, ⟨rfl, trivial⟩⟩⟩⟩ K0
    · have q := (b2i_z _).mp q
      have K0 := K0.2 q
      refine r_bipush (pc := 16) (v := (-2)) dX7_kept_16 (by decide) ?_
      exact s_iret rfl dX7_kept_18 K0
set_option maxHeartbeats 2000000 in
theorem v_X7_kept_23 {K : Sh} {x : Cn} {Q : Int32 → Cn → Prop} {b0 : Nat} {l1 : Int32} {l2 : Int32} {l3 : Int32} {b0_2 : Nat} {b0_2_7 : Nat} {n_b0_2_7 : Nat} (k_b0 : kk K b0 = some (7, 0)) (g_b0_2 : gr x b0 2 = some b0_2) (k_b0_2 : kk K b0_2 = some (4, 0)) (g_b0_2_7 : gr x b0_2 7 = some b0_2_7) (k_b0_2_7 : kk K b0_2_7 = some (23, n_b0_2_7)) (K0 : ((gi x b0_2 3) ≤ l3 → (Q l2 x)) ∧ (¬ (gi x b0_2 3) ≤ l3 → (vp_in l3 n_b0_2_7 ∧ (∃ c_3 : Nat, gr x b0_2_7 ((l3 : Int32).toNatClampNeg) = some c_3 ∧ ((¬ l1 = 0 → (kk K c_3 = some (5, 0) ∧ ((¬ (f_lost x c_3) → (GI mX7_kept 23 [some (.ref b0), some (.int l1), some (.int l2), some (.int (l3 + 1)), none] [] K x Q)) ∧ ((f_lost x c_3) → (GI mX7_kept 23 [some (.ref b0), some (.int l1), some (.int (l2 ||| (1 <<< (l3 &&& 31)))), some (.int (l3 + 1)), none] [] K x Q))))) ∧ (l1 = 0 → (kk K c_3 = some (5, 0) ∧ ((¬ (f_safe x c_3) → (GI mX7_kept 23 [some (.ref b0), some (.int l1), some (.int l2), some (.int (l3 + 1)), none] [] K x Q)) ∧ ((f_safe x c_3) → (GI mX7_kept 23 [some (.ref b0), some (.int l1), some (.int (l2 ||| (1 <<< (l3 &&& 31)))), some (.int (l3 + 1)), none] [] K x Q)))))))))) : GI mX7_kept 23 [some (.ref b0), some (.int l1), some (.int l2), some (.int l3), none] [] K x Q := by
  show mGM mX7_kept 23 [some (.ref b0), some (.int l1), some (.int l2), some (.int l3), none] [] (hp K x) (PI K Q)
  refine r_iload_n (pc := 23) dX7_kept_23 rfl ?_
  refine r_aload_n (pc := 24) dX7_kept_24 rfl ?_
  refine s_getR (pc := 25) dX7_kept_25 fl_X7_20 rfl k_b0 g_b0_2 ?_
  refine s_getI (pc := 28) dX7_kept_28 fl_X7_97 rfl k_b0_2 ?_
  refine r_icmp_ge (pc := 31) (tgt := 80) dX7_kept_31 (by decide) (fun q => ?_) (fun q => ?_)
  · have K0 := K0.1 q
    refine r_iload_n (pc := 80) dX7_kept_80 rfl ?_
    exact s_iret rfl dX7_kept_81 K0
  · have K0 := K0.2 q
    refine r_aload_n (pc := 34) dX7_kept_34 rfl ?_
    refine s_getR (pc := 35) dX7_kept_35 fl_X7_20 rfl k_b0 g_b0_2 ?_
    refine s_getR (pc := 38) dX7_kept_38 fl_X7_135 rfl k_b0_2 g_b0_2_7 ?_
    refine r_iload_n (pc := 41) dX7_kept_41 rfl ?_
    obtain ⟨i_2, K0⟩ := K0
    obtain ⟨c_3, g_4, K0⟩ := K0
    refine s_aald (pc := 42) dX7_kept_42 (by decide) rfl k_b0_2_7 i_2 g_4 ?_
    refine r_astore (pc := 43) dX7_kept_43 (by decide) ?_
    refine r_iload_n (pc := 45) (L := [some (.ref b0), some (.int l1), some (.int l2), some (.int l3), some (.ref c_3)]) dX7_kept_45 rfl ?_
    refine r_if_ne (pc := 46) (tgt := 60) dX7_kept_46 (by decide) (fun q => ?_) (fun q => ?_)
    · have K0 := K0.1 q
      refine r_aload (pc := 60) dX7_kept_60 rfl ?_
      obtain ⟨e_6, K0⟩ := K0
      refine s_VI (pc := 62) mX5_isLost (ci := 5) (a := c_3) (As := []) dX7_kept_62 lk_X7_239 in_X5_isLost mo_X5_isLost ⟨by decide, rfl⟩ ⟨by decide, by decide⟩ (Nat.le_of_ble_eq_true rfl) e_6 (sp_X5_isLost e_6 ?_)
      refine r_if_eq (pc := 65) (tgt := 74) dX7_kept_65 (by decide) (fun q => ?_) (fun q => ?_)
      · have q := (b2i_z _).mp q
        have K0 := K0.1 q
        refine r_iinc (pc := 74) (v := l3 + 1) dX7_kept_74 rfl rfl (by decide) ?_
        refine r_goto (pc := 77) (L := [some (.ref b0), some (.int l1), some (.int l2), some (.int (l3 + 1)), some (.ref c_3)]) (tgt := 23) dX7_kept_77 (by decide) ?_
        exact r_le (L' := [some (.ref b0), some (.int l1), some (.int l2), some (.int (l3 + 1)), none]) ⟨rfl, ⟨rfl, ⟨rfl, ⟨rfl, trivial⟩⟩⟩⟩ K0
      · have q := b2i_nz q
        have K0 := K0.2 q
        refine r_iload_n (pc := 68) dX7_kept_68 rfl ?_
        refine r_iconst (pc := 69) (v := 1) dX7_kept_69 (by decide) ?_
        refine r_iload_n (pc := 70) dX7_kept_70 rfl ?_
        refine r_ishl (pc := 71) dX7_kept_71 ?_
        refine r_ior (pc := 72) dX7_kept_72 ?_
        refine r_istore_n (pc := 73) dX7_kept_73 (by decide) ?_
        refine r_iinc (pc := 74) (L := [some (.ref b0), some (.int l1), some (.int (l2 ||| (1 <<< (l3 &&& 31)))), some (.int l3), some (.ref c_3)]) (v := l3 + 1) dX7_kept_74 rfl rfl (by decide) ?_
        refine r_goto (pc := 77) (L := [some (.ref b0), some (.int l1), some (.int (l2 ||| (1 <<< (l3 &&& 31)))), some (.int (l3 + 1)), some (.ref c_3)]) (tgt := 23) dX7_kept_77 (by decide) ?_
        exact r_le (L' := [some (.ref b0), some (.int l1), some (.int (l2 ||| (1 <<< (l3 &&& 31)))), some (.int (l3 + 1)), none]) ⟨rfl, ⟨rfl, ⟨rfl, ⟨rfl, trivial⟩⟩⟩⟩ K0
    · have K0 := K0.2 q
      refine r_aload (pc := 49) dX7_kept_49 rfl ?_
      obtain ⟨e_8, K0⟩ := K0
      refine s_VI (pc := 51) mX5_isSafe (ci := 5) (a := c_3) (As := []) dX7_kept_51 lk_X7_236 in_X5_isSafe mo_X5_isSafe ⟨by decide, rfl⟩ ⟨by decide, by decide⟩ (Nat.le_of_ble_eq_true rfl) e_8 (sp_X5_isSafe e_8 ?_)
      refine r_if_eq (pc := 54) (tgt := 74) dX7_kept_54 (by decide) (fun q => ?_) (fun q => ?_)
      · have q := (b2i_z _).mp q
        have K0 := K0.1 q
        refine r_iinc (pc := 74) (v := l3 + 1) dX7_kept_74 rfl rfl (by decide) ?_
        refine r_goto (pc := 77) (L := [some (.ref b0), some (.int l1), some (.int l2), some (.int (l3 + 1)), some (.ref c_3)]) (tgt := 23) dX7_kept_77 (by decide) ?_
        exact r_le (L' := [some (.ref b0), some (.int l1), some (.int l2), some (.int (l3 + 1)), none]) ⟨rfl, ⟨rfl, ⟨rfl, ⟨rfl, trivial⟩⟩⟩⟩ K0
      · have q := b2i_nz q
        have K0 := K0.2 q
        refine r_goto (pc := 57) (tgt := 68) dX7_kept_57 (by decide) ?_
        refine r_iload_n (pc := 68) dX7_kept_68 rfl ?_
        refine r_iconst (pc := 69) (v := 1) dX7_kept_69 (by decide) ?_
        refine r_iload_n (pc := 70) dX7_kept_70 rfl ?_
        refine r_ishl (pc := 71) dX7_kept_71 ?_
        refine r_ior (pc := 72) dX7_kept_72 ?_
        refine r_istore_n (pc := 73) dX7_kept_73 (by decide) ?_
        refine r_iinc (pc := 74) (L := [some (.ref b0), some (.int l1), some (.int (l2 ||| (1 <<< (l3 &&& 31)))), some (.int l3), some (.ref c_3)]) (v := l3 + 1) dX7_kept_74 rfl rfl (by decide) ?_
        refine r_goto (pc := 77) (L := [some (.ref b0), some (.int l1), some (.int (l2 ||| (1 <<< (l3 &&& 31)))), some (.int (l3 + 1)), some (.ref c_3)]) (tgt := 23) dX7_kept_77 (by decide) ?_
        exact r_le (L' := [some (.ref b0), some (.int l1), some (.int (l2 ||| (1 <<< (l3 &&& 31)))), some (.int (l3 + 1)), none]) ⟨rfl, ⟨rfl, ⟨rfl, ⟨rfl, trivial⟩⟩⟩⟩ K0
set_option maxHeartbeats 2000000 in
theorem v_X8_kept_0 {K : Sh} {x : Cn} {Q : Int32 → Cn → Prop} {b0 : Nat} {l1 : Int32} {b0_1 : Nat} {n_b0_1 : Nat} (k_b0 : kk K b0 = some (8, 0)) (g_b0_1 : gr x b0 1 = some b0_1) (k_b0_1 : kk K b0_1 = some (20, n_b0_1)) (K0 : vp_in 0 n_b0_1 ∧ ((¬ (0 < gi x b0_1 0) → (Q (-2) x)) ∧ ((0 < gi x b0_1 0) → (((0 ≤ l1 ∧ l1 ≤ 1) → (GI mX8_kept 24 [some (.ref b0), some (.int l1), some (.int 0), some (.int 0)] [] K x Q)) ∧ (¬ (0 ≤ l1 ∧ l1 ≤ 1) → (Q (-2) x)))))) : mSI mX8_kept [.ref b0, .int l1] K x Q := by
  refine s_I (by decide) (by simp [Value.category]) (Nat.le_of_ble_eq_true rfl) ?_
  show mGM mX8_kept 0 [some (.ref b0), some (.int l1), none, none] [] (hp K x) (PI K Q)
  refine r_aload_n (pc := 0) dX8_kept_0 rfl ?_
  obtain ⟨i_1, K0⟩ := K0
  refine s_VI (pc := 1) mX8_isThere (ci := 8) (a := b0) (As := []) dX8_kept_1 lk_X8_49 in_X8_isThere mo_X8_isThere ⟨by decide, rfl⟩ ⟨by decide, by decide⟩ (Nat.le_of_ble_eq_true rfl) k_b0 (sp_X8_isThere k_b0 g_b0_1 k_b0_1 i_1 ?_)
  refine r_if_eq (pc := 4) (tgt := 17) dX8_kept_4 (by decide) (fun q => ?_) (fun q => ?_)
  · have q := (b2i_z _).mp q
    have K0 := K0.1 q
    refine r_bipush (pc := 17) (v := (-2)) dX8_kept_17 (by decide) ?_
    exact s_iret rfl dX8_kept_19 K0
  · have q := b2i_nz q
    have K0 := K0.2 q
    refine r_iload_n (pc := 7) dX8_kept_7 rfl ?_
    refine r_i2l (pc := 8) dX8_kept_8 ?_
    refine r_lconst (pc := 9) (v := 0) dX8_kept_9 (by decide) ?_
    refine r_lconst (pc := 10) (v := 1) dX8_kept_10 (by decide) ?_
    refine s_SI (pc := 11) mX8_in (As := [.long ((l1 : Int32).toInt64), .long 0, .long 1]) dX8_kept_11 lk_X8_45 st_X8_in mo_X8_in ⟨by decide, by decide⟩ (Nat.le_of_ble_eq_true rfl) (sq_X8_in (v := l1) (lo := 0) (hi := 1) rfl (by decide) (by decide) ?_)
    refine r_if_ne (pc := 14) (tgt := 20) dX8_kept_14 (by decide) (fun q => ?_) (fun q => ?_)
    · have q := b2i_nz q
      have K0 := K0.1 q
      refine r_iconst (pc := 20) (v := 0) dX8_kept_20 (by decide) ?_
      refine r_istore_n (pc := 21) dX8_kept_21 (by decide) ?_
      refine r_iconst (pc := 22) (L := [some (.ref b0), some (.int l1), some (.int 0), none]) (v := 0) dX8_kept_22 (by decide) ?_
      refine r_istore_n (pc := 23) dX8_kept_23 (by decide) ?_
      exact r_le (L' := [some (.ref b0), some (.int l1), some (.int 0), some (.int 0)]) ⟨rfl, ⟨rfl, ⟨rfl, ⟨rfl, trivial⟩⟩⟩⟩ K0
    · have q := (b2i_z _).mp q
      have K0 := K0.2 q
      refine r_bipush (pc := 17) (v := (-2)) dX8_kept_17 (by decide) ?_
      exact s_iret rfl dX8_kept_19 K0
set_option maxHeartbeats 2000000 in
theorem v_X8_kept_24 {K : Sh} {x : Cn} {Q : Int32 → Cn → Prop} {b0 : Nat} {l1 : Int32} {l2 : Int32} {l3 : Int32} {b0_1 : Nat} {n_b0_1 : Nat} (k_b0 : kk K b0 = some (8, 0)) (g_b0_1 : gr x b0 1 = some b0_1) (k_b0_1 : kk K b0_1 = some (20, n_b0_1)) (K0 : vp_in 2 n_b0_1 ∧ (((gi x b0_1 2) ≤ l3 → (Q l2 x)) ∧ (¬ (gi x b0_1 2) ≤ l3 → (mSI mX8_standsOf [.ref b0, .int l3] K x (fun r_4 y_3 => (¬ r_4 = (l1 + 1) → (GI mX8_kept 24 [some (.ref b0), some (.int l1), some (.int (l2 ||| 0)), some (.int (l3 + 1))] [] K y_3 Q)) ∧ (r_4 = (l1 + 1) → (GI mX8_kept 24 [some (.ref b0), some (.int l1), some (.int (l2 ||| (1 <<< (l3 &&& 31)))), some (.int (l3 + 1))] [] K y_3 Q))))))) : GI mX8_kept 24 [some (.ref b0), some (.int l1), some (.int l2), some (.int l3)] [] K x Q := by
  show mGM mX8_kept 24 [some (.ref b0), some (.int l1), some (.int l2), some (.int l3)] [] (hp K x) (PI K Q)
  refine r_iload_n (pc := 24) dX8_kept_24 rfl ?_
  refine r_aload_n (pc := 25) dX8_kept_25 rfl ?_
  refine s_getR (pc := 26) dX8_kept_26 fl_X8_9 rfl k_b0 g_b0_1 ?_
  refine r_iconst (pc := 29) (v := 2) dX8_kept_29 (by decide) ?_
  obtain ⟨i_1, K0⟩ := K0
  refine s_iald (pc := 30) dX8_kept_30 k_b0_1 i_1 ?_
  refine r_icmp_ge (pc := 31) (tgt := 61) dX8_kept_31 (by decide) (fun q => ?_) (fun q => ?_)
  · have K0 := K0.1 q
    refine r_iload_n (pc := 61) dX8_kept_61 rfl ?_
    exact s_iret rfl dX8_kept_62 K0
  · have K0 := K0.2 q
    refine r_iload_n (pc := 34) dX8_kept_34 rfl ?_
    refine r_aload_n (pc := 35) dX8_kept_35 rfl ?_
    refine r_iload_n (pc := 36) dX8_kept_36 rfl ?_
    refine s_VI (pc := 37) mX8_standsOf (ci := 8) (a := b0) (As := [.int l3]) dX8_kept_37 lk_X8_305 in_X8_standsOf mo_X8_standsOf ⟨by decide, rfl⟩ ⟨by decide, by decide⟩ (Nat.le_of_ble_eq_true rfl) k_b0 (mSI_mono K0 (fun r_4 y_3 K0 => ?_))
    refine r_iload_n (pc := 40) dX8_kept_40 rfl ?_
    refine r_iconst (pc := 41) (v := 1) dX8_kept_41 (by decide) ?_
    refine r_iadd (pc := 42) dX8_kept_42 ?_
    refine r_icmp_ne (pc := 43) (tgt := 52) dX8_kept_43 (by decide) (fun q => ?_) (fun q => ?_)
    · have K0 := K0.1 q
      refine r_iconst (pc := 52) (v := 0) dX8_kept_52 (by decide) ?_
      refine r_ior (pc := 53) dX8_kept_53 ?_
      refine r_istore_n (pc := 54) dX8_kept_54 (by decide) ?_
      refine r_iinc (pc := 55) (L := [some (.ref b0), some (.int l1), some (.int (l2 ||| 0)), some (.int l3)]) (v := l3 + 1) dX8_kept_55 rfl rfl (by decide) ?_
      refine r_goto (pc := 58) (L := [some (.ref b0), some (.int l1), some (.int (l2 ||| 0)), some (.int (l3 + 1))]) (tgt := 24) dX8_kept_58 (by decide) ?_
      exact r_le (L' := [some (.ref b0), some (.int l1), some (.int (l2 ||| 0)), some (.int (l3 + 1))]) ⟨rfl, ⟨rfl, ⟨rfl, ⟨rfl, trivial⟩⟩⟩⟩ K0
    · have K0 := K0.2 q
      refine r_iconst (pc := 46) (v := 1) dX8_kept_46 (by decide) ?_
      refine r_iload_n (pc := 47) dX8_kept_47 rfl ?_
      refine r_ishl (pc := 48) dX8_kept_48 ?_
      refine r_goto (pc := 49) (tgt := 53) dX8_kept_49 (by decide) ?_
      refine r_ior (pc := 53) dX8_kept_53 ?_
      refine r_istore_n (pc := 54) dX8_kept_54 (by decide) ?_
      refine r_iinc (pc := 55) (L := [some (.ref b0), some (.int l1), some (.int (l2 ||| (1 <<< (l3 &&& 31)))), some (.int l3)]) (v := l3 + 1) dX8_kept_55 rfl rfl (by decide) ?_
      refine r_goto (pc := 58) (L := [some (.ref b0), some (.int l1), some (.int (l2 ||| (1 <<< (l3 &&& 31)))), some (.int (l3 + 1))]) (tgt := 24) dX8_kept_58 (by decide) ?_
      exact r_le (L' := [some (.ref b0), some (.int l1), some (.int (l2 ||| (1 <<< (l3 &&& 31)))), some (.int (l3 + 1))]) ⟨rfl, ⟨rfl, ⟨rfl, ⟨rfl, trivial⟩⟩⟩⟩ K0
set_option maxHeartbeats 2000000 in
theorem v_X7_entrant_0 {K : Sh} {x : Cn} {Q : Int32 → Cn → Prop} {b0 : Nat} {l1 : Int32} {l2 : Int32} {b0_3 : Nat} {b0_2 : Nat} (k_b0 : kk K b0 = some (7, 0)) (g_b0_3 : gr x b0 3 = some b0_3) (k_b0_3 : kk K b0_3 = some (1, 0)) (g_b0_2 : gr x b0 2 = some b0_2) (k_b0_2 : kk K b0_2 = some (4, 0)) (K0 : (¬ (0 ≤ l1 ∧ l1 < gi x b0_3 0) → (Q (-2) x)) ∧ ((0 ≤ l1 ∧ l1 < gi x b0_3 0) → (((0 < gi x b0_2 0 ∧ 0 ≤ l2 ∧ l2 < 7) → (mSI mX4_seriesOf [.ref b0_2, .int l1, .int l2] K x (fun r_4 y_3 => (2 ≤ r_4 → (Q 0 y_3)) ∧ (¬ 2 ≤ r_4 → (Q 1 y_3))))) ∧ (¬ (0 < gi x b0_2 0 ∧ 0 ≤ l2 ∧ l2 < 7) → (Q (-2) x))))) : mSI mX7_entrant [.ref b0, .int l1, .int l2] K x Q := by
  refine s_I (by decide) (by simp [Value.category]) (Nat.le_of_ble_eq_true rfl) ?_
  show mGM mX7_entrant 0 [some (.ref b0), some (.int l1), some (.int l2)] [] (hp K x) (PI K Q)
  refine r_aload_n (pc := 0) dX7_entrant_0 rfl ?_
  refine r_iload_n (pc := 1) dX7_entrant_1 rfl ?_
  refine s_VI (pc := 2) mX7_isCarrier (ci := 7) (a := b0) (As := [.int l1]) dX7_entrant_2 lk_X7_109 in_X7_isCarrier mo_X7_isCarrier ⟨by decide, rfl⟩ ⟨by decide, by decide⟩ (Nat.le_of_ble_eq_true rfl) k_b0 (sp_X7_isCarrier k_b0 g_b0_3 k_b0_3 ?_)
  refine r_if_eq (pc := 5) (tgt := 16) dX7_entrant_5 (by decide) (fun q => ?_) (fun q => ?_)
  · have q := (b2i_z _).mp q
    have K0 := K0.1 q
    refine r_bipush (pc := 16) (v := (-2)) dX7_entrant_16 (by decide) ?_
    exact s_iret rfl dX7_entrant_18 K0
  · have q := b2i_nz q
    have K0 := K0.2 q
    refine r_aload_n (pc := 8) dX7_entrant_8 rfl ?_
    refine r_iload_n (pc := 9) dX7_entrant_9 rfl ?_
    refine s_VI (pc := 10) mX7_isDay (ci := 7) (a := b0) (As := [.int l2]) dX7_entrant_10 lk_X7_245 in_X7_isDay mo_X7_isDay ⟨by decide, rfl⟩ ⟨by decide, by decide⟩ (Nat.le_of_ble_eq_true rfl) k_b0 (sp_X7_isDay k_b0 g_b0_2 k_b0_2 ?_)
    refine r_if_ne (pc := 13) (tgt := 19) dX7_entrant_13 (by decide) (fun q => ?_) (fun q => ?_)
    · have q := b2i_nz q
      have K0 := K0.1 q
      refine r_aload_n (pc := 19) dX7_entrant_19 rfl ?_
      refine s_getR (pc := 20) dX7_entrant_20 fl_X7_20 rfl k_b0 g_b0_2 ?_
      refine r_iload_n (pc := 23) dX7_entrant_23 rfl ?_
      refine r_iload_n (pc := 24) dX7_entrant_24 rfl ?_
      refine s_VI (pc := 25) mX4_seriesOf (ci := 4) (a := b0_2) (As := [.int l1, .int l2]) dX7_entrant_25 lk_X7_252 in_X4_seriesOf mo_X4_seriesOf ⟨by decide, rfl⟩ ⟨by decide, by decide⟩ (Nat.le_of_ble_eq_true rfl) k_b0_2 (mSI_mono K0 (fun r_4 y_3 K0 => ?_))
      refine r_iconst (pc := 28) (v := 2) dX7_entrant_28 (by decide) ?_
      refine r_icmp_ge (pc := 29) (tgt := 36) dX7_entrant_29 (by decide) (fun q => ?_) (fun q => ?_)
      · have K0 := K0.1 q
        refine r_iconst (pc := 36) (v := 0) dX7_entrant_36 (by decide) ?_
        exact s_iret rfl dX7_entrant_37 K0
      · have K0 := K0.2 q
        refine r_iconst (pc := 32) (v := 1) dX7_entrant_32 (by decide) ?_
        refine r_goto (pc := 33) (tgt := 37) dX7_entrant_33 (by decide) ?_
        exact s_iret rfl dX7_entrant_37 K0
    · have q := (b2i_z _).mp q
      have K0 := K0.2 q
      refine r_bipush (pc := 16) (v := (-2)) dX7_entrant_16 (by decide) ?_
      exact s_iret rfl dX7_entrant_18 K0
set_option maxHeartbeats 2000000 in
theorem v_X8_entrant_0 {K : Sh} {x : Cn} {Q : Int32 → Cn → Prop} {b0 : Nat} {l1 : Int32} {l2 : Int32} {b0_1 : Nat} {n_b0_1 : Nat} (k_b0 : kk K b0 = some (8, 0)) (g_b0_1 : gr x b0 1 = some b0_1) (k_b0_1 : kk K b0_1 = some (20, n_b0_1)) (K0 : vp_in 1 n_b0_1 ∧ ((¬ (0 ≤ l1 ∧ l1 ≤ gi x b0_1 1 - 1) → (Q (-2) x)) ∧ ((0 ≤ l1 ∧ l1 ≤ gi x b0_1 1 - 1) → (vp_in 0 n_b0_1 ∧ (((0 < gi x b0_1 0 ∧ 0 ≤ l2 ∧ l2 ≤ 6) → (mSI mX8_isEntrant [.ref b0, .int l1, .int l2] K x (fun r_6 y_5 => (r_6 = 0 → (Q 0 y_5)) ∧ (¬ r_6 = 0 → (Q 1 y_5))))) ∧ (¬ (0 < gi x b0_1 0 ∧ 0 ≤ l2 ∧ l2 ≤ 6) → (Q (-2) x))))))) : mSI mX8_entrant [.ref b0, .int l1, .int l2] K x Q := by
  refine s_I (by decide) (by simp [Value.category]) (Nat.le_of_ble_eq_true rfl) ?_
  show mGM mX8_entrant 0 [some (.ref b0), some (.int l1), some (.int l2)] [] (hp K x) (PI K Q)
  refine r_aload_n (pc := 0) dX8_entrant_0 rfl ?_
  refine r_iload_n (pc := 1) dX8_entrant_1 rfl ?_
  obtain ⟨i_1, K0⟩ := K0
  refine s_VI (pc := 2) mX8_isCarrier (ci := 8) (a := b0) (As := [.int l1]) dX8_entrant_2 lk_X8_265 in_X8_isCarrier mo_X8_isCarrier ⟨by decide, rfl⟩ ⟨by decide, by decide⟩ (Nat.le_of_ble_eq_true rfl) k_b0 (sp_X8_isCarrier k_b0 g_b0_1 k_b0_1 i_1 ?_)
  refine r_if_eq (pc := 5) (tgt := 16) dX8_entrant_5 (by decide) (fun q => ?_) (fun q => ?_)
  · have q := (b2i_z _).mp q
    have K0 := K0.1 q
    refine r_bipush (pc := 16) (v := (-2)) dX8_entrant_16 (by decide) ?_
    exact s_iret rfl dX8_entrant_18 K0
  · have q := b2i_nz q
    have K0 := K0.2 q
    refine r_aload_n (pc := 8) dX8_entrant_8 rfl ?_
    refine r_iload_n (pc := 9) dX8_entrant_9 rfl ?_
    obtain ⟨i_3, K0⟩ := K0
    refine s_VI (pc := 10) mX8_isDay (ci := 8) (a := b0) (As := [.int l2]) dX8_entrant_10 lk_X8_61 in_X8_isDay mo_X8_isDay ⟨by decide, rfl⟩ ⟨by decide, by decide⟩ (Nat.le_of_ble_eq_true rfl) k_b0 (sp_X8_isDay k_b0 g_b0_1 k_b0_1 i_3 ?_)
    refine r_if_ne (pc := 13) (tgt := 19) dX8_entrant_13 (by decide) (fun q => ?_) (fun q => ?_)
    · have q := b2i_nz q
      have K0 := K0.1 q
      refine r_aload_n (pc := 19) dX8_entrant_19 rfl ?_
      refine r_iload_n (pc := 20) dX8_entrant_20 rfl ?_
      refine r_iload_n (pc := 21) dX8_entrant_21 rfl ?_
      refine s_VI (pc := 22) mX8_isEntrant (ci := 8) (a := b0) (As := [.int l1, .int l2]) dX8_entrant_22 lk_X8_313 in_X8_isEntrant mo_X8_isEntrant ⟨by decide, rfl⟩ ⟨by decide, by decide⟩ (Nat.le_of_ble_eq_true rfl) k_b0 (mSI_mono K0 (fun r_6 y_5 K0 => ?_))
      refine r_if_eq (pc := 25) (tgt := 32) dX8_entrant_25 (by decide) (fun q => ?_) (fun q => ?_)
      · have K0 := K0.1 q
        refine r_iconst (pc := 32) (v := 0) dX8_entrant_32 (by decide) ?_
        exact s_iret rfl dX8_entrant_33 K0
      · have K0 := K0.2 q
        refine r_iconst (pc := 28) (v := 1) dX8_entrant_28 (by decide) ?_
        refine r_goto (pc := 29) (tgt := 33) dX8_entrant_29 (by decide) ?_
        exact s_iret rfl dX8_entrant_33 K0
    · have q := (b2i_z _).mp q
      have K0 := K0.2 q
      refine r_bipush (pc := 16) (v := (-2)) dX8_entrant_16 (by decide) ?_
      exact s_iret rfl dX8_entrant_18 K0
theorem eq_stands (a : Int32) : Both mX7_stands mX8_stands [.int a] := by
  intro x R
  obtain ⟨W, C, S, A, N, E, -, -⟩ := R.sea
  have hn := E.nums
  have ht := Rel.t2 E
  have hS : S ≤ 24 := hn.2.2.2.2.2.2.1
  have iS := inN' (v := a) (n := S) (by omega)
  have rf : mSI mX8_stands [.ref 717, .int a] KW x (fun r' z => (if 0 ≤ a ∧ a < nI S then stds (gi x 718) a.toNatClampNeg else -2) = r' ∧ Rel z) := by
    refine v_X8_stands_0 km R.2.1.1 km1 ⟨v0 (k := 2) (by decide) rfl rfl, ?_⟩
    rw [ht.2.2.1, iS]
    refine ⟨fun z => ⟨if_neg z, R⟩, fun z => ?_⟩
    rw [if_pos z]
    obtain ⟨s, hs, rfl⟩ := inN (by omega) z
    rw [nI_clamp (by omega)]
    exact sp_X8_standsOf R.2.1 km1 (by omega) ⟨rfl, R⟩
  refine v_X7_stands_0 k0 R.1.2.1 (ks0 E.1) E.2.1.2.2.1 (ks3 E.1) ?_
  rw [hn.2.2.1]
  refine ⟨fun z => ?_, fun z => by rwa [if_neg z] at rf⟩
  rw [if_pos z] at rf
  obtain ⟨s, hs, rfl⟩ := inN (by omega) z
  obtain ⟨p, e1, e2, e3, e4, -, e6⟩ := E.ser hs
  rw [nI_clamp (show s < 2 ^ 31 by omega)] at rf ⊢
  refine ⟨vp_in_nI (by omega) (by decide), p, e1, e2, ?_⟩
  have g1 := e3.safe e6
  have g2 := e3.lost e6
  refine ⟨fun w => ⟨fun w2 => ?_, fun w2 => ?_⟩, fun w => ?_⟩
  · unfold stds at rf
    rwa [if_neg (fun u => w (g1.mpr u)), if_pos (Classical.byContradiction (fun u => w2 (g2.mpr u)))] at rf
  · unfold stds at rf
    rwa [if_neg (fun u => w (g1.mpr u)), if_neg (g2.mp w2)] at rf
  · unfold stds at rf
    rwa [if_pos (g1.mp w)] at rf
theorem eq_kept (a : Int32) : Both mX7_kept mX8_kept [.int a] := by
  intro x R
  obtain ⟨W, C, S, A, N, E, -, -⟩ := R.sea
  have hn := E.nums
  have ht := Rel.t2 E
  have hS : S ≤ 24 := hn.2.2.2.2.2.2.1
  have rf : mSI mX8_kept [.ref 717, .int a] KW x (fun r' z => (if 0 < nI W ∧ (0 ≤ a ∧ a ≤ 1) then accT (orS (fun s => stds (gi x 718) s = a + 1)) S 0 else -2) = r' ∧ Rel z) := by
    refine v_X8_kept_0 km R.2.1.1 km1 ⟨v0 (k := 0) (by decide) rfl rfl, ?_⟩
    rw [ht.1]
    refine ⟨fun z => ⟨if_neg (fun w => z w.1), R⟩, fun z => ⟨fun z2 => ?_, fun z2 => ⟨if_neg (fun w => z2 w.2), R⟩⟩⟩
    rw [if_pos ⟨z, z2⟩]
    refine lp_acc (orS (fun s => stds (gi x 718) s = a + 1)) (fun s b => GI mX8_kept 24 [some (.ref 717), some (.int a), some (.int b), some (.int (nI s))] [] KW x _) S 0 ?_ (fun s b hs n1 => ?_)
    · exact v_X8_kept_24 km R.2.1.1 km1 ⟨v0 (k := 2) (by decide) rfl rfl, fun _ => ⟨rfl, R⟩, fun z => absurd (by rw [ht.2.2.1]; exact Int32.le_refl _) z⟩
    · refine v_X8_kept_24 km R.2.1.1 km1 ⟨v0 (k := 2) (by decide) rfl rfl, fun z => absurd (by rw [ht.2.2.1] at z; exact z) (nI_ge hs (by omega)), fun _ => sp_X8_standsOf R.2.1 km1 (by omega) ?_⟩
      rw [nI_1, Int32.or_zero]
      exact ⟨fun z => n1 _ (if_neg z), fun z => n1 _ (if_pos z)⟩
  refine v_X7_kept_0 k0 R.1.2.1 (ks0 E.1) ?_
  rw [hn.1]
  refine ⟨fun z => by rwa [if_neg (fun w => z w.1)] at rf, fun z => ⟨fun z2 => ?_, fun z2 => by rwa [if_neg (fun w => z2 w.2)] at rf⟩⟩
  rw [if_pos ⟨z, z2⟩] at rf
  refine lp_acc (orS (fun s => stds (gi x 718) s = a + 1)) (fun s b => GI mX7_kept 23 [some (.ref 0), some (.int a), some (.int b), some (.int (nI s)), none] [] KW x _) S 0 ?_ (fun s b hs n1 => ?_)
  · exact v_X7_kept_23 k0 R.1.2.1 (ks0 E.1) E.2.1.2.2.1 (ks3 E.1) ⟨fun _ => rf, fun z => absurd (by rw [hn.2.2.1]; exact Int32.le_refl _) z⟩
  · obtain ⟨p, e1, e2, e3, e4, -, e6⟩ := E.ser hs
    have g1 := e3.safe e6
    have g2 := e3.lost e6
    have hm := kw_mono (T := gi x 718) (s := s)
    refine v_X7_kept_23 k0 R.1.2.1 (ks0 E.1) E.2.1.2.2.1 (ks3 E.1) ⟨fun z => absurd (by rw [hn.2.2.1] at z; exact z) (nI_ge hs (by omega)), fun _ => ⟨vp_in_nI (by omega) (by decide), p, by rw [nI_clamp (by omega)]; exact e1, ?_⟩⟩
    rw [nI_1]
    obtain ⟨k, hk, rfl⟩ := nI_of2 (M := 1) (n := 1) (by decide) (Int32.not_lt.mpr z2.1) z2.2
    have hk' : k = 0 ∨ k = 1 := by omega
    rcases hk' with rfl | rfl
    · refine ⟨fun w => absurd (by decide) w, fun _ => ⟨e2, fun w => n1 _ (if_neg (fun u => ?_)), fun w => n1 _ (if_pos ?_)⟩⟩
      · have u : stds (gi x 718) s = nI 0 + 1 := u
        unfold stds at u
        rw [if_neg (fun v => w (g1.mpr v))] at u
        split at u <;> exact absurd u (by decide)
      · show stds (gi x 718) s = nI 0 + 1
        unfold stds
        rw [if_pos (g1.mp w)]
        decide
    · refine ⟨fun _ => ⟨e2, fun w => n1 _ (if_neg (fun u => ?_)), fun w => n1 _ (if_pos ?_)⟩, fun w => absurd w (by decide)⟩
      · have hkw : kw (gi x 718) s (nI (cpt (so (gi x 718) s 7))) := Classical.byContradiction (fun v => w (g2.mpr v))
        have u : stds (gi x 718) s = nI 1 + 1 := u
        unfold stds at u
        rw [if_pos hkw] at u
        split at u <;> exact absurd u (by decide)
      · show stds (gi x 718) s = nI 1 + 1
        unfold stds
        rw [if_neg (fun v => g2.mp w (hm v)), if_neg (g2.mp w)]
        decide
theorem eq_entrant (a b : Int32) : Both mX7_entrant mX8_entrant [.int a, .int b] := by
  intro x R
  obtain ⟨W, C, S, A, N, E, ⟨hc, -⟩, -⟩ := R.sea
  have hn := E.nums
  have ht := Rel.t2 E
  have hS : S ≤ 24 := hn.2.2.2.2.2.2.1
  have hC : C ≤ 8 := hn.2.2.2.2.2.1
  have iC := inN' (v := a) (n := C) (by omega)
  have hb : ∀ {b : Int32}, (0 ≤ b ∧ b < 7) → ¬ b = -1 := fun z e => absurd (e ▸ z.1) (by decide)
  let nn : Int32 := accT (inc (fun s => so (gi x 718) s 0 = a ∧ (b = -1 ∨ so (gi x 718) s 1 = b))) S 0
  have rf : mSI mX8_entrant [.ref 717, .int a, .int b] KW x (fun r' z => (if (0 ≤ a ∧ a < nI C) ∧ (0 < nI W ∧ 0 ≤ b ∧ b < 7) then (if nn < 2 then 1 else 0) else -2) = r' ∧ Rel z) := by
    refine v_X8_entrant_0 km R.2.1.1 km1 ⟨v0 (k := 1) (by decide) rfl rfl, ?_⟩
    rw [ht.2.1, iC, ht.1, d7]
    refine ⟨fun z => ⟨if_neg (fun w => z w.1), R⟩, fun z => ⟨v0 (k := 0) (by decide) rfl rfl, fun z2 => ?_, fun z2 => ⟨if_neg (fun w => z2 w.2), R⟩⟩⟩
    rw [if_pos ⟨z, z2⟩]
    refine sp_X8_isEntrant R.2.1 km1 ht.2.2.1 hS (hb z2.2) ⟨fun z3 => ⟨if_neg ((b2i_z _).mp z3), R⟩, fun z3 => ⟨if_pos (b2i_nz z3), R⟩⟩
  refine v_X7_entrant_0 k0 R.1.2.2.1 (by decide) R.1.2.1 (ks0 E.1) ?_
  rw [hc, hn.1]
  refine ⟨fun z => by rwa [if_neg (fun w => z w.1)] at rf, fun z => ⟨fun z2 => ?_, fun z2 => by rwa [if_neg (fun w => z2 w.2)] at rf⟩⟩
  rw [if_pos ⟨z, z2⟩] at rf
  refine sp_X4_seriesOf E ⟨fun z3 => ?_, fun z3 => ?_⟩
  · rwa [if_neg (Int32.not_lt.mpr z3)] at rf
  · rwa [if_pos (Int32.not_le.mp z3)] at rf
end
/-! 36.sums.lean.txt -/
section
def addS (c : Nat → Prop) [∀ s, Decidable (c s)] (f : Nat → Int32) : Nat → Int32 → Int32 := fun s a => if c s then a + f s else a
/-- basis of a carrier's series on a day (-1: all) -/
def bOf (T : TT) (S : Nat) (c d : Int32) : Int32 := accT (addS (fun s => so T s 0 = c ∧ (d = -1 ∨ so T s 1 = d)) (fun s => nI (cpt (bas T s)))) S 0
def gOf (T : TT) (S : Nat) (c : Int32) : Int32 := accT (addS (fun s => so T s 0 = c) (fun s => nI (cpt (so T s 8 ||| so T s 10)))) S 0
theorem acc_bd {c : Nat → Prop} [∀ s, Decidable (c s)] {f : Nat → Int32} (hf : ∀ s, ∃ k, k ≤ 32 ∧ f s = nI k) : ∀ n, ∃ k, k ≤ 32 * n ∧ accT (addS c f) n 0 = nI k := by
  intro n
  induction n with
  | zero => exact ⟨0, by omega, rfl⟩
  | succ n ih =>
    obtain ⟨k, hk, e⟩ := ih
    obtain ⟨j, hj, ej⟩ := hf n
    show ∃ k, k ≤ 32 * (n + 1) ∧ (if c n then accT (addS c f) n 0 + f n else accT (addS c f) n 0) = nI k
    by_cases z : c n
    · exact ⟨k + j, by omega, by rw [if_pos z, e, ej, nI_add]⟩
    · exact ⟨k, by omega, by rw [if_neg z, e]⟩
theorem bOf_bd (T : TT) (S : Nat) (c d : Int32) : ∃ k, k ≤ 32 * S ∧ bOf T S c d = nI k := acc_bd (fun s => ⟨_, cpt_le _, rfl⟩) S
theorem gOf_bd (T : TT) (S : Nat) (c : Int32) : ∃ k, k ≤ 32 * S ∧ gOf T S c = nI k := acc_bd (fun s => ⟨_, cpt_le _, rfl⟩) S
set_option maxHeartbeats 2000000 in
theorem v_X4_basisOf_0 {K : Sh} {x : Cn} {Q : Int32 → Cn → Prop} {b0 : Nat} {l1 : Int32} {l2 : Int32}   (K0 : GI mX4_basisOf 5 [some (.ref b0), some (.int l1), some (.int l2), some (.int 0), some (.int 0)] [] K x Q) : mSI mX4_basisOf [.ref b0, .int l1, .int l2] K x Q := by
  refine s_I (by decide) (by simp [Value.category]) (Nat.le_of_ble_eq_true rfl) ?_
  show mGM mX4_basisOf 0 [some (.ref b0), some (.int l1), some (.int l2), none, none] [] (hp K x) (PI K Q)
  refine r_iconst (pc := 0) (v := 0) dX4_basisOf_0 (by decide) ?_
  refine r_istore_n (pc := 1) dX4_basisOf_1 (by decide) ?_
  refine r_iconst (pc := 2) (L := [some (.ref b0), some (.int l1), some (.int l2), some (.int 0), none]) (v := 0) dX4_basisOf_2 (by decide) ?_
  refine r_istore (pc := 3) dX4_basisOf_3 (by decide) ?_
  exact r_le (L' := [some (.ref b0), some (.int l1), some (.int l2), some (.int 0), some (.int 0)]) ⟨rfl, ⟨rfl, ⟨rfl, ⟨rfl, ⟨rfl, trivial⟩⟩⟩⟩⟩ K0
set_option maxHeartbeats 2000000 in
theorem v_X4_basisOf_5 {K : Sh} {x : Cn} {Q : Int32 → Cn → Prop} {b0 : Nat} {l1 : Int32} {l2 : Int32} {l3 : Int32} {l4 : Int32} {b0_7 : Nat} {n_b0_7 : Nat} (k_b0 : kk K b0 = some (4, 0)) (g_b0_7 : gr x b0 7 = some b0_7) (k_b0_7 : kk K b0_7 = some (23, n_b0_7)) (K0 : ((gi x b0 3) ≤ l4 → (Q l3 x)) ∧ (¬ (gi x b0 3) ≤ l4 → (vp_in l4 n_b0_7 ∧ (∃ c_3 : Nat, gr x b0_7 ((l4 : Int32).toNatClampNeg) = some c_3 ∧ (kk K c_3 = some (5, 0) ∧ ((¬ (gi x c_3 0 = l1 ∧ (l2 = -1 ∨ gi x c_3 1 = l2)) → (GI mX4_basisOf 5 [some (.ref b0), some (.int l1), some (.int l2), some (.int l3), some (.int (l4 + 1))] [] K x Q)) ∧ ((gi x c_3 0 = l1 ∧ (l2 = -1 ∨ gi x c_3 1 = l2)) → (GI mX4_basisOf 5 [some (.ref b0), some (.int l1), some (.int l2), some (.int (l3 + (nI (cpt (f_held x c_3))))), some (.int (l4 + 1))] [] K x Q)))))))) : GI mX4_basisOf 5 [some (.ref b0), some (.int l1), some (.int l2), some (.int l3), some (.int l4)] [] K x Q := by
  show mGM mX4_basisOf 5 [some (.ref b0), some (.int l1), some (.int l2), some (.int l3), some (.int l4)] [] (hp K x) (PI K Q)
  refine r_iload (pc := 5) dX4_basisOf_5 rfl ?_
  refine r_aload_n (pc := 7) dX4_basisOf_7 rfl ?_
  refine s_getI (pc := 8) dX4_basisOf_8 fl_X4_21 rfl k_b0 ?_
  refine r_icmp_ge (pc := 11) (tgt := 48) dX4_basisOf_11 (by decide) (fun q => ?_) (fun q => ?_)
  · have K0 := K0.1 q
    refine r_iload_n (pc := 48) dX4_basisOf_48 rfl ?_
    exact s_iret rfl dX4_basisOf_49 K0
  · have K0 := K0.2 q
    refine r_aload_n (pc := 14) dX4_basisOf_14 rfl ?_
    refine s_getR (pc := 15) dX4_basisOf_15 fl_X4_36 rfl k_b0 g_b0_7 ?_
    refine r_iload (pc := 18) dX4_basisOf_18 rfl ?_
    obtain ⟨i_2, K0⟩ := K0
    obtain ⟨c_3, g_4, K0⟩ := K0
    refine s_aald (pc := 20) dX4_basisOf_20 (by decide) rfl k_b0_7 i_2 g_4 ?_
    refine r_iload_n (pc := 21) dX4_basisOf_21 rfl ?_
    refine r_iload_n (pc := 22) dX4_basisOf_22 rfl ?_
    obtain ⟨e_5, K0⟩ := K0
    refine s_VI (pc := 23) mX5_isOf (ci := 5) (a := c_3) (As := [.int l1, .int l2]) dX4_basisOf_23 lk_X4_144 in_X5_isOf mo_X5_isOf ⟨by decide, rfl⟩ ⟨by decide, by decide⟩ (Nat.le_of_ble_eq_true rfl) e_5 (sp_X5_isOf e_5 ?_)
    refine r_if_eq (pc := 26) (tgt := 42) dX4_basisOf_26 (by decide) (fun q => ?_) (fun q => ?_)
    · have q := (b2i_z _).mp q
      have K0 := K0.1 q
      refine r_iinc (pc := 42) (v := l4 + 1) dX4_basisOf_42 rfl rfl (by decide) ?_
      refine r_goto (pc := 45) (L := [some (.ref b0), some (.int l1), some (.int l2), some (.int l3), some (.int (l4 + 1))]) (tgt := 5) dX4_basisOf_45 (by decide) ?_
      exact r_le (L' := [some (.ref b0), some (.int l1), some (.int l2), some (.int l3), some (.int (l4 + 1))]) ⟨rfl, ⟨rfl, ⟨rfl, ⟨rfl, ⟨rfl, trivial⟩⟩⟩⟩⟩ K0
    · have q := b2i_nz q
      have K0 := K0.2 q
      refine r_iload_n (pc := 29) dX4_basisOf_29 rfl ?_
      refine r_aload_n (pc := 30) dX4_basisOf_30 rfl ?_
      refine s_getR (pc := 31) dX4_basisOf_31 fl_X4_36 rfl k_b0 g_b0_7 ?_
      refine r_iload (pc := 34) dX4_basisOf_34 rfl ?_
      refine s_aald (pc := 36) dX4_basisOf_36 (by decide) rfl k_b0_7 i_2 g_4 ?_
      refine s_VI (pc := 37) mX5_basis (ci := 5) (a := c_3) (As := []) dX4_basisOf_37 lk_X4_147 in_X5_basis mo_X5_basis ⟨by decide, rfl⟩ ⟨by decide, by decide⟩ (Nat.le_of_ble_eq_true rfl) e_5 (sp_X5_basis e_5 ?_)
      refine r_iadd (pc := 40) dX4_basisOf_40 ?_
      refine r_istore_n (pc := 41) dX4_basisOf_41 (by decide) ?_
      refine r_iinc (pc := 42) (L := [some (.ref b0), some (.int l1), some (.int l2), some (.int (l3 + (nI (cpt (f_held x c_3))))), some (.int l4)]) (v := l4 + 1) dX4_basisOf_42 rfl rfl (by decide) ?_
      refine r_goto (pc := 45) (L := [some (.ref b0), some (.int l1), some (.int l2), some (.int (l3 + (nI (cpt (f_held x c_3))))), some (.int (l4 + 1))]) (tgt := 5) dX4_basisOf_45 (by decide) ?_
      exact r_le (L' := [some (.ref b0), some (.int l1), some (.int l2), some (.int (l3 + (nI (cpt (f_held x c_3))))), some (.int (l4 + 1))]) ⟨rfl, ⟨rfl, ⟨rfl, ⟨rfl, ⟨rfl, trivial⟩⟩⟩⟩⟩ K0
section
variable {x : Cn} {Q : Int32 → Cn → Prop}
theorem sp_X4_basisOf {q : Nat} {T : TT} {W C S A N : Nat} (E : SEA x q T W C S A N) {c d : Int32} (k : Q (bOf T S c d) x) : mSI mX4_basisOf [.ref q, .int c, .int d] KW x Q := by
  have hn := E.nums
  have hS : S ≤ 24 := hn.2.2.2.2.2.2.1
  refine v_X4_basisOf_0 (lp_acc (addS (fun s => so T s 0 = c ∧ (d = -1 ∨ so T s 1 = d)) (fun s => nI (cpt (bas T s)))) (fun s a => GI mX4_basisOf 5 [some (.ref q), some (.int c), some (.int d), some (.int a), some (.int (nI s))] [] KW x Q) S 0 ?_ (fun s a hs n1 => ?_))
  · exact v_X4_basisOf_5 (ks0 E.1) E.2.1.2.2.1 (ks3 E.1) ⟨fun _ => k, fun z => absurd (by rw [hn.2.2.1]; exact Int32.le_refl _) z⟩
  · obtain ⟨p, e1, e2, e3, e4, -, e6⟩ := E.ser hs
    refine v_X4_basisOf_5 (ks0 E.1) E.2.1.2.2.1 (ks3 E.1) ⟨fun z => absurd (by rw [hn.2.2.1] at z; exact z) (nI_ge hs (by omega)), fun _ => ⟨vp_in_nI (by omega) (by decide), p, by rw [nI_clamp (by omega)]; exact e1, e2, ?_⟩⟩
    rw [e3.1 0 (by decide) (by decide), e3.1 1 (by decide) (by decide), e4, nI_1]
    exact ⟨fun z => n1 _ (if_neg z), fun z => n1 _ (if_pos z)⟩
end
set_option maxHeartbeats 2000000 in
theorem v_X4_goodOf_0 {K : Sh} {x : Cn} {Q : Int32 → Cn → Prop} {b0 : Nat} {l1 : Int32}   (K0 : GI mX4_goodOf 4 [some (.ref b0), some (.int l1), some (.int 0), some (.int 0)] [] K x Q) : mSI mX4_goodOf [.ref b0, .int l1] K x Q := by
  refine s_I (by decide) (by simp [Value.category]) (Nat.le_of_ble_eq_true rfl) ?_
  show mGM mX4_goodOf 0 [some (.ref b0), some (.int l1), none, none] [] (hp K x) (PI K Q)
  refine r_iconst (pc := 0) (v := 0) dX4_goodOf_0 (by decide) ?_
  refine r_istore_n (pc := 1) dX4_goodOf_1 (by decide) ?_
  refine r_iconst (pc := 2) (L := [some (.ref b0), some (.int l1), some (.int 0), none]) (v := 0) dX4_goodOf_2 (by decide) ?_
  refine r_istore_n (pc := 3) dX4_goodOf_3 (by decide) ?_
  exact r_le (L' := [some (.ref b0), some (.int l1), some (.int 0), some (.int 0)]) ⟨rfl, ⟨rfl, ⟨rfl, ⟨rfl, trivial⟩⟩⟩⟩ K0
set_option maxHeartbeats 2000000 in
theorem v_X4_goodOf_4 {K : Sh} {x : Cn} {Q : Int32 → Cn → Prop} {b0 : Nat} {l1 : Int32} {l2 : Int32} {l3 : Int32} {b0_7 : Nat} {n_b0_7 : Nat} (k_b0 : kk K b0 = some (4, 0)) (g_b0_7 : gr x b0 7 = some b0_7) (k_b0_7 : kk K b0_7 = some (23, n_b0_7)) (K0 : ((gi x b0 3) ≤ l3 → (Q l2 x)) ∧ (¬ (gi x b0 3) ≤ l3 → (vp_in l3 n_b0_7 ∧ (∃ c_3 : Nat, gr x b0_7 ((l3 : Int32).toNatClampNeg) = some c_3 ∧ (kk K c_3 = some (5, 0) ∧ ((¬ (gi x c_3 0) = l1 → (GI mX4_goodOf 4 [some (.ref b0), some (.int l1), some (.int l2), some (.int (l3 + 1))] [] K x Q)) ∧ ((gi x c_3 0) = l1 → (GI mX4_goodOf 4 [some (.ref b0), some (.int l1), some (.int (l2 + (nI (cpt (gi x c_3 8 ||| gi x c_3 10))))), some (.int (l3 + 1))] [] K x Q)))))))) : GI mX4_goodOf 4 [some (.ref b0), some (.int l1), some (.int l2), some (.int l3)] [] K x Q := by
  show mGM mX4_goodOf 4 [some (.ref b0), some (.int l1), some (.int l2), some (.int l3)] [] (hp K x) (PI K Q)
  refine r_iload_n (pc := 4) dX4_goodOf_4 rfl ?_
  refine r_aload_n (pc := 5) dX4_goodOf_5 rfl ?_
  refine s_getI (pc := 6) dX4_goodOf_6 fl_X4_21 rfl k_b0 ?_
  refine r_icmp_ge (pc := 9) (tgt := 43) dX4_goodOf_9 (by decide) (fun q => ?_) (fun q => ?_)
  · have K0 := K0.1 q
    refine r_iload_n (pc := 43) dX4_goodOf_43 rfl ?_
    exact s_iret rfl dX4_goodOf_44 K0
  · have K0 := K0.2 q
    refine r_aload_n (pc := 12) dX4_goodOf_12 rfl ?_
    refine s_getR (pc := 13) dX4_goodOf_13 fl_X4_36 rfl k_b0 g_b0_7 ?_
    refine r_iload_n (pc := 16) dX4_goodOf_16 rfl ?_
    obtain ⟨i_2, K0⟩ := K0
    obtain ⟨c_3, g_4, K0⟩ := K0
    refine s_aald (pc := 17) dX4_goodOf_17 (by decide) rfl k_b0_7 i_2 g_4 ?_
    obtain ⟨e_5, K0⟩ := K0
    refine s_getI (pc := 18) dX4_goodOf_18 fl_X4_150 rfl e_5 ?_
    refine r_iload_n (pc := 21) dX4_goodOf_21 rfl ?_
    refine r_icmp_ne (pc := 22) (tgt := 37) dX4_goodOf_22 (by decide) (fun q => ?_) (fun q => ?_)
    · have K0 := K0.1 q
      refine r_iinc (pc := 37) (v := l3 + 1) dX4_goodOf_37 rfl rfl (by decide) ?_
      refine r_goto (pc := 40) (L := [some (.ref b0), some (.int l1), some (.int l2), some (.int (l3 + 1))]) (tgt := 4) dX4_goodOf_40 (by decide) ?_
      exact r_le (L' := [some (.ref b0), some (.int l1), some (.int l2), some (.int (l3 + 1))]) ⟨rfl, ⟨rfl, ⟨rfl, ⟨rfl, trivial⟩⟩⟩⟩ K0
    · have K0 := K0.2 q
      refine r_iload_n (pc := 25) dX4_goodOf_25 rfl ?_
      refine r_aload_n (pc := 26) dX4_goodOf_26 rfl ?_
      refine s_getR (pc := 27) dX4_goodOf_27 fl_X4_36 rfl k_b0 g_b0_7 ?_
      refine r_iload_n (pc := 30) dX4_goodOf_30 rfl ?_
      refine s_aald (pc := 31) dX4_goodOf_31 (by decide) rfl k_b0_7 i_2 g_4 ?_
      refine s_VI (pc := 32) mX5_good (ci := 5) (a := c_3) (As := []) dX4_goodOf_32 lk_X4_151 in_X5_good mo_X5_good ⟨by decide, rfl⟩ ⟨by decide, by decide⟩ (Nat.le_of_ble_eq_true rfl) e_5 (sp_X5_good e_5 ?_)
      refine r_iadd (pc := 35) dX4_goodOf_35 ?_
      refine r_istore_n (pc := 36) dX4_goodOf_36 (by decide) ?_
      refine r_iinc (pc := 37) (L := [some (.ref b0), some (.int l1), some (.int (l2 + (nI (cpt (gi x c_3 8 ||| gi x c_3 10))))), some (.int l3)]) (v := l3 + 1) dX4_goodOf_37 rfl rfl (by decide) ?_
      refine r_goto (pc := 40) (L := [some (.ref b0), some (.int l1), some (.int (l2 + (nI (cpt (gi x c_3 8 ||| gi x c_3 10))))), some (.int (l3 + 1))]) (tgt := 4) dX4_goodOf_40 (by decide) ?_
      exact r_le (L' := [some (.ref b0), some (.int l1), some (.int (l2 + (nI (cpt (gi x c_3 8 ||| gi x c_3 10))))), some (.int (l3 + 1))]) ⟨rfl, ⟨rfl, ⟨rfl, ⟨rfl, trivial⟩⟩⟩⟩ K0
section
variable {x : Cn} {Q : Int32 → Cn → Prop}
theorem sp_X4_goodOf {q : Nat} {T : TT} {W C S A N : Nat} (E : SEA x q T W C S A N) {c : Int32} (k : Q (gOf T S c) x) : mSI mX4_goodOf [.ref q, .int c] KW x Q := by
  have hn := E.nums
  have hS : S ≤ 24 := hn.2.2.2.2.2.2.1
  refine v_X4_goodOf_0 (lp_acc (addS (fun s => so T s 0 = c) (fun s => nI (cpt (so T s 8 ||| so T s 10)))) (fun s a => GI mX4_goodOf 4 [some (.ref q), some (.int c), some (.int a), some (.int (nI s))] [] KW x Q) S 0 ?_ (fun s a hs n1 => ?_))
  · exact v_X4_goodOf_4 (ks0 E.1) E.2.1.2.2.1 (ks3 E.1) ⟨fun _ => k, fun z => absurd (by rw [hn.2.2.1]; exact Int32.le_refl _) z⟩
  · obtain ⟨p, e1, e2, e3, e4, -, e6⟩ := E.ser hs
    refine v_X4_goodOf_4 (ks0 E.1) E.2.1.2.2.1 (ks3 E.1) ⟨fun z => absurd (by rw [hn.2.2.1] at z; exact z) (nI_ge hs (by omega)), fun _ => ⟨vp_in_nI (by omega) (by decide), p, by rw [nI_clamp (by omega)]; exact e1, e2, ?_⟩⟩
    rw [e3.1 0 (by decide) (by decide), e3.1 8 (by decide) (by decide), e3.1 10 (by decide) (by decide), nI_1]
    exact ⟨fun z => n1 _ (if_neg z), fun z => n1 _ (if_pos z)⟩
end
set_option maxHeartbeats 2000000 in
theorem v_X8_basisOn_0 {K : Sh} {x : Cn} {Q : Int32 → Cn → Prop} {b0 : Nat} {l1 : Int32} {l2 : Int32}   (K0 : GI mX8_basisOn 5 [some (.ref b0), some (.int l1), some (.int l2), some (.int 0), some (.int 0)] [] K x Q) : mSI mX8_basisOn [.ref b0, .int l1, .int l2] K x Q := by
  refine s_I (by decide) (by simp [Value.category]) (Nat.le_of_ble_eq_true rfl) ?_
  show mGM mX8_basisOn 0 [some (.ref b0), some (.int l1), some (.int l2), none, none] [] (hp K x) (PI K Q)
  refine r_iconst (pc := 0) (v := 0) dX8_basisOn_0 (by decide) ?_
  refine r_istore_n (pc := 1) dX8_basisOn_1 (by decide) ?_
  refine r_iconst (pc := 2) (L := [some (.ref b0), some (.int l1), some (.int l2), some (.int 0), none]) (v := 0) dX8_basisOn_2 (by decide) ?_
  refine r_istore (pc := 3) dX8_basisOn_3 (by decide) ?_
  exact r_le (L' := [some (.ref b0), some (.int l1), some (.int l2), some (.int 0), some (.int 0)]) ⟨rfl, ⟨rfl, ⟨rfl, ⟨rfl, ⟨rfl, trivial⟩⟩⟩⟩⟩ K0
set_option maxHeartbeats 2000000 in
theorem v_X8_basisOn_5 {K : Sh} {x : Cn} {Q : Int32 → Cn → Prop} {b0 : Nat} {l1 : Int32} {l2 : Int32} {l3 : Int32} {l4 : Int32} {b0_1 : Nat} {n_b0_1 : Nat} {b0_3 : Nat} {n_b0_3 : Nat} (k_b0 : kk K b0 = some (8, 0)) (g_b0_1 : gr x b0 1 = some b0_1) (k_b0_1 : kk K b0_1 = some (20, n_b0_1)) (g_b0_3 : gr x b0 3 = some b0_3) (k_b0_3 : kk K b0_3 = some (20, n_b0_3)) (K0 : vp_in 2 n_b0_1 ∧ (((gi x b0_1 2) ≤ l4 → (Q l3 x)) ∧ (¬ (gi x b0_1 2) ≤ l4 → ((l24 l4 n_b0_3) ∧ ((¬ (so (gi x b0_3) (l4 : Int32).toNatClampNeg 0) = l1 → (GI mX8_basisOn 5 [some (.ref b0), some (.int l1), some (.int l2), some (.int (l3 + 0)), some (.int (l4 + 1))] [] K x Q)) ∧ ((so (gi x b0_3) (l4 : Int32).toNatClampNeg 0) = l1 → ((¬ (so (gi x b0_3) (l4 : Int32).toNatClampNeg 1) = l2 → (GI mX8_basisOn 5 [some (.ref b0), some (.int l1), some (.int l2), some (.int (l3 + 0)), some (.int (l4 + 1))] [] K x Q)) ∧ ((so (gi x b0_3) (l4 : Int32).toNatClampNeg 1) = l2 → (GI mX8_basisOn 5 [some (.ref b0), some (.int l1), some (.int l2), some (.int (l3 + (nI (cpt (bas (gi x b0_3) (l4 : Int32).toNatClampNeg))))), some (.int (l4 + 1))] [] K x Q))))))))) : GI mX8_basisOn 5 [some (.ref b0), some (.int l1), some (.int l2), some (.int l3), some (.int l4)] [] K x Q := by
  show mGM mX8_basisOn 5 [some (.ref b0), some (.int l1), some (.int l2), some (.int l3), some (.int l4)] [] (hp K x) (PI K Q)
  refine r_iload (pc := 5) dX8_basisOn_5 rfl ?_
  refine r_aload_n (pc := 7) dX8_basisOn_7 rfl ?_
  refine s_getR (pc := 8) dX8_basisOn_8 fl_X8_9 rfl k_b0 g_b0_1 ?_
  refine r_iconst (pc := 11) (v := 2) dX8_basisOn_11 (by decide) ?_
  obtain ⟨i_1, K0⟩ := K0
  refine s_iald (pc := 12) dX8_basisOn_12 k_b0_1 i_1 ?_
  refine r_icmp_ge (pc := 13) (tgt := 60) dX8_basisOn_13 (by decide) (fun q => ?_) (fun q => ?_)
  · have K0 := K0.1 q
    refine r_iload_n (pc := 60) dX8_basisOn_60 rfl ?_
    exact s_iret rfl dX8_basisOn_61 K0
  · have K0 := K0.2 q
    refine r_iload_n (pc := 16) dX8_basisOn_16 rfl ?_
    refine r_aload_n (pc := 17) dX8_basisOn_17 rfl ?_
    refine r_iload (pc := 18) dX8_basisOn_18 rfl ?_
    refine r_iconst (pc := 20) (v := 0) dX8_basisOn_20 (by decide) ?_
    obtain ⟨p_3, K0⟩ := K0
    refine s_VI (pc := 21) mX8_one (ci := 8) (a := b0) (As := [.int l4, .int 0]) dX8_basisOn_21 lk_X8_67 in_X8_one mo_X8_one ⟨by decide, rfl⟩ ⟨by decide, by decide⟩ (Nat.le_of_ble_eq_true rfl) k_b0 (sr_X8_one k_b0 g_b0_3 k_b0_3 p_3 ⟨by decide, by decide⟩ ?_)
    refine r_iload_n (pc := 24) dX8_basisOn_24 rfl ?_
    refine r_icmp_ne (pc := 25) (tgt := 51) dX8_basisOn_25 (by decide) (fun q => ?_) (fun q => ?_)
    · have K0 := K0.1 q
      refine r_iconst (pc := 51) (v := 0) dX8_basisOn_51 (by decide) ?_
      refine r_iadd (pc := 52) dX8_basisOn_52 ?_
      refine r_istore_n (pc := 53) dX8_basisOn_53 (by decide) ?_
      refine r_iinc (pc := 54) (L := [some (.ref b0), some (.int l1), some (.int l2), some (.int (l3 + 0)), some (.int l4)]) (v := l4 + 1) dX8_basisOn_54 rfl rfl (by decide) ?_
      refine r_goto (pc := 57) (L := [some (.ref b0), some (.int l1), some (.int l2), some (.int (l3 + 0)), some (.int (l4 + 1))]) (tgt := 5) dX8_basisOn_57 (by decide) ?_
      exact r_le (L' := [some (.ref b0), some (.int l1), some (.int l2), some (.int (l3 + 0)), some (.int (l4 + 1))]) ⟨rfl, ⟨rfl, ⟨rfl, ⟨rfl, ⟨rfl, trivial⟩⟩⟩⟩⟩ K0
    · have K0 := K0.2 q
      refine r_aload_n (pc := 28) dX8_basisOn_28 rfl ?_
      refine r_iload (pc := 29) dX8_basisOn_29 rfl ?_
      refine r_iconst (pc := 31) (v := 1) dX8_basisOn_31 (by decide) ?_
      refine s_VI (pc := 32) mX8_one (ci := 8) (a := b0) (As := [.int l4, .int 1]) dX8_basisOn_32 lk_X8_67 in_X8_one mo_X8_one ⟨by decide, rfl⟩ ⟨by decide, by decide⟩ (Nat.le_of_ble_eq_true rfl) k_b0 (sr_X8_one k_b0 g_b0_3 k_b0_3 p_3 ⟨by decide, by decide⟩ ?_)
      refine r_iload_n (pc := 35) dX8_basisOn_35 rfl ?_
      refine r_icmp_ne (pc := 36) (tgt := 51) dX8_basisOn_36 (by decide) (fun q => ?_) (fun q => ?_)
      · have K0 := K0.1 q
        refine r_iconst (pc := 51) (v := 0) dX8_basisOn_51 (by decide) ?_
        refine r_iadd (pc := 52) dX8_basisOn_52 ?_
        refine r_istore_n (pc := 53) dX8_basisOn_53 (by decide) ?_
        refine r_iinc (pc := 54) (L := [some (.ref b0), some (.int l1), some (.int l2), some (.int (l3 + 0)), some (.int l4)]) (v := l4 + 1) dX8_basisOn_54 rfl rfl (by decide) ?_
        refine r_goto (pc := 57) (L := [some (.ref b0), some (.int l1), some (.int l2), some (.int (l3 + 0)), some (.int (l4 + 1))]) (tgt := 5) dX8_basisOn_57 (by decide) ?_
        exact r_le (L' := [some (.ref b0), some (.int l1), some (.int l2), some (.int (l3 + 0)), some (.int (l4 + 1))]) ⟨rfl, ⟨rfl, ⟨rfl, ⟨rfl, ⟨rfl, trivial⟩⟩⟩⟩⟩ K0
      · have K0 := K0.2 q
        refine r_aload_n (pc := 39) dX8_basisOn_39 rfl ?_
        refine r_iload (pc := 40) dX8_basisOn_40 rfl ?_
        refine s_VI (pc := 42) mX8_basisOf (ci := 8) (a := b0) (As := [.int l4]) dX8_basisOn_42 lk_X8_71 in_X8_basisOf mo_X8_basisOf ⟨by decide, rfl⟩ ⟨by decide, by decide⟩ (Nat.le_of_ble_eq_true rfl) k_b0 (sr_X8_basisOf k_b0 g_b0_3 k_b0_3 p_3 ?_)
        refine s_SI (pc := 45) mX8_bits (As := [.int (bas (gi x b0_3) (l4 : Int32).toNatClampNeg)]) dX8_basisOn_45 lk_X8_296 st_X8_bits mo_X8_bits ⟨by decide, by decide⟩ (Nat.le_of_ble_eq_true rfl) (sp_X8_bits  ?_)
        refine r_goto (pc := 48) (tgt := 52) dX8_basisOn_48 (by decide) ?_
        refine r_iadd (pc := 52) dX8_basisOn_52 ?_
        refine r_istore_n (pc := 53) dX8_basisOn_53 (by decide) ?_
        refine r_iinc (pc := 54) (L := [some (.ref b0), some (.int l1), some (.int l2), some (.int (l3 + (nI (cpt (bas (gi x b0_3) (l4 : Int32).toNatClampNeg))))), some (.int l4)]) (v := l4 + 1) dX8_basisOn_54 rfl rfl (by decide) ?_
        refine r_goto (pc := 57) (L := [some (.ref b0), some (.int l1), some (.int l2), some (.int (l3 + (nI (cpt (bas (gi x b0_3) (l4 : Int32).toNatClampNeg))))), some (.int (l4 + 1))]) (tgt := 5) dX8_basisOn_57 (by decide) ?_
        exact r_le (L' := [some (.ref b0), some (.int l1), some (.int l2), some (.int (l3 + (nI (cpt (bas (gi x b0_3) (l4 : Int32).toNatClampNeg))))), some (.int (l4 + 1))]) ⟨rfl, ⟨rfl, ⟨rfl, ⟨rfl, ⟨rfl, trivial⟩⟩⟩⟩⟩ K0
section
variable {x : Cn} {Q : Int32 → Cn → Prop}
theorem sp_X8_basisOn {S : Nat} (M : MRf x 718) (h2 : gi x 718 2 = nI S) (hS : S ≤ 24) {c d : Int32} (hd : ¬ d = -1) (k : Q (bOf (gi x 718) S c d) x) : mSI mX8_basisOn [.ref 717, .int c, .int d] KW x Q := by
  refine v_X8_basisOn_0 (lp_acc (addS (fun s => so (gi x 718) s 0 = c ∧ (d = -1 ∨ so (gi x 718) s 1 = d)) (fun s => nI (cpt (bas (gi x 718) s)))) (fun s a => GI mX8_basisOn 5 [some (.ref 717), some (.int c), some (.int d), some (.int a), some (.int (nI s))] [] KW x Q) S 0 ?_ (fun s a hs n1 => ?_))
  · exact v_X8_basisOn_5 km M.1 km1 M.2.2.1 km1 ⟨v0 (k := 2) (by decide) rfl rfl, fun _ => k, fun z => absurd (by rw [h2]; exact Int32.le_refl _) z⟩
  · refine v_X8_basisOn_5 km M.1 km1 M.2.2.1 km1 ⟨v0 (k := 2) (by decide) rfl rfl, fun z => absurd (by rw [h2] at z; exact z) (nI_ge hs (by omega)), fun _ => ⟨l24_nI (by omega) rfl, ?_⟩⟩
    rw [nI_clamp (show s < 2 ^ 31 by omega), nI_1, Int32.add_zero]
    exact ⟨fun z => n1 _ (if_neg (fun g => z g.1)), fun z1 => ⟨fun z => n1 _ (if_neg (fun g => g.2.elim hd z)), fun z => n1 _ (if_pos ⟨z1, Or.inr z⟩)⟩⟩
end
set_option maxHeartbeats 2000000 in
theorem v_X8_allOf_0 {K : Sh} {x : Cn} {Q : Int32 → Cn → Prop} {b0 : Nat} {l1 : Int32} {l2 : Int32}   (K0 : GI mX8_allOf 5 [some (.ref b0), some (.int l1), some (.int l2), some (.int 0), some (.int 0)] [] K x Q) : mSI mX8_allOf [.ref b0, .int l1, .int l2] K x Q := by
  refine s_I (by decide) (by simp [Value.category]) (Nat.le_of_ble_eq_true rfl) ?_
  show mGM mX8_allOf 0 [some (.ref b0), some (.int l1), some (.int l2), none, none] [] (hp K x) (PI K Q)
  refine r_iconst (pc := 0) (v := 0) dX8_allOf_0 (by decide) ?_
  refine r_istore_n (pc := 1) dX8_allOf_1 (by decide) ?_
  refine r_iconst (pc := 2) (L := [some (.ref b0), some (.int l1), some (.int l2), some (.int 0), none]) (v := 0) dX8_allOf_2 (by decide) ?_
  refine r_istore (pc := 3) dX8_allOf_3 (by decide) ?_
  exact r_le (L' := [some (.ref b0), some (.int l1), some (.int l2), some (.int 0), some (.int 0)]) ⟨rfl, ⟨rfl, ⟨rfl, ⟨rfl, ⟨rfl, trivial⟩⟩⟩⟩⟩ K0
set_option maxHeartbeats 2000000 in
theorem v_X8_allOf_5 {K : Sh} {x : Cn} {Q : Int32 → Cn → Prop} {b0 : Nat} {l1 : Int32} {l2 : Int32} {l3 : Int32} {l4 : Int32} {b0_1 : Nat} {n_b0_1 : Nat} {b0_3 : Nat} {n_b0_3 : Nat} (k_b0 : kk K b0 = some (8, 0)) (g_b0_1 : gr x b0 1 = some b0_1) (k_b0_1 : kk K b0_1 = some (20, n_b0_1)) (g_b0_3 : gr x b0 3 = some b0_3) (k_b0_3 : kk K b0_3 = some (20, n_b0_3)) (K0 : vp_in 2 n_b0_1 ∧ (((gi x b0_1 2) ≤ l4 → (Q l3 x)) ∧ (¬ (gi x b0_1 2) ≤ l4 → ((l24 l4 n_b0_3) ∧ (((so (gi x b0_3) (l4 : Int32).toNatClampNeg 0) = l1 → ((l2 = 0 → (∀ r_6 : Int32, r_6 = (l3 + (nI (cpt (so (gi x b0_3) (l4 : Int32).toNatClampNeg 8 ||| so (gi x b0_3) (l4 : Int32).toNatClampNeg 10)))) → (GI mX8_allOf 5 [some (.ref b0), some (.int l1), some (.int l2), some (.int r_6), some (.int (l4 + 1))] [] K x Q))) ∧ (¬ l2 = 0 → (GI mX8_allOf 5 [some (.ref b0), some (.int l1), some (.int l2), some (.int (l3 + (nI (cpt (bas (gi x b0_3) (l4 : Int32).toNatClampNeg))))), some (.int (l4 + 1))] [] K x Q)))) ∧ (¬ (so (gi x b0_3) (l4 : Int32).toNatClampNeg 0) = l1 → (GI mX8_allOf 5 [some (.ref b0), some (.int l1), some (.int l2), some (.int (l3 + 0)), some (.int (l4 + 1))] [] K x Q))))))) : GI mX8_allOf 5 [some (.ref b0), some (.int l1), some (.int l2), some (.int l3), some (.int l4)] [] K x Q := by
  show mGM mX8_allOf 5 [some (.ref b0), some (.int l1), some (.int l2), some (.int l3), some (.int l4)] [] (hp K x) (PI K Q)
  refine r_iload (pc := 5) dX8_allOf_5 rfl ?_
  refine r_aload_n (pc := 7) dX8_allOf_7 rfl ?_
  refine s_getR (pc := 8) dX8_allOf_8 fl_X8_9 rfl k_b0 g_b0_1 ?_
  refine r_iconst (pc := 11) (v := 2) dX8_allOf_11 (by decide) ?_
  obtain ⟨i_1, K0⟩ := K0
  refine s_iald (pc := 12) dX8_allOf_12 k_b0_1 i_1 ?_
  refine r_icmp_ge (pc := 13) (tgt := 62) dX8_allOf_13 (by decide) (fun q => ?_) (fun q => ?_)
  · have K0 := K0.1 q
    refine r_iload_n (pc := 62) dX8_allOf_62 rfl ?_
    exact s_iret rfl dX8_allOf_63 K0
  · have K0 := K0.2 q
    refine r_iload_n (pc := 16) dX8_allOf_16 rfl ?_
    refine r_aload_n (pc := 17) dX8_allOf_17 rfl ?_
    refine r_iload (pc := 18) dX8_allOf_18 rfl ?_
    refine r_iconst (pc := 20) (v := 0) dX8_allOf_20 (by decide) ?_
    obtain ⟨p_3, K0⟩ := K0
    refine s_VI (pc := 21) mX8_one (ci := 8) (a := b0) (As := [.int l4, .int 0]) dX8_allOf_21 lk_X8_67 in_X8_one mo_X8_one ⟨by decide, rfl⟩ ⟨by decide, by decide⟩ (Nat.le_of_ble_eq_true rfl) k_b0 (sr_X8_one k_b0 g_b0_3 k_b0_3 p_3 ⟨by decide, by decide⟩ ?_)
    refine r_iload_n (pc := 24) dX8_allOf_24 rfl ?_
    refine r_icmp_eq (pc := 25) (tgt := 32) dX8_allOf_25 (by decide) (fun q => ?_) (fun q => ?_)
    · have K0 := K0.1 q
      refine r_iload_n (pc := 32) dX8_allOf_32 rfl ?_
      refine r_if_eq (pc := 33) (tgt := 48) dX8_allOf_33 (by decide) (fun q => ?_) (fun q => ?_)
      · have K0 := K0.1 q
        refine r_aload_n (pc := 48) dX8_allOf_48 rfl ?_
        refine r_iload (pc := 49) dX8_allOf_49 rfl ?_
        refine s_VI (pc := 51) mX8_goodOf (ci := 8) (a := b0) (As := [.int l4]) dX8_allOf_51 lk_X8_299 in_X8_goodOf mo_X8_goodOf ⟨by decide, rfl⟩ ⟨by decide, by decide⟩ (Nat.le_of_ble_eq_true rfl) k_b0 (sr_X8_goodOf k_b0 g_b0_3 k_b0_3 p_3 ?_)
        refine r_iadd (pc := 54) dX8_allOf_54 ?_
        obtain ⟨r_6, w_7⟩ : ∃ z : Int32, z = (l3 + (nI (cpt (so (gi x b0_3) (l4 : Int32).toNatClampNeg 8 ||| so (gi x b0_3) (l4 : Int32).toNatClampNeg 10)))) := ⟨_, rfl⟩
        rw [← w_7]
        have K0 := K0 r_6 w_7
        refine r_istore_n (pc := 55) dX8_allOf_55 (by decide) ?_
        refine r_iinc (pc := 56) (L := [some (.ref b0), some (.int l1), some (.int l2), some (.int r_6), some (.int l4)]) (v := l4 + 1) dX8_allOf_56 rfl rfl (by decide) ?_
        refine r_goto (pc := 59) (L := [some (.ref b0), some (.int l1), some (.int l2), some (.int r_6), some (.int (l4 + 1))]) (tgt := 5) dX8_allOf_59 (by decide) ?_
        exact r_le (L' := [some (.ref b0), some (.int l1), some (.int l2), some (.int r_6), some (.int (l4 + 1))]) ⟨rfl, ⟨rfl, ⟨rfl, ⟨rfl, ⟨rfl, trivial⟩⟩⟩⟩⟩ K0
      · have K0 := K0.2 q
        refine r_aload_n (pc := 36) dX8_allOf_36 rfl ?_
        refine r_iload (pc := 37) dX8_allOf_37 rfl ?_
        refine s_VI (pc := 39) mX8_basisOf (ci := 8) (a := b0) (As := [.int l4]) dX8_allOf_39 lk_X8_71 in_X8_basisOf mo_X8_basisOf ⟨by decide, rfl⟩ ⟨by decide, by decide⟩ (Nat.le_of_ble_eq_true rfl) k_b0 (sr_X8_basisOf k_b0 g_b0_3 k_b0_3 p_3 ?_)
        refine s_SI (pc := 42) mX8_bits (As := [.int (bas (gi x b0_3) (l4 : Int32).toNatClampNeg)]) dX8_allOf_42 lk_X8_296 st_X8_bits mo_X8_bits ⟨by decide, by decide⟩ (Nat.le_of_ble_eq_true rfl) (sp_X8_bits  ?_)
        refine r_goto (pc := 45) (tgt := 54) dX8_allOf_45 (by decide) ?_
        refine r_iadd (pc := 54) dX8_allOf_54 ?_
        refine r_istore_n (pc := 55) dX8_allOf_55 (by decide) ?_
        refine r_iinc (pc := 56) (L := [some (.ref b0), some (.int l1), some (.int l2), some (.int (l3 + (nI (cpt (bas (gi x b0_3) (l4 : Int32).toNatClampNeg))))), some (.int l4)]) (v := l4 + 1) dX8_allOf_56 rfl rfl (by decide) ?_
        refine r_goto (pc := 59) (L := [some (.ref b0), some (.int l1), some (.int l2), some (.int (l3 + (nI (cpt (bas (gi x b0_3) (l4 : Int32).toNatClampNeg))))), some (.int (l4 + 1))]) (tgt := 5) dX8_allOf_59 (by decide) ?_
        exact r_le (L' := [some (.ref b0), some (.int l1), some (.int l2), some (.int (l3 + (nI (cpt (bas (gi x b0_3) (l4 : Int32).toNatClampNeg))))), some (.int (l4 + 1))]) ⟨rfl, ⟨rfl, ⟨rfl, ⟨rfl, ⟨rfl, trivial⟩⟩⟩⟩⟩ K0
    · have K0 := K0.2 q
      refine r_iconst (pc := 28) (v := 0) dX8_allOf_28 (by decide) ?_
      refine r_goto (pc := 29) (tgt := 54) dX8_allOf_29 (by decide) ?_
      refine r_iadd (pc := 54) dX8_allOf_54 ?_
      refine r_istore_n (pc := 55) dX8_allOf_55 (by decide) ?_
      refine r_iinc (pc := 56) (L := [some (.ref b0), some (.int l1), some (.int l2), some (.int (l3 + 0)), some (.int l4)]) (v := l4 + 1) dX8_allOf_56 rfl rfl (by decide) ?_
      refine r_goto (pc := 59) (L := [some (.ref b0), some (.int l1), some (.int l2), some (.int (l3 + 0)), some (.int (l4 + 1))]) (tgt := 5) dX8_allOf_59 (by decide) ?_
      exact r_le (L' := [some (.ref b0), some (.int l1), some (.int l2), some (.int (l3 + 0)), some (.int (l4 + 1))]) ⟨rfl, ⟨rfl, ⟨rfl, ⟨rfl, ⟨rfl, trivial⟩⟩⟩⟩⟩ K0
section
variable {x : Cn} {Q : Int32 → Cn → Prop}
theorem sp_X8_allOf_1 {S : Nat} (M : MRf x 718) (h2 : gi x 718 2 = nI S) (hS : S ≤ 24) {c : Int32} (k : Q (bOf (gi x 718) S c (-1)) x) : mSI mX8_allOf [.ref 717, .int c, .int 1] KW x Q := by
  refine v_X8_allOf_0 (lp_acc (addS (fun s => so (gi x 718) s 0 = c ∧ ((-1 : Int32) = -1 ∨ so (gi x 718) s 1 = -1)) (fun s => nI (cpt (bas (gi x 718) s)))) (fun s a => GI mX8_allOf 5 [some (.ref 717), some (.int c), some (.int 1), some (.int a), some (.int (nI s))] [] KW x Q) S 0 ?_ (fun s a hs n1 => ?_))
  · exact v_X8_allOf_5 km M.1 km1 M.2.2.1 km1 ⟨v0 (k := 2) (by decide) rfl rfl, fun _ => k, fun z => absurd (by rw [h2]; exact Int32.le_refl _) z⟩
  · refine v_X8_allOf_5 km M.1 km1 M.2.2.1 km1 ⟨v0 (k := 2) (by decide) rfl rfl, fun z => absurd (by rw [h2] at z; exact z) (nI_ge hs (by omega)), fun _ => ⟨l24_nI (by omega) rfl, ?_⟩⟩
    rw [nI_clamp (show s < 2 ^ 31 by omega), nI_1, Int32.add_zero]
    exact ⟨fun z => ⟨fun w => absurd w (by decide), fun _ => n1 _ (if_pos ⟨z, Or.inl rfl⟩)⟩, fun z => n1 _ (if_neg (fun g => z g.1))⟩
theorem sp_X8_allOf_0 {S : Nat} (M : MRf x 718) (h2 : gi x 718 2 = nI S) (hS : S ≤ 24) {c : Int32} (k : Q (gOf (gi x 718) S c) x) : mSI mX8_allOf [.ref 717, .int c, .int 0] KW x Q := by
  refine v_X8_allOf_0 (lp_acc (addS (fun s => so (gi x 718) s 0 = c) (fun s => nI (cpt (so (gi x 718) s 8 ||| so (gi x 718) s 10)))) (fun s a => GI mX8_allOf 5 [some (.ref 717), some (.int c), some (.int 0), some (.int a), some (.int (nI s))] [] KW x Q) S 0 ?_ (fun s a hs n1 => ?_))
  · exact v_X8_allOf_5 km M.1 km1 M.2.2.1 km1 ⟨v0 (k := 2) (by decide) rfl rfl, fun _ => k, fun z => absurd (by rw [h2]; exact Int32.le_refl _) z⟩
  · refine v_X8_allOf_5 km M.1 km1 M.2.2.1 km1 ⟨v0 (k := 2) (by decide) rfl rfl, fun z => absurd (by rw [h2] at z; exact z) (nI_ge hs (by omega)), fun _ => ⟨l24_nI (by omega) rfl, ?_⟩⟩
    rw [nI_clamp (show s < 2 ^ 31 by omega), nI_1, Int32.add_zero]
    exact ⟨fun z => ⟨fun _ r er => n1 _ (by rw [er]; exact if_pos z), fun w => absurd (by decide) w⟩, fun z => n1 _ (if_neg z)⟩
/-- of two carriers the first uses more -/
def btr (T : TT) (S : Nat) (a b : Int32) : Prop := if bOf T S a (-1) = 0 ∨ bOf T S b (-1) = 0 then (bOf T S a (-1) ≠ bOf T S b (-1) ∧ 0 < bOf T S a (-1)) ∨ (bOf T S a (-1) = bOf T S b (-1) ∧ a < b) else (gOf T S b * bOf T S a (-1) < gOf T S a * bOf T S b (-1)) ∨ (gOf T S a * bOf T S b (-1) = gOf T S b * bOf T S a (-1) ∧ a < b)
end
set_option maxHeartbeats 2000000 in
theorem v_X7_usesMore_0 {K : Sh} {x : Cn} {Q : Int32 → Cn → Prop} {b0 : Nat} {l1 : Int32} {l2 : Int32} {b0_2 : Nat} (k_b0 : kk K b0 = some (7, 0)) (g_b0_2 : gr x b0 2 = some b0_2) (k_b0_2 : kk K b0_2 = some (4, 0)) (K0 : mSI mX4_basisOf [.ref b0_2, .int l1, .int (-1)] K x (fun r_2 y_1 => gr y_1 b0 2 = some b0_2 ∧ (mSI mX4_basisOf [.ref b0_2, .int l2, .int (-1)] K y_1 (fun r_5 y_4 => (r_2 = 0 → (GI mX7_usesMore 30 [some (.ref b0), some (.int l1), some (.int l2), some (.int r_2), some (.int r_5), none, none] [] K y_4 Q)) ∧ (¬ r_2 = 0 → ((¬ r_5 = 0 → (gr y_4 b0 2 = some b0_2 ∧ (mSI mX4_goodOf [.ref b0_2, .int l1] K y_4 (fun r_10 y_9 => gr y_9 b0 2 = some b0_2 ∧ (mSI mX4_goodOf [.ref b0_2, .int l2] K y_9 (fun r_13 y_12 => (¬ (r_10 * r_5) = (r_13 * r_2) → (((r_10 * r_5) ≤ (r_13 * r_2) → (Q 0 y_12)) ∧ (¬ (r_10 * r_5) ≤ (r_13 * r_2) → (Q 1 y_12)))) ∧ ((r_10 * r_5) = (r_13 * r_2) → ((l2 ≤ l1 → (Q 0 y_12)) ∧ (¬ l2 ≤ l1 → (Q 1 y_12)))))))))) ∧ (r_5 = 0 → (GI mX7_usesMore 30 [some (.ref b0), some (.int l1), some (.int l2), some (.int r_2), some (.int r_5), none, none] [] K y_4 Q)))))))) : mSI mX7_usesMore [.ref b0, .int l1, .int l2] K x Q := by
  refine s_I (by decide) (by simp [Value.category]) (Nat.le_of_ble_eq_true rfl) ?_
  show mGM mX7_usesMore 0 [some (.ref b0), some (.int l1), some (.int l2), none, none, none, none] [] (hp K x) (PI K Q)
  refine r_aload_n (pc := 0) dX7_usesMore_0 rfl ?_
  refine s_getR (pc := 1) dX7_usesMore_1 fl_X7_20 rfl k_b0 g_b0_2 ?_
  refine r_iload_n (pc := 4) dX7_usesMore_4 rfl ?_
  refine r_iconst (pc := 5) (v := (-1)) dX7_usesMore_5 (by decide) ?_
  refine s_VI (pc := 6) mX4_basisOf (ci := 4) (a := b0_2) (As := [.int l1, .int (-1)]) dX7_usesMore_6 lk_X7_263 in_X4_basisOf mo_X4_basisOf ⟨by decide, rfl⟩ ⟨by decide, by decide⟩ (Nat.le_of_ble_eq_true rfl) k_b0_2 (mSI_mono K0 (fun r_2 y_1 K0 => ?_))
  refine r_istore_n (pc := 9) dX7_usesMore_9 (by decide) ?_
  refine r_aload_n (pc := 10) (L := [some (.ref b0), some (.int l1), some (.int l2), some (.int r_2), none, none, none]) dX7_usesMore_10 rfl ?_
  obtain ⟨g_3, K0⟩ := K0
  refine s_getR (pc := 11) dX7_usesMore_11 fl_X7_20 rfl k_b0 g_3 ?_
  refine r_iload_n (pc := 14) dX7_usesMore_14 rfl ?_
  refine r_iconst (pc := 15) (v := (-1)) dX7_usesMore_15 (by decide) ?_
  refine s_VI (pc := 16) mX4_basisOf (ci := 4) (a := b0_2) (As := [.int l2, .int (-1)]) dX7_usesMore_16 lk_X7_263 in_X4_basisOf mo_X4_basisOf ⟨by decide, rfl⟩ ⟨by decide, by decide⟩ (Nat.le_of_ble_eq_true rfl) k_b0_2 (mSI_mono K0 (fun r_5 y_4 K0 => ?_))
  refine r_istore (pc := 19) dX7_usesMore_19 (by decide) ?_
  refine r_iload_n (pc := 21) (L := [some (.ref b0), some (.int l1), some (.int l2), some (.int r_2), some (.int r_5), none, none]) dX7_usesMore_21 rfl ?_
  refine r_if_eq (pc := 22) (tgt := 30) dX7_usesMore_22 (by decide) (fun q => ?_) (fun q => ?_)
  · have K0 := K0.1 q
    exact r_le (L' := [some (.ref b0), some (.int l1), some (.int l2), some (.int r_2), some (.int r_5), none, none]) ⟨rfl, ⟨rfl, ⟨rfl, ⟨rfl, ⟨rfl, trivial⟩⟩⟩⟩⟩ K0
  · have K0 := K0.2 q
    refine r_iload (pc := 25) dX7_usesMore_25 rfl ?_
    refine r_if_ne (pc := 27) (tgt := 59) dX7_usesMore_27 (by decide) (fun q => ?_) (fun q => ?_)
    · have K0 := K0.1 q
      refine r_aload_n (pc := 59) dX7_usesMore_59 rfl ?_
      obtain ⟨g_8, K0⟩ := K0
      refine s_getR (pc := 60) dX7_usesMore_60 fl_X7_20 rfl k_b0 g_8 ?_
      refine r_iload_n (pc := 63) dX7_usesMore_63 rfl ?_
      refine s_VI (pc := 64) mX4_goodOf (ci := 4) (a := b0_2) (As := [.int l1]) dX7_usesMore_64 lk_X7_387 in_X4_goodOf mo_X4_goodOf ⟨by decide, rfl⟩ ⟨by decide, by decide⟩ (Nat.le_of_ble_eq_true rfl) k_b0_2 (mSI_mono K0 (fun r_10 y_9 K0 => ?_))
      refine r_iload (pc := 67) dX7_usesMore_67 rfl ?_
      refine r_imul (pc := 69) dX7_usesMore_69 ?_
      refine r_istore (pc := 70) dX7_usesMore_70 (by decide) ?_
      refine r_aload_n (pc := 72) (L := [some (.ref b0), some (.int l1), some (.int l2), some (.int r_2), some (.int r_5), some (.int (r_10 * r_5)), none]) dX7_usesMore_72 rfl ?_
      obtain ⟨g_11, K0⟩ := K0
      refine s_getR (pc := 73) dX7_usesMore_73 fl_X7_20 rfl k_b0 g_11 ?_
      refine r_iload_n (pc := 76) dX7_usesMore_76 rfl ?_
      refine s_VI (pc := 77) mX4_goodOf (ci := 4) (a := b0_2) (As := [.int l2]) dX7_usesMore_77 lk_X7_387 in_X4_goodOf mo_X4_goodOf ⟨by decide, rfl⟩ ⟨by decide, by decide⟩ (Nat.le_of_ble_eq_true rfl) k_b0_2 (mSI_mono K0 (fun r_13 y_12 K0 => ?_))
      refine r_iload_n (pc := 80) dX7_usesMore_80 rfl ?_
      refine r_imul (pc := 81) dX7_usesMore_81 ?_
      refine r_istore (pc := 82) dX7_usesMore_82 (by decide) ?_
      refine r_iload (pc := 84) (L := [some (.ref b0), some (.int l1), some (.int l2), some (.int r_2), some (.int r_5), some (.int (r_10 * r_5)), some (.int (r_13 * r_2))]) dX7_usesMore_84 rfl ?_
      refine r_iload (pc := 86) dX7_usesMore_86 rfl ?_
      refine r_icmp_ne (pc := 88) (tgt := 104) dX7_usesMore_88 (by decide) (fun q => ?_) (fun q => ?_)
      · have K0 := K0.1 q
        refine r_iload (pc := 104) dX7_usesMore_104 rfl ?_
        refine r_iload (pc := 106) dX7_usesMore_106 rfl ?_
        refine r_icmp_le (pc := 108) (tgt := 115) dX7_usesMore_108 (by decide) (fun q => ?_) (fun q => ?_)
        · have K0 := K0.1 q
          refine r_iconst (pc := 115) (v := 0) dX7_usesMore_115 (by decide) ?_
          exact s_zret rfl (by decide) dX7_usesMore_116 K0
        · have K0 := K0.2 q
          refine r_iconst (pc := 111) (v := 1) dX7_usesMore_111 (by decide) ?_
          refine r_goto (pc := 112) (tgt := 116) dX7_usesMore_112 (by decide) ?_
          exact s_zret rfl (by decide) dX7_usesMore_116 K0
      · have K0 := K0.2 q
        refine r_iload_n (pc := 91) dX7_usesMore_91 rfl ?_
        refine r_iload_n (pc := 92) dX7_usesMore_92 rfl ?_
        refine r_icmp_ge (pc := 93) (tgt := 100) dX7_usesMore_93 (by decide) (fun q => ?_) (fun q => ?_)
        · have K0 := K0.1 q
          refine r_iconst (pc := 100) (v := 0) dX7_usesMore_100 (by decide) ?_
          refine r_goto (pc := 101) (tgt := 116) dX7_usesMore_101 (by decide) ?_
          exact s_zret rfl (by decide) dX7_usesMore_116 K0
        · have K0 := K0.2 q
          refine r_iconst (pc := 96) (v := 1) dX7_usesMore_96 (by decide) ?_
          refine r_goto (pc := 97) (tgt := 116) dX7_usesMore_97 (by decide) ?_
          exact s_zret rfl (by decide) dX7_usesMore_116 K0
    · have K0 := K0.2 q
      exact r_le (L' := [some (.ref b0), some (.int l1), some (.int l2), some (.int r_2), some (.int r_5), none, none]) ⟨rfl, ⟨rfl, ⟨rfl, ⟨rfl, ⟨rfl, trivial⟩⟩⟩⟩⟩ K0
set_option maxHeartbeats 2000000 in
theorem v_X7_usesMore_30 {K : Sh} {x : Cn} {Q : Int32 → Cn → Prop} {b0 : Nat} {l1 : Int32} {l2 : Int32} {l3 : Int32} {l4 : Int32}   (K0 : (¬ l3 = l4 → ((l3 ≤ 0 → (Q 0 x)) ∧ (¬ l3 ≤ 0 → (Q 1 x)))) ∧ (l3 = l4 → ((l2 ≤ l1 → (Q 0 x)) ∧ (¬ l2 ≤ l1 → (Q 1 x))))) : GI mX7_usesMore 30 [some (.ref b0), some (.int l1), some (.int l2), some (.int l3), some (.int l4), none, none] [] K x Q := by
  show mGM mX7_usesMore 30 [some (.ref b0), some (.int l1), some (.int l2), some (.int l3), some (.int l4), none, none] [] (hp K x) (PI K Q)
  refine r_iload_n (pc := 30) dX7_usesMore_30 rfl ?_
  refine r_iload (pc := 31) dX7_usesMore_31 rfl ?_
  refine r_icmp_ne (pc := 33) (tgt := 49) dX7_usesMore_33 (by decide) (fun q => ?_) (fun q => ?_)
  · have K0 := K0.1 q
    refine r_iload_n (pc := 49) dX7_usesMore_49 rfl ?_
    refine r_if_le (pc := 50) (tgt := 57) dX7_usesMore_50 (by decide) (fun q => ?_) (fun q => ?_)
    · have K0 := K0.1 q
      refine r_iconst (pc := 57) (v := 0) dX7_usesMore_57 (by decide) ?_
      exact s_zret rfl (by decide) dX7_usesMore_58 K0
    · have K0 := K0.2 q
      refine r_iconst (pc := 53) (v := 1) dX7_usesMore_53 (by decide) ?_
      refine r_goto (pc := 54) (tgt := 58) dX7_usesMore_54 (by decide) ?_
      exact s_zret rfl (by decide) dX7_usesMore_58 K0
  · have K0 := K0.2 q
    refine r_iload_n (pc := 36) dX7_usesMore_36 rfl ?_
    refine r_iload_n (pc := 37) dX7_usesMore_37 rfl ?_
    refine r_icmp_ge (pc := 38) (tgt := 45) dX7_usesMore_38 (by decide) (fun q => ?_) (fun q => ?_)
    · have K0 := K0.1 q
      refine r_iconst (pc := 45) (v := 0) dX7_usesMore_45 (by decide) ?_
      refine r_goto (pc := 46) (tgt := 58) dX7_usesMore_46 (by decide) ?_
      exact s_zret rfl (by decide) dX7_usesMore_58 K0
    · have K0 := K0.2 q
      refine r_iconst (pc := 41) (v := 1) dX7_usesMore_41 (by decide) ?_
      refine r_goto (pc := 42) (tgt := 58) dX7_usesMore_42 (by decide) ?_
      exact s_zret rfl (by decide) dX7_usesMore_58 K0
section
variable {x : Cn} {Q : Int32 → Cn → Prop}
theorem sp_X7_usesMore {x : Cn} {Q : Int32 → Cn → Prop} {T : TT} {W C S A N : Nat} (c1 : CRf x) (E : SEA x 2 T W C S A N) {a b : Int32} (k : Q (bP (btr T S a b)) x) : mSI mX7_usesMore [.ref 0, .int a, .int b] KW x Q := by
  have k2 := bP_k k
  have mid : (bOf T S a (-1) = 0 ∨ bOf T S b (-1) = 0) → GI mX7_usesMore 30 [some (.ref 0), some (.int a), some (.int b), some (.int (bOf T S a (-1))), some (.int (bOf T S b (-1))), none, none] [] KW x Q := by
    intro z
    unfold btr at k2
    rw [if_pos z] at k2
    refine v_X7_usesMore_30 ⟨fun w => ⟨fun w2 => k2.2 ?_, fun w2 => k2.1 (Or.inl ⟨w, Int32.not_le.mp w2⟩)⟩, fun w => ⟨fun w2 => k2.2 ?_, fun w2 => k2.1 (Or.inr ⟨w, Int32.not_le.mp w2⟩)⟩⟩
    · rintro (u | u)
      · exact Int32.not_le.mpr u.2 w2
      · exact w u.1
    · rintro (u | u)
      · exact u.1 w
      · exact Int32.not_le.mpr u.2 w2
  refine v_X7_usesMore_0 k0 c1.2.1 (ks0 E.1) (sp_X4_basisOf E ⟨c1.2.1, sp_X4_basisOf E ⟨fun z => mid (Or.inl z), fun z => ⟨fun z2 => ⟨c1.2.1, sp_X4_goodOf E ⟨c1.2.1, sp_X4_goodOf E ?_⟩⟩, fun z2 => mid (Or.inr z2)⟩⟩⟩)
  unfold btr at k2
  rw [if_neg (fun u => u.elim z z2)] at k2
  refine ⟨fun w => ⟨fun w2 => k2.2 ?_, fun w2 => k2.1 (Or.inl (Int32.not_le.mp w2))⟩, fun w => ⟨fun w2 => k2.2 ?_, fun w2 => k2.1 (Or.inr ⟨w, Int32.not_le.mp w2⟩)⟩⟩
  · rintro (u | u)
    · exact Int32.not_le.mpr u w2
    · exact w u.1
  · rintro (u | u)
    · rw [w] at u
      exact Int32.lt_irrefl u
    · exact Int32.not_le.mpr u.2 w2
theorem dif_sgn {a b : Nat} (ha : a < 2 ^ 30) (hb : b < 2 ^ 30) : (0 < nI a - nI b ↔ nI b < nI a) ∧ (nI a - nI b = 0 ↔ nI a = nI b) := by
  have e := pk_sub_toInt ha hb
  refine ⟨?_, ?_⟩
  · rw [Int32.lt_iff_toInt_lt, e, nI_ltI (by omega) (by omega)]
    show (0 : Int) < _ ↔ _
    omega
  · rw [← Int32.toInt_inj, e, nI_eq (by omega) (by omega)]
    show _ = (0 : Int) ↔ _
    omega
end
set_option maxHeartbeats 2000000 in
theorem v_X8_isBetter_0 {K : Sh} {x : Cn} {Q : Int32 → Cn → Prop} {b0 : Nat} {l1 : Int32} {l2 : Int32}  (k_b0 : kk K b0 = some (8, 0)) (K0 : mSI mX8_allOf [.ref b0, .int l1, .int 1] K x (fun r_2 y_1 => mSI mX8_allOf [.ref b0, .int l2, .int 1] K y_1 (fun r_4 y_3 => (r_2 = 0 → (GI mX8_isBetter 24 [some (.ref b0), some (.int l1), some (.int l2), some (.int r_2), some (.int r_4), none] [] K y_3 Q)) ∧ (¬ r_2 = 0 → ((¬ r_4 = 0 → (mSI mX8_allOf [.ref b0, .int l1, .int 0] K y_3 (fun r_8 y_7 => mSI mX8_allOf [.ref b0, .int l2, .int 0] K y_7 (fun r_10 y_9 => (0 < ((r_8 * r_4) - (r_10 * r_2)) → (Q 1 y_9)) ∧ (¬ 0 < ((r_8 * r_4) - (r_10 * r_2)) → ((¬ ((r_8 * r_4) - (r_10 * r_2)) = 0 → (Q 0 y_9)) ∧ (((r_8 * r_4) - (r_10 * r_2)) = 0 → ((l2 ≤ l1 → (Q 0 y_9)) ∧ (¬ l2 ≤ l1 → (Q 1 y_9)))))))))) ∧ (r_4 = 0 → (GI mX8_isBetter 24 [some (.ref b0), some (.int l1), some (.int l2), some (.int r_2), some (.int r_4), none] [] K y_3 Q))))))) : mSI mX8_isBetter [.ref b0, .int l1, .int l2] K x Q := by
  refine s_I (by decide) (by simp [Value.category]) (Nat.le_of_ble_eq_true rfl) ?_
  show mGM mX8_isBetter 0 [some (.ref b0), some (.int l1), some (.int l2), none, none, none] [] (hp K x) (PI K Q)
  refine r_aload_n (pc := 0) dX8_isBetter_0 rfl ?_
  refine r_iload_n (pc := 1) dX8_isBetter_1 rfl ?_
  refine r_iconst (pc := 2) (v := 1) dX8_isBetter_2 (by decide) ?_
  refine s_VI (pc := 3) mX8_allOf (ci := 8) (a := b0) (As := [.int l1, .int 1]) dX8_isBetter_3 lk_X8_316 in_X8_allOf mo_X8_allOf ⟨by decide, rfl⟩ ⟨by decide, by decide⟩ (Nat.le_of_ble_eq_true rfl) k_b0 (mSI_mono K0 (fun r_2 y_1 K0 => ?_))
  refine r_istore_n (pc := 6) dX8_isBetter_6 (by decide) ?_
  refine r_aload_n (pc := 7) (L := [some (.ref b0), some (.int l1), some (.int l2), some (.int r_2), none, none]) dX8_isBetter_7 rfl ?_
  refine r_iload_n (pc := 8) dX8_isBetter_8 rfl ?_
  refine r_iconst (pc := 9) (v := 1) dX8_isBetter_9 (by decide) ?_
  refine s_VI (pc := 10) mX8_allOf (ci := 8) (a := b0) (As := [.int l2, .int 1]) dX8_isBetter_10 lk_X8_316 in_X8_allOf mo_X8_allOf ⟨by decide, rfl⟩ ⟨by decide, by decide⟩ (Nat.le_of_ble_eq_true rfl) k_b0 (mSI_mono K0 (fun r_4 y_3 K0 => ?_))
  refine r_istore (pc := 13) dX8_isBetter_13 (by decide) ?_
  refine r_iload_n (pc := 15) (L := [some (.ref b0), some (.int l1), some (.int l2), some (.int r_2), some (.int r_4), none]) dX8_isBetter_15 rfl ?_
  refine r_if_eq (pc := 16) (tgt := 24) dX8_isBetter_16 (by decide) (fun q => ?_) (fun q => ?_)
  · have K0 := K0.1 q
    exact r_le (L' := [some (.ref b0), some (.int l1), some (.int l2), some (.int r_2), some (.int r_4), none]) ⟨rfl, ⟨rfl, ⟨rfl, ⟨rfl, ⟨rfl, trivial⟩⟩⟩⟩⟩ K0
  · have K0 := K0.2 q
    refine r_iload (pc := 19) dX8_isBetter_19 rfl ?_
    refine r_if_ne (pc := 21) (tgt := 44) dX8_isBetter_21 (by decide) (fun q => ?_) (fun q => ?_)
    · have K0 := K0.1 q
      refine r_aload_n (pc := 44) dX8_isBetter_44 rfl ?_
      refine r_iload_n (pc := 45) dX8_isBetter_45 rfl ?_
      refine r_iconst (pc := 46) (v := 0) dX8_isBetter_46 (by decide) ?_
      refine s_VI (pc := 47) mX8_allOf (ci := 8) (a := b0) (As := [.int l1, .int 0]) dX8_isBetter_47 lk_X8_316 in_X8_allOf mo_X8_allOf ⟨by decide, rfl⟩ ⟨by decide, by decide⟩ (Nat.le_of_ble_eq_true rfl) k_b0 (mSI_mono K0 (fun r_8 y_7 K0 => ?_))
      refine r_iload (pc := 50) dX8_isBetter_50 rfl ?_
      refine r_imul (pc := 52) dX8_isBetter_52 ?_
      refine r_aload_n (pc := 53) dX8_isBetter_53 rfl ?_
      refine r_iload_n (pc := 54) dX8_isBetter_54 rfl ?_
      refine r_iconst (pc := 55) (v := 0) dX8_isBetter_55 (by decide) ?_
      refine s_VI (pc := 56) mX8_allOf (ci := 8) (a := b0) (As := [.int l2, .int 0]) dX8_isBetter_56 lk_X8_316 in_X8_allOf mo_X8_allOf ⟨by decide, rfl⟩ ⟨by decide, by decide⟩ (Nat.le_of_ble_eq_true rfl) k_b0 (mSI_mono K0 (fun r_10 y_9 K0 => ?_))
      refine r_iload_n (pc := 59) dX8_isBetter_59 rfl ?_
      refine r_imul (pc := 60) dX8_isBetter_60 ?_
      refine r_isub (pc := 61) dX8_isBetter_61 ?_
      refine r_istore (pc := 62) dX8_isBetter_62 (by decide) ?_
      refine r_iload (pc := 64) (L := [some (.ref b0), some (.int l1), some (.int l2), some (.int r_2), some (.int r_4), some (.int ((r_8 * r_4) - (r_10 * r_2)))]) dX8_isBetter_64 rfl ?_
      refine r_if_gt (pc := 66) (tgt := 79) dX8_isBetter_66 (by decide) (fun q => ?_) (fun q => ?_)
      · have K0 := K0.1 q
        refine r_iconst (pc := 79) (v := 1) dX8_isBetter_79 (by decide) ?_
        refine r_goto (pc := 80) (tgt := 84) dX8_isBetter_80 (by decide) ?_
        exact s_zret rfl (by decide) dX8_isBetter_84 K0
      · have K0 := K0.2 q
        refine r_iload (pc := 69) dX8_isBetter_69 rfl ?_
        refine r_if_ne (pc := 71) (tgt := 83) dX8_isBetter_71 (by decide) (fun q => ?_) (fun q => ?_)
        · have K0 := K0.1 q
          refine r_iconst (pc := 83) (v := 0) dX8_isBetter_83 (by decide) ?_
          exact s_zret rfl (by decide) dX8_isBetter_84 K0
        · have K0 := K0.2 q
          refine r_iload_n (pc := 74) dX8_isBetter_74 rfl ?_
          refine r_iload_n (pc := 75) dX8_isBetter_75 rfl ?_
          refine r_icmp_ge (pc := 76) (tgt := 83) dX8_isBetter_76 (by decide) (fun q => ?_) (fun q => ?_)
          · have K0 := K0.1 q
            refine r_iconst (pc := 83) (v := 0) dX8_isBetter_83 (by decide) ?_
            exact s_zret rfl (by decide) dX8_isBetter_84 K0
          · have K0 := K0.2 q
            refine r_iconst (pc := 79) (v := 1) dX8_isBetter_79 (by decide) ?_
            refine r_goto (pc := 80) (tgt := 84) dX8_isBetter_80 (by decide) ?_
            exact s_zret rfl (by decide) dX8_isBetter_84 K0
    · have K0 := K0.2 q
      exact r_le (L' := [some (.ref b0), some (.int l1), some (.int l2), some (.int r_2), some (.int r_4), none]) ⟨rfl, ⟨rfl, ⟨rfl, ⟨rfl, ⟨rfl, trivial⟩⟩⟩⟩⟩ K0
set_option maxHeartbeats 2000000 in
theorem v_X8_isBetter_24 {K : Sh} {x : Cn} {Q : Int32 → Cn → Prop} {b0 : Nat} {l1 : Int32} {l2 : Int32} {l3 : Int32} {l4 : Int32}   (K0 : (0 < l3 → (Q 1 x)) ∧ (¬ 0 < l3 → ((¬ l4 = 0 → (Q 0 x)) ∧ (l4 = 0 → ((l2 ≤ l1 → (Q 0 x)) ∧ (¬ l2 ≤ l1 → (Q 1 x))))))) : GI mX8_isBetter 24 [some (.ref b0), some (.int l1), some (.int l2), some (.int l3), some (.int l4), none] [] K x Q := by
  show mGM mX8_isBetter 24 [some (.ref b0), some (.int l1), some (.int l2), some (.int l3), some (.int l4), none] [] (hp K x) (PI K Q)
  refine r_iload_n (pc := 24) dX8_isBetter_24 rfl ?_
  refine r_if_gt (pc := 25) (tgt := 38) dX8_isBetter_25 (by decide) (fun q => ?_) (fun q => ?_)
  · have K0 := K0.1 q
    refine r_iconst (pc := 38) (v := 1) dX8_isBetter_38 (by decide) ?_
    refine r_goto (pc := 39) (tgt := 43) dX8_isBetter_39 (by decide) ?_
    exact s_zret rfl (by decide) dX8_isBetter_43 K0
  · have K0 := K0.2 q
    refine r_iload (pc := 28) dX8_isBetter_28 rfl ?_
    refine r_if_ne (pc := 30) (tgt := 42) dX8_isBetter_30 (by decide) (fun q => ?_) (fun q => ?_)
    · have K0 := K0.1 q
      refine r_iconst (pc := 42) (v := 0) dX8_isBetter_42 (by decide) ?_
      exact s_zret rfl (by decide) dX8_isBetter_43 K0
    · have K0 := K0.2 q
      refine r_iload_n (pc := 33) dX8_isBetter_33 rfl ?_
      refine r_iload_n (pc := 34) dX8_isBetter_34 rfl ?_
      refine r_icmp_ge (pc := 35) (tgt := 42) dX8_isBetter_35 (by decide) (fun q => ?_) (fun q => ?_)
      · have K0 := K0.1 q
        refine r_iconst (pc := 42) (v := 0) dX8_isBetter_42 (by decide) ?_
        exact s_zret rfl (by decide) dX8_isBetter_43 K0
      · have K0 := K0.2 q
        refine r_iconst (pc := 38) (v := 1) dX8_isBetter_38 (by decide) ?_
        refine r_goto (pc := 39) (tgt := 43) dX8_isBetter_39 (by decide) ?_
        exact s_zret rfl (by decide) dX8_isBetter_43 K0
section
variable {x : Cn} {Q : Int32 → Cn → Prop}
theorem sp_X8_isBetter {x : Cn} {Q : Int32 → Cn → Prop} {S : Nat} (M : MRf x 718) (h2 : gi x 718 2 = nI S) (hS : S ≤ 24) {a b : Int32} (k : Q (bP (btr (gi x 718) S a b)) x) : mSI mX8_isBetter [.ref 717, .int a, .int b] KW x Q := by
  have k2 := bP_k k
  obtain ⟨n1, hn1, e1⟩ := bOf_bd (gi x 718) S a (-1)
  obtain ⟨n2, hn2, e2⟩ := bOf_bd (gi x 718) S b (-1)
  obtain ⟨n3, hn3, e3⟩ := gOf_bd (gi x 718) S a
  obtain ⟨n4, hn4, e4⟩ := gOf_bd (gi x 718) S b
  have mid : (bOf (gi x 718) S a (-1) = 0 ∨ bOf (gi x 718) S b (-1) = 0) → GI mX8_isBetter 24 [some (.ref 717), some (.int a), some (.int b), some (.int (bOf (gi x 718) S a (-1))), some (.int (bOf (gi x 718) S b (-1))), none] [] KW x Q := by
    intro z
    unfold btr at k2
    rw [if_pos z] at k2
    have hp : ∀ {n : Nat}, n ≤ 32 * S → ¬ 0 < nI n → nI n = 0 := fun h g => Int32.le_antisymm (Int32.not_lt.mp g) (nI_pos' (by omega))
    refine v_X8_isBetter_24 ⟨fun w => k2.1 ?_, fun w => ⟨fun w2 => k2.2 ?_, fun w2 => ⟨fun w3 => k2.2 ?_, fun w3 => k2.1 ?_⟩⟩⟩
    · refine Or.inl ⟨fun u => ?_, w⟩
      rcases z with z | z
      · rw [z] at w
        exact Int32.lt_irrefl w
      · rw [u, z] at w
        exact Int32.lt_irrefl w
    · have hz : bOf (gi x 718) S a (-1) = 0 := by rw [e1] at w ⊢; exact hp hn1 w
      rintro (u | u)
      · exact w u.2
      · exact w2 (by rw [← u.1]; exact hz)
    · have hz : bOf (gi x 718) S a (-1) = 0 := by rw [e1] at w ⊢; exact hp hn1 w
      rintro (u | u)
      · exact w u.2
      · exact Int32.not_le.mpr u.2 w3
    · have hz : bOf (gi x 718) S a (-1) = 0 := by rw [e1] at w ⊢; exact hp hn1 w
      exact Or.inr ⟨by rw [hz, w2], Int32.not_le.mp w3⟩
  refine v_X8_isBetter_0 km (sp_X8_allOf_1 M h2 hS (sp_X8_allOf_1 M h2 hS ⟨fun z => mid (Or.inl z), fun z => ⟨fun z2 => sp_X8_allOf_0 M h2 hS (sp_X8_allOf_0 M h2 hS ?_), fun z2 => mid (Or.inr z2)⟩⟩))
  unfold btr at k2
  rw [if_neg (fun u => u.elim z z2)] at k2
  rw [e1, e2, e3, e4] at k2 ⊢
  rw [pk_mul, pk_mul] at k2 ⊢
  have hS2 : 32 * S ≤ 768 := by omega
  have b1 : n3 * n2 < 2 ^ 30 := Nat.lt_of_le_of_lt (Nat.mul_le_mul (Nat.le_trans hn3 hS2) (Nat.le_trans hn2 hS2)) (by decide)
  have b2 : n4 * n1 < 2 ^ 30 := Nat.lt_of_le_of_lt (Nat.mul_le_mul (Nat.le_trans hn4 hS2) (Nat.le_trans hn1 hS2)) (by decide)
  have hd := dif_sgn b1 b2
  rw [hd.1, hd.2]
  refine ⟨fun w => k2.1 (Or.inl w), fun w => ⟨fun w2 => k2.2 ?_, fun w2 => ⟨fun w3 => k2.2 ?_, fun w3 => k2.1 (Or.inr ⟨w2, Int32.not_le.mp w3⟩)⟩⟩⟩
  · rintro (u | u)
    · exact w u
    · exact w2 u.1
  · rintro (u | u)
    · exact w u
    · exact Int32.not_le.mpr u.2 w3

end
end
/-! 37.reads5.lean.txt -/
section
abbrev c_of (T : TT) (a b : Int32) (s : Nat) : Prop := so T s 0 = a ∧ (b = -1 ∨ so T s 1 = b)
def stL (T : TT) (s : Nat) : Nat → Int32 × Int32 → Int32 × Int32 := fun w a => if tb (so T s 9) w = true then ((if a.1 < (a.2 + 1) then (a.2 + 1) else a.1), a.2 + 1) else ((if a.1 < 0 then 0 else a.1), 0)
noncomputable def ahd (T : TT) (S : Nat) (c : Nat) : Nat → Int32 → Int32 := fun d a => if d = c then a else a + bP (btr T S (nI d) (nI c))
noncomputable def stB (T : TT) (S C : Nat) (k : Int32) : Nat → Unit → Unit ⊕ Int32 := fun c _ => if accT (ahd T S c) C 0 = k then .inr (nI c) else .inl ()
abbrev cMo (T : TT) (S : Nat) (day : Int32) (c d : Nat) : Prop := bOf T S (nI c) day < bOf T S (nI d) day ∨ (bOf T S (nI d) day = bOf T S (nI c) day ∧ d < c)
def stM (T : TT) (S C : Nat) (day k : Int32) : Nat → Unit → Unit ⊕ Int32 := fun c _ => if accT (inc (cMo T S day c)) C 0 = k then .inr (nI c) else .inl ()
set_option maxHeartbeats 2000000 in
theorem v_X7_of_0 {K : Sh} {x : Cn} {Q : Int32 → Cn → Prop} {b0 : Nat} {l1 : Int32} {l2 : Int32} {b0_3 : Nat} {b0_2 : Nat} (k_b0 : kk K b0 = some (7, 0)) (g_b0_3 : gr x b0 3 = some b0_3) (k_b0_3 : kk K b0_3 = some (1, 0)) (g_b0_2 : gr x b0 2 = some b0_2) (k_b0_2 : kk K b0_2 = some (4, 0)) (K0 : (¬ (0 ≤ l1 ∧ l1 < gi x b0_3 0) → (Q (-2) x)) ∧ ((0 ≤ l1 ∧ l1 < gi x b0_3 0) → ((l2 = (-1) → (GI mX7_of 29 [some (.ref b0), some (.int l1), some (.int l2), some (.int 0), some (.int 0)] [] K x Q)) ∧ (¬ l2 = (-1) → (((0 < gi x b0_2 0 ∧ 0 ≤ l2 ∧ l2 < 7) → (GI mX7_of 29 [some (.ref b0), some (.int l1), some (.int l2), some (.int 0), some (.int 0)] [] K x Q)) ∧ (¬ (0 < gi x b0_2 0 ∧ 0 ≤ l2 ∧ l2 < 7) → (Q (-2) x))))))) : mSI mX7_of [.ref b0, .int l1, .int l2] K x Q := by
  refine s_I (by decide) (by simp [Value.category]) (Nat.le_of_ble_eq_true rfl) ?_
  show mGM mX7_of 0 [some (.ref b0), some (.int l1), some (.int l2), none, none] [] (hp K x) (PI K Q)
  refine r_aload_n (pc := 0) dX7_of_0 rfl ?_
  refine r_iload_n (pc := 1) dX7_of_1 rfl ?_
  refine s_VI (pc := 2) mX7_isCarrier (ci := 7) (a := b0) (As := [.int l1]) dX7_of_2 lk_X7_109 in_X7_isCarrier mo_X7_isCarrier ⟨by decide, rfl⟩ ⟨by decide, by decide⟩ (Nat.le_of_ble_eq_true rfl) k_b0 (sp_X7_isCarrier k_b0 g_b0_3 k_b0_3 ?_)
  refine r_if_eq (pc := 5) (tgt := 21) dX7_of_5 (by decide) (fun q => ?_) (fun q => ?_)
  · have q := (b2i_z _).mp q
    have K0 := K0.1 q
    refine r_bipush (pc := 21) (v := (-2)) dX7_of_21 (by decide) ?_
    exact s_iret rfl dX7_of_23 K0
  · have q := b2i_nz q
    have K0 := K0.2 q
    refine r_iload_n (pc := 8) dX7_of_8 rfl ?_
    refine r_iconst (pc := 9) (v := (-1)) dX7_of_9 (by decide) ?_
    refine r_icmp_eq (pc := 10) (tgt := 24) dX7_of_10 (by decide) (fun q => ?_) (fun q => ?_)
    · have K0 := K0.1 q
      refine r_iconst (pc := 24) (v := 0) dX7_of_24 (by decide) ?_
      refine r_istore_n (pc := 25) dX7_of_25 (by decide) ?_
      refine r_iconst (pc := 26) (L := [some (.ref b0), some (.int l1), some (.int l2), some (.int 0), none]) (v := 0) dX7_of_26 (by decide) ?_
      refine r_istore (pc := 27) dX7_of_27 (by decide) ?_
      exact r_le (L' := [some (.ref b0), some (.int l1), some (.int l2), some (.int 0), some (.int 0)]) ⟨rfl, ⟨rfl, ⟨rfl, ⟨rfl, ⟨rfl, trivial⟩⟩⟩⟩⟩ K0
    · have K0 := K0.2 q
      refine r_aload_n (pc := 13) dX7_of_13 rfl ?_
      refine r_iload_n (pc := 14) dX7_of_14 rfl ?_
      refine s_VI (pc := 15) mX7_isDay (ci := 7) (a := b0) (As := [.int l2]) dX7_of_15 lk_X7_245 in_X7_isDay mo_X7_isDay ⟨by decide, rfl⟩ ⟨by decide, by decide⟩ (Nat.le_of_ble_eq_true rfl) k_b0 (sp_X7_isDay k_b0 g_b0_2 k_b0_2 ?_)
      refine r_if_ne (pc := 18) (tgt := 24) dX7_of_18 (by decide) (fun q => ?_) (fun q => ?_)
      · have q := b2i_nz q
        have K0 := K0.1 q
        refine r_iconst (pc := 24) (v := 0) dX7_of_24 (by decide) ?_
        refine r_istore_n (pc := 25) dX7_of_25 (by decide) ?_
        refine r_iconst (pc := 26) (L := [some (.ref b0), some (.int l1), some (.int l2), some (.int 0), none]) (v := 0) dX7_of_26 (by decide) ?_
        refine r_istore (pc := 27) dX7_of_27 (by decide) ?_
        exact r_le (L' := [some (.ref b0), some (.int l1), some (.int l2), some (.int 0), some (.int 0)]) ⟨rfl, ⟨rfl, ⟨rfl, ⟨rfl, ⟨rfl, trivial⟩⟩⟩⟩⟩ K0
      · have q := (b2i_z _).mp q
        have K0 := K0.2 q
        refine r_bipush (pc := 21) (v := (-2)) dX7_of_21 (by decide) ?_
        exact s_iret rfl dX7_of_23 K0
set_option maxHeartbeats 2000000 in
theorem v_X7_of_29 {K : Sh} {x : Cn} {Q : Int32 → Cn → Prop} {b0 : Nat} {l1 : Int32} {l2 : Int32} {l3 : Int32} {l4 : Int32} {b0_2 : Nat} {b0_2_7 : Nat} {n_b0_2_7 : Nat} (k_b0 : kk K b0 = some (7, 0)) (g_b0_2 : gr x b0 2 = some b0_2) (k_b0_2 : kk K b0_2 = some (4, 0)) (g_b0_2_7 : gr x b0_2 7 = some b0_2_7) (k_b0_2_7 : kk K b0_2_7 = some (23, n_b0_2_7)) (K0 : ((gi x b0_2 3) ≤ l4 → (Q l3 x)) ∧ (¬ (gi x b0_2 3) ≤ l4 → (vp_in l4 n_b0_2_7 ∧ (∃ c_3 : Nat, gr x b0_2_7 ((l4 : Int32).toNatClampNeg) = some c_3 ∧ (kk K c_3 = some (5, 0) ∧ ((¬ (gi x c_3 0 = l1 ∧ (l2 = -1 ∨ gi x c_3 1 = l2)) → (GI mX7_of 29 [some (.ref b0), some (.int l1), some (.int l2), some (.int l3), some (.int (l4 + 1))] [] K x Q)) ∧ ((gi x c_3 0 = l1 ∧ (l2 = -1 ∨ gi x c_3 1 = l2)) → (GI mX7_of 29 [some (.ref b0), some (.int l1), some (.int l2), some (.int (l3 ||| (1 <<< (l4 &&& 31)))), some (.int (l4 + 1))] [] K x Q)))))))) : GI mX7_of 29 [some (.ref b0), some (.int l1), some (.int l2), some (.int l3), some (.int l4)] [] K x Q := by
  show mGM mX7_of 29 [some (.ref b0), some (.int l1), some (.int l2), some (.int l3), some (.int l4)] [] (hp K x) (PI K Q)
  refine r_iload (pc := 29) dX7_of_29 rfl ?_
  refine r_aload_n (pc := 31) dX7_of_31 rfl ?_
  refine s_getR (pc := 32) dX7_of_32 fl_X7_20 rfl k_b0 g_b0_2 ?_
  refine s_getI (pc := 35) dX7_of_35 fl_X7_97 rfl k_b0_2 ?_
  refine r_icmp_ge (pc := 38) (tgt := 72) dX7_of_38 (by decide) (fun q => ?_) (fun q => ?_)
  · have K0 := K0.1 q
    refine r_iload_n (pc := 72) dX7_of_72 rfl ?_
    exact s_iret rfl dX7_of_73 K0
  · have K0 := K0.2 q
    refine r_aload_n (pc := 41) dX7_of_41 rfl ?_
    refine s_getR (pc := 42) dX7_of_42 fl_X7_20 rfl k_b0 g_b0_2 ?_
    refine s_getR (pc := 45) dX7_of_45 fl_X7_135 rfl k_b0_2 g_b0_2_7 ?_
    refine r_iload (pc := 48) dX7_of_48 rfl ?_
    obtain ⟨i_2, K0⟩ := K0
    obtain ⟨c_3, g_4, K0⟩ := K0
    refine s_aald (pc := 50) dX7_of_50 (by decide) rfl k_b0_2_7 i_2 g_4 ?_
    refine r_iload_n (pc := 51) dX7_of_51 rfl ?_
    refine r_iload_n (pc := 52) dX7_of_52 rfl ?_
    obtain ⟨e_5, K0⟩ := K0
    refine s_VI (pc := 53) mX5_isOf (ci := 5) (a := c_3) (As := [.int l1, .int l2]) dX7_of_53 lk_X7_248 in_X5_isOf mo_X5_isOf ⟨by decide, rfl⟩ ⟨by decide, by decide⟩ (Nat.le_of_ble_eq_true rfl) e_5 (sp_X5_isOf e_5 ?_)
    refine r_if_eq (pc := 56) (tgt := 66) dX7_of_56 (by decide) (fun q => ?_) (fun q => ?_)
    · have q := (b2i_z _).mp q
      have K0 := K0.1 q
      refine r_iinc (pc := 66) (v := l4 + 1) dX7_of_66 rfl rfl (by decide) ?_
      refine r_goto (pc := 69) (L := [some (.ref b0), some (.int l1), some (.int l2), some (.int l3), some (.int (l4 + 1))]) (tgt := 29) dX7_of_69 (by decide) ?_
      exact r_le (L' := [some (.ref b0), some (.int l1), some (.int l2), some (.int l3), some (.int (l4 + 1))]) ⟨rfl, ⟨rfl, ⟨rfl, ⟨rfl, ⟨rfl, trivial⟩⟩⟩⟩⟩ K0
    · have q := b2i_nz q
      have K0 := K0.2 q
      refine r_iload_n (pc := 59) dX7_of_59 rfl ?_
      refine r_iconst (pc := 60) (v := 1) dX7_of_60 (by decide) ?_
      refine r_iload (pc := 61) dX7_of_61 rfl ?_
      refine r_ishl (pc := 63) dX7_of_63 ?_
      refine r_ior (pc := 64) dX7_of_64 ?_
      refine r_istore_n (pc := 65) dX7_of_65 (by decide) ?_
      refine r_iinc (pc := 66) (L := [some (.ref b0), some (.int l1), some (.int l2), some (.int (l3 ||| (1 <<< (l4 &&& 31)))), some (.int l4)]) (v := l4 + 1) dX7_of_66 rfl rfl (by decide) ?_
      refine r_goto (pc := 69) (L := [some (.ref b0), some (.int l1), some (.int l2), some (.int (l3 ||| (1 <<< (l4 &&& 31)))), some (.int (l4 + 1))]) (tgt := 29) dX7_of_69 (by decide) ?_
      exact r_le (L' := [some (.ref b0), some (.int l1), some (.int l2), some (.int (l3 ||| (1 <<< (l4 &&& 31)))), some (.int (l4 + 1))]) ⟨rfl, ⟨rfl, ⟨rfl, ⟨rfl, ⟨rfl, trivial⟩⟩⟩⟩⟩ K0
set_option maxHeartbeats 2000000 in
theorem v_X8_of_0 {K : Sh} {x : Cn} {Q : Int32 → Cn → Prop} {b0 : Nat} {l1 : Int32} {l2 : Int32} {b0_1 : Nat} {n_b0_1 : Nat} (k_b0 : kk K b0 = some (8, 0)) (g_b0_1 : gr x b0 1 = some b0_1) (k_b0_1 : kk K b0_1 = some (20, n_b0_1)) (K0 : vp_in 1 n_b0_1 ∧ ((¬ (0 ≤ l1 ∧ l1 ≤ gi x b0_1 1 - 1) → (Q (-2) x)) ∧ ((0 ≤ l1 ∧ l1 ≤ gi x b0_1 1 - 1) → ((((-1) ≤ l2 ∧ l2 ≤ 6) → (GI mX8_of 30 [some (.ref b0), some (.int l1), some (.int l2), some (.int 0), some (.int 0)] [] K x Q)) ∧ (¬ ((-1) ≤ l2 ∧ l2 ≤ 6) → (Q (-2) x)))))) : mSI mX8_of [.ref b0, .int l1, .int l2] K x Q := by
  refine s_I (by decide) (by simp [Value.category]) (Nat.le_of_ble_eq_true rfl) ?_
  show mGM mX8_of 0 [some (.ref b0), some (.int l1), some (.int l2), none, none] [] (hp K x) (PI K Q)
  refine r_aload_n (pc := 0) dX8_of_0 rfl ?_
  refine r_iload_n (pc := 1) dX8_of_1 rfl ?_
  obtain ⟨i_1, K0⟩ := K0
  refine s_VI (pc := 2) mX8_isCarrier (ci := 8) (a := b0) (As := [.int l1]) dX8_of_2 lk_X8_265 in_X8_isCarrier mo_X8_isCarrier ⟨by decide, rfl⟩ ⟨by decide, by decide⟩ (Nat.le_of_ble_eq_true rfl) k_b0 (sp_X8_isCarrier k_b0 g_b0_1 k_b0_1 i_1 ?_)
  refine r_if_eq (pc := 5) (tgt := 22) dX8_of_5 (by decide) (fun q => ?_) (fun q => ?_)
  · have q := (b2i_z _).mp q
    have K0 := K0.1 q
    refine r_bipush (pc := 22) (v := (-2)) dX8_of_22 (by decide) ?_
    exact s_iret rfl dX8_of_24 K0
  · have q := b2i_nz q
    have K0 := K0.2 q
    refine r_iload_n (pc := 8) dX8_of_8 rfl ?_
    refine r_i2l (pc := 9) dX8_of_9 ?_
    refine r_ldc2 (pc := 10) (v := (-1)) dX8_of_10 cn_X8_311 ?_
    refine r_ldc2 (pc := 13) (v := 6) dX8_of_13 cn_X8_53 ?_
    refine s_SI (pc := 16) mX8_in (As := [.long ((l2 : Int32).toInt64), .long (-1), .long 6]) dX8_of_16 lk_X8_45 st_X8_in mo_X8_in ⟨by decide, by decide⟩ (Nat.le_of_ble_eq_true rfl) (sq_X8_in (v := l2) (lo := (-1)) (hi := 6) rfl (by decide) (by decide) ?_)
    refine r_if_ne (pc := 19) (tgt := 25) dX8_of_19 (by decide) (fun q => ?_) (fun q => ?_)
    · have q := b2i_nz q
      have K0 := K0.1 q
      refine r_iconst (pc := 25) (v := 0) dX8_of_25 (by decide) ?_
      refine r_istore_n (pc := 26) dX8_of_26 (by decide) ?_
      refine r_iconst (pc := 27) (L := [some (.ref b0), some (.int l1), some (.int l2), some (.int 0), none]) (v := 0) dX8_of_27 (by decide) ?_
      refine r_istore (pc := 28) dX8_of_28 (by decide) ?_
      exact r_le (L' := [some (.ref b0), some (.int l1), some (.int l2), some (.int 0), some (.int 0)]) ⟨rfl, ⟨rfl, ⟨rfl, ⟨rfl, ⟨rfl, trivial⟩⟩⟩⟩⟩ K0
    · have q := (b2i_z _).mp q
      have K0 := K0.2 q
      refine r_bipush (pc := 22) (v := (-2)) dX8_of_22 (by decide) ?_
      exact s_iret rfl dX8_of_24 K0
set_option maxHeartbeats 2000000 in
theorem v_X8_of_30 {K : Sh} {x : Cn} {Q : Int32 → Cn → Prop} {b0 : Nat} {l1 : Int32} {l2 : Int32} {l3 : Int32} {l4 : Int32} {b0_1 : Nat} {n_b0_1 : Nat} {b0_3 : Nat} {n_b0_3 : Nat} (k_b0 : kk K b0 = some (8, 0)) (g_b0_1 : gr x b0 1 = some b0_1) (k_b0_1 : kk K b0_1 = some (20, n_b0_1)) (g_b0_3 : gr x b0 3 = some b0_3) (k_b0_3 : kk K b0_3 = some (20, n_b0_3)) (K0 : vp_in 2 n_b0_1 ∧ (((gi x b0_1 2) ≤ l4 → (Q l3 x)) ∧ (¬ (gi x b0_1 2) ≤ l4 → ((l24 l4 n_b0_3) ∧ ((¬ (so (gi x b0_3) (l4 : Int32).toNatClampNeg 0) = l1 → (GI mX8_of 30 [some (.ref b0), some (.int l1), some (.int l2), some (.int (l3 ||| 0)), some (.int (l4 + 1))] [] K x Q)) ∧ ((so (gi x b0_3) (l4 : Int32).toNatClampNeg 0) = l1 → ((l2 = (-1) → (GI mX8_of 30 [some (.ref b0), some (.int l1), some (.int l2), some (.int (l3 ||| (1 <<< (l4 &&& 31)))), some (.int (l4 + 1))] [] K x Q)) ∧ (¬ l2 = (-1) → ((¬ (so (gi x b0_3) (l4 : Int32).toNatClampNeg 1) = l2 → (GI mX8_of 30 [some (.ref b0), some (.int l1), some (.int l2), some (.int (l3 ||| 0)), some (.int (l4 + 1))] [] K x Q)) ∧ ((so (gi x b0_3) (l4 : Int32).toNatClampNeg 1) = l2 → (GI mX8_of 30 [some (.ref b0), some (.int l1), some (.int l2), some (.int (l3 ||| (1 <<< (l4 &&& 31)))), some (.int (l4 + 1))] [] K x Q))))))))))) : GI mX8_of 30 [some (.ref b0), some (.int l1), some (.int l2), some (.int l3), some (.int l4)] [] K x Q := by
  show mGM mX8_of 30 [some (.ref b0), some (.int l1), some (.int l2), some (.int l3), some (.int l4)] [] (hp K x) (PI K Q)
  refine r_iload (pc := 30) dX8_of_30 rfl ?_
  refine r_aload_n (pc := 32) dX8_of_32 rfl ?_
  refine s_getR (pc := 33) dX8_of_33 fl_X8_9 rfl k_b0 g_b0_1 ?_
  refine r_iconst (pc := 36) (v := 2) dX8_of_36 (by decide) ?_
  obtain ⟨i_1, K0⟩ := K0
  refine s_iald (pc := 37) dX8_of_37 k_b0_1 i_1 ?_
  refine r_icmp_ge (pc := 38) (tgt := 85) dX8_of_38 (by decide) (fun q => ?_) (fun q => ?_)
  · have K0 := K0.1 q
    refine r_iload_n (pc := 85) dX8_of_85 rfl ?_
    exact s_iret rfl dX8_of_86 K0
  · have K0 := K0.2 q
    refine r_iload_n (pc := 41) dX8_of_41 rfl ?_
    refine r_aload_n (pc := 42) dX8_of_42 rfl ?_
    refine r_iload (pc := 43) dX8_of_43 rfl ?_
    refine r_iconst (pc := 45) (v := 0) dX8_of_45 (by decide) ?_
    obtain ⟨p_3, K0⟩ := K0
    refine s_VI (pc := 46) mX8_one (ci := 8) (a := b0) (As := [.int l4, .int 0]) dX8_of_46 lk_X8_67 in_X8_one mo_X8_one ⟨by decide, rfl⟩ ⟨by decide, by decide⟩ (Nat.le_of_ble_eq_true rfl) k_b0 (sr_X8_one k_b0 g_b0_3 k_b0_3 p_3 ⟨by decide, by decide⟩ ?_)
    refine r_iload_n (pc := 49) dX8_of_49 rfl ?_
    refine r_icmp_ne (pc := 50) (tgt := 76) dX8_of_50 (by decide) (fun q => ?_) (fun q => ?_)
    · have K0 := K0.1 q
      refine r_iconst (pc := 76) (v := 0) dX8_of_76 (by decide) ?_
      refine r_ior (pc := 77) dX8_of_77 ?_
      refine r_istore_n (pc := 78) dX8_of_78 (by decide) ?_
      refine r_iinc (pc := 79) (L := [some (.ref b0), some (.int l1), some (.int l2), some (.int (l3 ||| 0)), some (.int l4)]) (v := l4 + 1) dX8_of_79 rfl rfl (by decide) ?_
      refine r_goto (pc := 82) (L := [some (.ref b0), some (.int l1), some (.int l2), some (.int (l3 ||| 0)), some (.int (l4 + 1))]) (tgt := 30) dX8_of_82 (by decide) ?_
      exact r_le (L' := [some (.ref b0), some (.int l1), some (.int l2), some (.int (l3 ||| 0)), some (.int (l4 + 1))]) ⟨rfl, ⟨rfl, ⟨rfl, ⟨rfl, ⟨rfl, trivial⟩⟩⟩⟩⟩ K0
    · have K0 := K0.2 q
      refine r_iload_n (pc := 53) dX8_of_53 rfl ?_
      refine r_iconst (pc := 54) (v := (-1)) dX8_of_54 (by decide) ?_
      refine r_icmp_eq (pc := 55) (tgt := 69) dX8_of_55 (by decide) (fun q => ?_) (fun q => ?_)
      · have K0 := K0.1 q
        refine r_iconst (pc := 69) (v := 1) dX8_of_69 (by decide) ?_
        refine r_iload (pc := 70) dX8_of_70 rfl ?_
        refine r_ishl (pc := 72) dX8_of_72 ?_
        refine r_goto (pc := 73) (tgt := 77) dX8_of_73 (by decide) ?_
        refine r_ior (pc := 77) dX8_of_77 ?_
        refine r_istore_n (pc := 78) dX8_of_78 (by decide) ?_
        refine r_iinc (pc := 79) (L := [some (.ref b0), some (.int l1), some (.int l2), some (.int (l3 ||| (1 <<< (l4 &&& 31)))), some (.int l4)]) (v := l4 + 1) dX8_of_79 rfl rfl (by decide) ?_
        refine r_goto (pc := 82) (L := [some (.ref b0), some (.int l1), some (.int l2), some (.int (l3 ||| (1 <<< (l4 &&& 31)))), some (.int (l4 + 1))]) (tgt := 30) dX8_of_82 (by decide) ?_
        exact r_le (L' := [some (.ref b0), some (.int l1), some (.int l2), some (.int (l3 ||| (1 <<< (l4 &&& 31)))), some (.int (l4 + 1))]) ⟨rfl, ⟨rfl, ⟨rfl, ⟨rfl, ⟨rfl, trivial⟩⟩⟩⟩⟩ K0
      · have K0 := K0.2 q
        refine r_aload_n (pc := 58) dX8_of_58 rfl ?_
        refine r_iload (pc := 59) dX8_of_59 rfl ?_
        refine r_iconst (pc := 61) (v := 1) dX8_of_61 (by decide) ?_
        refine s_VI (pc := 62) mX8_one (ci := 8) (a := b0) (As := [.int l4, .int 1]) dX8_of_62 lk_X8_67 in_X8_one mo_X8_one ⟨by decide, rfl⟩ ⟨by decide, by decide⟩ (Nat.le_of_ble_eq_true rfl) k_b0 (sr_X8_one k_b0 g_b0_3 k_b0_3 p_3 ⟨by decide, by decide⟩ ?_)
        refine r_iload_n (pc := 65) dX8_of_65 rfl ?_
        refine r_icmp_ne (pc := 66) (tgt := 76) dX8_of_66 (by decide) (fun q => ?_) (fun q => ?_)
        · have K0 := K0.1 q
          refine r_iconst (pc := 76) (v := 0) dX8_of_76 (by decide) ?_
          refine r_ior (pc := 77) dX8_of_77 ?_
          refine r_istore_n (pc := 78) dX8_of_78 (by decide) ?_
          refine r_iinc (pc := 79) (L := [some (.ref b0), some (.int l1), some (.int l2), some (.int (l3 ||| 0)), some (.int l4)]) (v := l4 + 1) dX8_of_79 rfl rfl (by decide) ?_
          refine r_goto (pc := 82) (L := [some (.ref b0), some (.int l1), some (.int l2), some (.int (l3 ||| 0)), some (.int (l4 + 1))]) (tgt := 30) dX8_of_82 (by decide) ?_
          exact r_le (L' := [some (.ref b0), some (.int l1), some (.int l2), some (.int (l3 ||| 0)), some (.int (l4 + 1))]) ⟨rfl, ⟨rfl, ⟨rfl, ⟨rfl, ⟨rfl, trivial⟩⟩⟩⟩⟩ K0
        · have K0 := K0.2 q
          refine r_iconst (pc := 69) (v := 1) dX8_of_69 (by decide) ?_
          refine r_iload (pc := 70) dX8_of_70 rfl ?_
          refine r_ishl (pc := 72) dX8_of_72 ?_
          refine r_goto (pc := 73) (tgt := 77) dX8_of_73 (by decide) ?_
          refine r_ior (pc := 77) dX8_of_77 ?_
          refine r_istore_n (pc := 78) dX8_of_78 (by decide) ?_
          refine r_iinc (pc := 79) (L := [some (.ref b0), some (.int l1), some (.int l2), some (.int (l3 ||| (1 <<< (l4 &&& 31)))), some (.int l4)]) (v := l4 + 1) dX8_of_79 rfl rfl (by decide) ?_
          refine r_goto (pc := 82) (L := [some (.ref b0), some (.int l1), some (.int l2), some (.int (l3 ||| (1 <<< (l4 &&& 31)))), some (.int (l4 + 1))]) (tgt := 30) dX8_of_82 (by decide) ?_
          exact r_le (L' := [some (.ref b0), some (.int l1), some (.int l2), some (.int (l3 ||| (1 <<< (l4 &&& 31)))), some (.int (l4 + 1))]) ⟨rfl, ⟨rfl, ⟨rfl, ⟨rfl, ⟨rfl, trivial⟩⟩⟩⟩⟩ K0
set_option maxHeartbeats 2000000 in
theorem v_X7_sum_0 {K : Sh} {x : Cn} {Q : Int32 → Cn → Prop} {b0 : Nat} {l1 : Int32} {l2 : Int32} {b0_3 : Nat} (k_b0 : kk K b0 = some (7, 0)) (g_b0_3 : gr x b0 3 = some b0_3) (k_b0_3 : kk K b0_3 = some (1, 0)) (K0 : (¬ (0 ≤ l1 ∧ l1 < gi x b0_3 0) → (Q (-2) x)) ∧ ((0 ≤ l1 ∧ l1 < gi x b0_3 0) → (((0 ≤ l2 ∧ l2 ≤ 4) → (GI mX7_sum 23 [some (.ref b0), some (.int l1), some (.int l2), some (.int 0), some (.int 0)] [] K x Q)) ∧ (¬ (0 ≤ l2 ∧ l2 ≤ 4) → (Q (-2) x))))) : mSI mX7_sum [.ref b0, .int l1, .int l2] K x Q := by
  refine s_I (by decide) (by simp [Value.category]) (Nat.le_of_ble_eq_true rfl) ?_
  show mGM mX7_sum 0 [some (.ref b0), some (.int l1), some (.int l2), none, none] [] (hp K x) (PI K Q)
  refine r_aload_n (pc := 0) dX7_sum_0 rfl ?_
  refine r_iload_n (pc := 1) dX7_sum_1 rfl ?_
  refine s_VI (pc := 2) mX7_isCarrier (ci := 7) (a := b0) (As := [.int l1]) dX7_sum_2 lk_X7_109 in_X7_isCarrier mo_X7_isCarrier ⟨by decide, rfl⟩ ⟨by decide, by decide⟩ (Nat.le_of_ble_eq_true rfl) k_b0 (sp_X7_isCarrier k_b0 g_b0_3 k_b0_3 ?_)
  refine r_if_eq (pc := 5) (tgt := 15) dX7_sum_5 (by decide) (fun q => ?_) (fun q => ?_)
  · have q := (b2i_z _).mp q
    have K0 := K0.1 q
    refine r_bipush (pc := 15) (v := (-2)) dX7_sum_15 (by decide) ?_
    exact s_iret rfl dX7_sum_17 K0
  · have q := b2i_nz q
    have K0 := K0.2 q
    refine r_iload_n (pc := 8) dX7_sum_8 rfl ?_
    refine s_SI (pc := 9) mX7_isState (As := [.int l2]) dX7_sum_9 lk_X7_160 st_X7_isState mo_X7_isState ⟨by decide, by decide⟩ (Nat.le_of_ble_eq_true rfl) (sp_X7_isState  ?_)
    refine r_if_ne (pc := 12) (tgt := 18) dX7_sum_12 (by decide) (fun q => ?_) (fun q => ?_)
    · have q := b2i_nz q
      have K0 := K0.1 q
      refine r_iconst (pc := 18) (v := 0) dX7_sum_18 (by decide) ?_
      refine r_istore_n (pc := 19) dX7_sum_19 (by decide) ?_
      refine r_iconst (pc := 20) (L := [some (.ref b0), some (.int l1), some (.int l2), some (.int 0), none]) (v := 0) dX7_sum_20 (by decide) ?_
      refine r_istore (pc := 21) dX7_sum_21 (by decide) ?_
      exact r_le (L' := [some (.ref b0), some (.int l1), some (.int l2), some (.int 0), some (.int 0)]) ⟨rfl, ⟨rfl, ⟨rfl, ⟨rfl, ⟨rfl, trivial⟩⟩⟩⟩⟩ K0
    · have q := (b2i_z _).mp q
      have K0 := K0.2 q
      refine r_bipush (pc := 15) (v := (-2)) dX7_sum_15 (by decide) ?_
      exact s_iret rfl dX7_sum_17 K0
set_option maxHeartbeats 2000000 in
theorem v_X7_sum_23 {K : Sh} {x : Cn} {Q : Int32 → Cn → Prop} {b0 : Nat} {l1 : Int32} {l2 : Int32} {l3 : Int32} {l4 : Int32} {b0_2 : Nat} {b0_2_7 : Nat} {n_b0_2_7 : Nat} (k_b0 : kk K b0 = some (7, 0)) (g_b0_2 : gr x b0 2 = some b0_2) (k_b0_2 : kk K b0_2 = some (4, 0)) (g_b0_2_7 : gr x b0_2 7 = some b0_2_7) (k_b0_2_7 : kk K b0_2_7 = some (23, n_b0_2_7)) (K0 : ((gi x b0_2 3) ≤ l4 → (Q l3 x)) ∧ (¬ (gi x b0_2 3) ≤ l4 → (vp_in l4 n_b0_2_7 ∧ (∃ c_3 : Nat, gr x b0_2_7 ((l4 : Int32).toNatClampNeg) = some c_3 ∧ (kk K c_3 = some (5, 0) ∧ ((¬ (gi x c_3 0) = l1 → (GI mX7_sum 23 [some (.ref b0), some (.int l1), some (.int l2), some (.int l3), some (.int (l4 + 1))] [] K x Q)) ∧ ((gi x c_3 0) = l1 → (mSI mX5_bitsThatAre [.ref c_3, .int l2] K x (fun r_8 y_7 => GI mX7_sum 23 [some (.ref b0), some (.int l1), some (.int l2), some (.int (l3 + (nI (cpt r_8)))), some (.int (l4 + 1))] [] K y_7 Q))))))))) : GI mX7_sum 23 [some (.ref b0), some (.int l1), some (.int l2), some (.int l3), some (.int l4)] [] K x Q := by
  show mGM mX7_sum 23 [some (.ref b0), some (.int l1), some (.int l2), some (.int l3), some (.int l4)] [] (hp K x) (PI K Q)
  refine r_iload (pc := 23) dX7_sum_23 rfl ?_
  refine r_aload_n (pc := 25) dX7_sum_25 rfl ?_
  refine s_getR (pc := 26) dX7_sum_26 fl_X7_20 rfl k_b0 g_b0_2 ?_
  refine s_getI (pc := 29) dX7_sum_29 fl_X7_97 rfl k_b0_2 ?_
  refine r_icmp_ge (pc := 32) (tgt := 78) dX7_sum_32 (by decide) (fun q => ?_) (fun q => ?_)
  · have K0 := K0.1 q
    refine r_iload_n (pc := 78) dX7_sum_78 rfl ?_
    exact s_iret rfl dX7_sum_79 K0
  · have K0 := K0.2 q
    refine r_aload_n (pc := 35) dX7_sum_35 rfl ?_
    refine s_getR (pc := 36) dX7_sum_36 fl_X7_20 rfl k_b0 g_b0_2 ?_
    refine s_getR (pc := 39) dX7_sum_39 fl_X7_135 rfl k_b0_2 g_b0_2_7 ?_
    refine r_iload (pc := 42) dX7_sum_42 rfl ?_
    obtain ⟨i_2, K0⟩ := K0
    obtain ⟨c_3, g_4, K0⟩ := K0
    refine s_aald (pc := 44) dX7_sum_44 (by decide) rfl k_b0_2_7 i_2 g_4 ?_
    obtain ⟨e_5, K0⟩ := K0
    refine s_getI (pc := 45) dX7_sum_45 fl_X7_139 rfl e_5 ?_
    refine r_iload_n (pc := 48) dX7_sum_48 rfl ?_
    refine r_icmp_ne (pc := 49) (tgt := 72) dX7_sum_49 (by decide) (fun q => ?_) (fun q => ?_)
    · have K0 := K0.1 q
      refine r_iinc (pc := 72) (v := l4 + 1) dX7_sum_72 rfl rfl (by decide) ?_
      refine r_goto (pc := 75) (L := [some (.ref b0), some (.int l1), some (.int l2), some (.int l3), some (.int (l4 + 1))]) (tgt := 23) dX7_sum_75 (by decide) ?_
      exact r_le (L' := [some (.ref b0), some (.int l1), some (.int l2), some (.int l3), some (.int (l4 + 1))]) ⟨rfl, ⟨rfl, ⟨rfl, ⟨rfl, ⟨rfl, trivial⟩⟩⟩⟩⟩ K0
    · have K0 := K0.2 q
      refine r_iload_n (pc := 52) dX7_sum_52 rfl ?_
      refine r_aload_n (pc := 53) dX7_sum_53 rfl ?_
      refine s_getR (pc := 54) dX7_sum_54 fl_X7_20 rfl k_b0 g_b0_2 ?_
      refine s_getR (pc := 57) dX7_sum_57 fl_X7_135 rfl k_b0_2 g_b0_2_7 ?_
      refine r_iload (pc := 60) dX7_sum_60 rfl ?_
      refine s_aald (pc := 62) dX7_sum_62 (by decide) rfl k_b0_2_7 i_2 g_4 ?_
      refine r_iload_n (pc := 63) dX7_sum_63 rfl ?_
      refine s_VI (pc := 64) mX5_bitsThatAre (ci := 5) (a := c_3) (As := [.int l2]) dX7_sum_64 lk_X7_163 in_X5_bitsThatAre mo_X5_bitsThatAre ⟨by decide, rfl⟩ ⟨by decide, by decide⟩ (Nat.le_of_ble_eq_true rfl) e_5 (mSI_mono K0 (fun r_8 y_7 K0 => ?_))
      refine s_SI (pc := 67) mJ6_bitCount_0f7a4 (As := [.int r_8]) dX7_sum_67 lk_X7_255 st_J6_bitCount_0f7a4 mo_J6_bitCount_0f7a4 ⟨by decide, by decide⟩ (Nat.le_of_ble_eq_true rfl) (sp_bc  ?_)
      refine r_iadd (pc := 70) dX7_sum_70 ?_
      refine r_istore_n (pc := 71) dX7_sum_71 (by decide) ?_
      refine r_iinc (pc := 72) (L := [some (.ref b0), some (.int l1), some (.int l2), some (.int (l3 + (nI (cpt r_8)))), some (.int l4)]) (v := l4 + 1) dX7_sum_72 rfl rfl (by decide) ?_
      refine r_goto (pc := 75) (L := [some (.ref b0), some (.int l1), some (.int l2), some (.int (l3 + (nI (cpt r_8)))), some (.int (l4 + 1))]) (tgt := 23) dX7_sum_75 (by decide) ?_
      exact r_le (L' := [some (.ref b0), some (.int l1), some (.int l2), some (.int (l3 + (nI (cpt r_8)))), some (.int (l4 + 1))]) ⟨rfl, ⟨rfl, ⟨rfl, ⟨rfl, ⟨rfl, trivial⟩⟩⟩⟩⟩ K0
set_option maxHeartbeats 2000000 in
theorem v_X8_sum_0 {K : Sh} {x : Cn} {Q : Int32 → Cn → Prop} {b0 : Nat} {l1 : Int32} {l2 : Int32} {b0_1 : Nat} {n_b0_1 : Nat} (k_b0 : kk K b0 = some (8, 0)) (g_b0_1 : gr x b0 1 = some b0_1) (k_b0_1 : kk K b0_1 = some (20, n_b0_1)) (K0 : vp_in 1 n_b0_1 ∧ ((¬ (0 ≤ l1 ∧ l1 ≤ gi x b0_1 1 - 1) → (Q (-2) x)) ∧ ((0 ≤ l1 ∧ l1 ≤ gi x b0_1 1 - 1) → (((0 ≤ l2 ∧ l2 ≤ 4) → (GI mX8_sum 28 [some (.ref b0), some (.int l1), some (.int l2), some (.int 0), some (.int 0)] [] K x Q)) ∧ (¬ (0 ≤ l2 ∧ l2 ≤ 4) → (Q (-2) x)))))) : mSI mX8_sum [.ref b0, .int l1, .int l2] K x Q := by
  refine s_I (by decide) (by simp [Value.category]) (Nat.le_of_ble_eq_true rfl) ?_
  show mGM mX8_sum 0 [some (.ref b0), some (.int l1), some (.int l2), none, none] [] (hp K x) (PI K Q)
  refine r_aload_n (pc := 0) dX8_sum_0 rfl ?_
  refine r_iload_n (pc := 1) dX8_sum_1 rfl ?_
  obtain ⟨i_1, K0⟩ := K0
  refine s_VI (pc := 2) mX8_isCarrier (ci := 8) (a := b0) (As := [.int l1]) dX8_sum_2 lk_X8_265 in_X8_isCarrier mo_X8_isCarrier ⟨by decide, rfl⟩ ⟨by decide, by decide⟩ (Nat.le_of_ble_eq_true rfl) k_b0 (sp_X8_isCarrier k_b0 g_b0_1 k_b0_1 i_1 ?_)
  refine r_if_eq (pc := 5) (tgt := 20) dX8_sum_5 (by decide) (fun q => ?_) (fun q => ?_)
  · have q := (b2i_z _).mp q
    have K0 := K0.1 q
    refine r_bipush (pc := 20) (v := (-2)) dX8_sum_20 (by decide) ?_
    exact s_iret rfl dX8_sum_22 K0
  · have q := b2i_nz q
    have K0 := K0.2 q
    refine r_iload_n (pc := 8) dX8_sum_8 rfl ?_
    refine r_i2l (pc := 9) dX8_sum_9 ?_
    refine r_lconst (pc := 10) (v := 0) dX8_sum_10 (by decide) ?_
    refine r_ldc2 (pc := 11) (v := 4) dX8_sum_11 cn_X8_276 ?_
    refine s_SI (pc := 14) mX8_in (As := [.long ((l2 : Int32).toInt64), .long 0, .long 4]) dX8_sum_14 lk_X8_45 st_X8_in mo_X8_in ⟨by decide, by decide⟩ (Nat.le_of_ble_eq_true rfl) (sq_X8_in (v := l2) (lo := 0) (hi := 4) rfl (by decide) (by decide) ?_)
    refine r_if_ne (pc := 17) (tgt := 23) dX8_sum_17 (by decide) (fun q => ?_) (fun q => ?_)
    · have q := b2i_nz q
      have K0 := K0.1 q
      refine r_iconst (pc := 23) (v := 0) dX8_sum_23 (by decide) ?_
      refine r_istore_n (pc := 24) dX8_sum_24 (by decide) ?_
      refine r_iconst (pc := 25) (L := [some (.ref b0), some (.int l1), some (.int l2), some (.int 0), none]) (v := 0) dX8_sum_25 (by decide) ?_
      refine r_istore (pc := 26) dX8_sum_26 (by decide) ?_
      exact r_le (L' := [some (.ref b0), some (.int l1), some (.int l2), some (.int 0), some (.int 0)]) ⟨rfl, ⟨rfl, ⟨rfl, ⟨rfl, ⟨rfl, trivial⟩⟩⟩⟩⟩ K0
    · have q := (b2i_z _).mp q
      have K0 := K0.2 q
      refine r_bipush (pc := 20) (v := (-2)) dX8_sum_20 (by decide) ?_
      exact s_iret rfl dX8_sum_22 K0
set_option maxHeartbeats 2000000 in
theorem v_X8_sum_28 {K : Sh} {x : Cn} {Q : Int32 → Cn → Prop} {b0 : Nat} {l1 : Int32} {l2 : Int32} {l3 : Int32} {l4 : Int32} {b0_1 : Nat} {n_b0_1 : Nat} {b0_3 : Nat} {n_b0_3 : Nat} (k_b0 : kk K b0 = some (8, 0)) (g_b0_1 : gr x b0 1 = some b0_1) (k_b0_1 : kk K b0_1 = some (20, n_b0_1)) (g_b0_3 : gr x b0 3 = some b0_3) (k_b0_3 : kk K b0_3 = some (20, n_b0_3)) (K0 : vp_in 2 n_b0_1 ∧ (((gi x b0_1 2) ≤ l4 → (Q l3 x)) ∧ (¬ (gi x b0_1 2) ≤ l4 → ((l24 l4 n_b0_3) ∧ ((¬ (so (gi x b0_3) (l4 : Int32).toNatClampNeg 0) = l1 → (GI mX8_sum 28 [some (.ref b0), some (.int l1), some (.int l2), some (.int (l3 + 0)), some (.int (l4 + 1))] [] K x Q)) ∧ ((so (gi x b0_3) (l4 : Int32).toNatClampNeg 0) = l1 → ((l12 (7 + l2)) ∧ (∀ r_6 : Int32, r_6 = (l3 + (nI (cpt (so (gi x b0_3) (l4 : Int32).toNatClampNeg ((7 + l2) : Int32).toNatClampNeg)))) → (GI mX8_sum 28 [some (.ref b0), some (.int l1), some (.int l2), some (.int r_6), some (.int (l4 + 1))] [] K x Q))))))))) : GI mX8_sum 28 [some (.ref b0), some (.int l1), some (.int l2), some (.int l3), some (.int l4)] [] K x Q := by
  show mGM mX8_sum 28 [some (.ref b0), some (.int l1), some (.int l2), some (.int l3), some (.int l4)] [] (hp K x) (PI K Q)
  refine r_iload (pc := 28) dX8_sum_28 rfl ?_
  refine r_aload_n (pc := 30) dX8_sum_30 rfl ?_
  refine s_getR (pc := 31) dX8_sum_31 fl_X8_9 rfl k_b0 g_b0_1 ?_
  refine r_iconst (pc := 34) (v := 2) dX8_sum_34 (by decide) ?_
  obtain ⟨i_1, K0⟩ := K0
  refine s_iald (pc := 35) dX8_sum_35 k_b0_1 i_1 ?_
  refine r_icmp_ge (pc := 36) (tgt := 76) dX8_sum_36 (by decide) (fun q => ?_) (fun q => ?_)
  · have K0 := K0.1 q
    refine r_iload_n (pc := 76) dX8_sum_76 rfl ?_
    exact s_iret rfl dX8_sum_77 K0
  · have K0 := K0.2 q
    refine r_iload_n (pc := 39) dX8_sum_39 rfl ?_
    refine r_aload_n (pc := 40) dX8_sum_40 rfl ?_
    refine r_iload (pc := 41) dX8_sum_41 rfl ?_
    refine r_iconst (pc := 43) (v := 0) dX8_sum_43 (by decide) ?_
    obtain ⟨p_3, K0⟩ := K0
    refine s_VI (pc := 44) mX8_one (ci := 8) (a := b0) (As := [.int l4, .int 0]) dX8_sum_44 lk_X8_67 in_X8_one mo_X8_one ⟨by decide, rfl⟩ ⟨by decide, by decide⟩ (Nat.le_of_ble_eq_true rfl) k_b0 (sr_X8_one k_b0 g_b0_3 k_b0_3 p_3 ⟨by decide, by decide⟩ ?_)
    refine r_iload_n (pc := 47) dX8_sum_47 rfl ?_
    refine r_icmp_ne (pc := 48) (tgt := 67) dX8_sum_48 (by decide) (fun q => ?_) (fun q => ?_)
    · have K0 := K0.1 q
      refine r_iconst (pc := 67) (v := 0) dX8_sum_67 (by decide) ?_
      refine r_iadd (pc := 68) dX8_sum_68 ?_
      refine r_istore_n (pc := 69) dX8_sum_69 (by decide) ?_
      refine r_iinc (pc := 70) (L := [some (.ref b0), some (.int l1), some (.int l2), some (.int (l3 + 0)), some (.int l4)]) (v := l4 + 1) dX8_sum_70 rfl rfl (by decide) ?_
      refine r_goto (pc := 73) (L := [some (.ref b0), some (.int l1), some (.int l2), some (.int (l3 + 0)), some (.int (l4 + 1))]) (tgt := 28) dX8_sum_73 (by decide) ?_
      exact r_le (L' := [some (.ref b0), some (.int l1), some (.int l2), some (.int (l3 + 0)), some (.int (l4 + 1))]) ⟨rfl, ⟨rfl, ⟨rfl, ⟨rfl, ⟨rfl, trivial⟩⟩⟩⟩⟩ K0
    · have K0 := K0.2 q
      refine r_aload_n (pc := 51) dX8_sum_51 rfl ?_
      refine r_iload (pc := 52) dX8_sum_52 rfl ?_
      refine r_bipush (pc := 54) (v := 7) dX8_sum_54 (by decide) ?_
      refine r_iload_n (pc := 56) dX8_sum_56 rfl ?_
      refine r_iadd (pc := 57) dX8_sum_57 ?_
      obtain ⟨p_5, K0⟩ := K0
      refine s_VI (pc := 58) mX8_one (ci := 8) (a := b0) (As := [.int l4, .int (7 + l2)]) dX8_sum_58 lk_X8_67 in_X8_one mo_X8_one ⟨by decide, rfl⟩ ⟨by decide, by decide⟩ (Nat.le_of_ble_eq_true rfl) k_b0 (sr_X8_one k_b0 g_b0_3 k_b0_3 p_3 p_5 ?_)
      refine s_SI (pc := 61) mX8_bits (As := [.int (so (gi x b0_3) (l4 : Int32).toNatClampNeg ((7 + l2) : Int32).toNatClampNeg)]) dX8_sum_61 lk_X8_296 st_X8_bits mo_X8_bits ⟨by decide, by decide⟩ (Nat.le_of_ble_eq_true rfl) (sp_X8_bits  ?_)
      refine r_goto (pc := 64) (tgt := 68) dX8_sum_64 (by decide) ?_
      refine r_iadd (pc := 68) dX8_sum_68 ?_
      obtain ⟨r_6, w_7⟩ : ∃ z : Int32, z = (l3 + (nI (cpt (so (gi x b0_3) (l4 : Int32).toNatClampNeg ((7 + l2) : Int32).toNatClampNeg)))) := ⟨_, rfl⟩
      rw [← w_7]
      have K0 := K0 r_6 w_7
      refine r_istore_n (pc := 69) dX8_sum_69 (by decide) ?_
      refine r_iinc (pc := 70) (L := [some (.ref b0), some (.int l1), some (.int l2), some (.int r_6), some (.int l4)]) (v := l4 + 1) dX8_sum_70 rfl rfl (by decide) ?_
      refine r_goto (pc := 73) (L := [some (.ref b0), some (.int l1), some (.int l2), some (.int r_6), some (.int (l4 + 1))]) (tgt := 28) dX8_sum_73 (by decide) ?_
      exact r_le (L' := [some (.ref b0), some (.int l1), some (.int l2), some (.int r_6), some (.int (l4 + 1))]) ⟨rfl, ⟨rfl, ⟨rfl, ⟨rfl, ⟨rfl, trivial⟩⟩⟩⟩⟩ K0
set_option maxHeartbeats 2000000 in
theorem v_X7_longest_0 {K : Sh} {x : Cn} {Q : Int32 → Cn → Prop} {b0 : Nat} {l1 : Int32} {b0_2 : Nat} {b0_2_7 : Nat} {n_b0_2_7 : Nat} (k_b0 : kk K b0 = some (7, 0)) (g_b0_2 : gr x b0 2 = some b0_2) (k_b0_2 : kk K b0_2 = some (4, 0)) (g_b0_2_7 : gr x b0_2 7 = some b0_2_7) (k_b0_2_7 : kk K b0_2_7 = some (23, n_b0_2_7)) (K0 : ((0 ≤ l1 ∧ l1 < gi x b0_2 3) → (vp_in l1 n_b0_2_7 ∧ (∃ c_3 : Nat, gr x b0_2_7 ((l1 : Int32).toNatClampNeg) = some c_3 ∧ (kk K c_3 = some (5, 0) ∧ (GI mX7_longest 32 [some (.ref b0), some (.int l1), some (.int (gi x c_3 9)), some (.int 0), some (.int 0), some (.int 0)] [] K x Q))))) ∧ (¬ (0 ≤ l1 ∧ l1 < gi x b0_2 3) → (Q (-2) x))) : mSI mX7_longest [.ref b0, .int l1] K x Q := by
  refine s_I (by decide) (by simp [Value.category]) (Nat.le_of_ble_eq_true rfl) ?_
  show mGM mX7_longest 0 [some (.ref b0), some (.int l1), none, none, none, none] [] (hp K x) (PI K Q)
  refine r_aload_n (pc := 0) dX7_longest_0 rfl ?_
  refine r_iload_n (pc := 1) dX7_longest_1 rfl ?_
  refine s_VI (pc := 2) mX7_isSeries (ci := 7) (a := b0) (As := [.int l1]) dX7_longest_2 lk_X7_132 in_X7_isSeries mo_X7_isSeries ⟨by decide, rfl⟩ ⟨by decide, by decide⟩ (Nat.le_of_ble_eq_true rfl) k_b0 (sp_X7_isSeries k_b0 g_b0_2 k_b0_2 ?_)
  refine r_if_ne (pc := 5) (tgt := 11) dX7_longest_5 (by decide) (fun q => ?_) (fun q => ?_)
  · have q := b2i_nz q
    have K0 := K0.1 q
    refine r_aload_n (pc := 11) dX7_longest_11 rfl ?_
    refine s_getR (pc := 12) dX7_longest_12 fl_X7_20 rfl k_b0 g_b0_2 ?_
    refine s_getR (pc := 15) dX7_longest_15 fl_X7_135 rfl k_b0_2 g_b0_2_7 ?_
    refine r_iload_n (pc := 18) dX7_longest_18 rfl ?_
    obtain ⟨i_2, K0⟩ := K0
    obtain ⟨c_3, g_4, K0⟩ := K0
    refine s_aald (pc := 19) dX7_longest_19 (by decide) rfl k_b0_2_7 i_2 g_4 ?_
    obtain ⟨e_5, K0⟩ := K0
    refine s_getI (pc := 20) dX7_longest_20 fl_X7_266 rfl e_5 ?_
    refine r_istore_n (pc := 23) dX7_longest_23 (by decide) ?_
    refine r_iconst (pc := 24) (L := [some (.ref b0), some (.int l1), some (.int (gi x c_3 9)), none, none, none]) (v := 0) dX7_longest_24 (by decide) ?_
    refine r_istore_n (pc := 25) dX7_longest_25 (by decide) ?_
    refine r_iconst (pc := 26) (L := [some (.ref b0), some (.int l1), some (.int (gi x c_3 9)), some (.int 0), none, none]) (v := 0) dX7_longest_26 (by decide) ?_
    refine r_istore (pc := 27) dX7_longest_27 (by decide) ?_
    refine r_iconst (pc := 29) (L := [some (.ref b0), some (.int l1), some (.int (gi x c_3 9)), some (.int 0), some (.int 0), none]) (v := 0) dX7_longest_29 (by decide) ?_
    refine r_istore (pc := 30) dX7_longest_30 (by decide) ?_
    exact r_le (L' := [some (.ref b0), some (.int l1), some (.int (gi x c_3 9)), some (.int 0), some (.int 0), some (.int 0)]) ⟨rfl, ⟨rfl, ⟨rfl, ⟨rfl, ⟨rfl, ⟨rfl, trivial⟩⟩⟩⟩⟩⟩ K0
  · have q := (b2i_z _).mp q
    have K0 := K0.2 q
    refine r_bipush (pc := 8) (v := (-2)) dX7_longest_8 (by decide) ?_
    exact s_iret rfl dX7_longest_10 K0
set_option maxHeartbeats 2000000 in
theorem v_X7_longest_32 {K : Sh} {x : Cn} {Q : Int32 → Cn → Prop} {b0 : Nat} {l1 : Int32} {l2 : Int32} {l3 : Int32} {l4 : Int32} {l5 : Int32} {b0_2 : Nat} (k_b0 : kk K b0 = some (7, 0)) (g_b0_2 : gr x b0 2 = some b0_2) (k_b0_2 : kk K b0_2 = some (4, 0)) (K0 : ((gi x b0_2 0) ≤ l5 → (Q l3 x)) ∧ (¬ (gi x b0_2 0) ≤ l5 → ((¬ (f_bit l2 l5) → (GI mX7_longest 32 [some (.ref b0), some (.int l1), some (.int l2), some (.int (if l3 < 0 then 0 else l3)), some (.int 0), some (.int (l5 + 1))] [] K x Q)) ∧ ((f_bit l2 l5) → (GI mX7_longest 32 [some (.ref b0), some (.int l1), some (.int l2), some (.int (if l3 < (l4 + 1) then (l4 + 1) else l3)), some (.int (l4 + 1)), some (.int (l5 + 1))] [] K x Q))))) : GI mX7_longest 32 [some (.ref b0), some (.int l1), some (.int l2), some (.int l3), some (.int l4), some (.int l5)] [] K x Q := by
  show mGM mX7_longest 32 [some (.ref b0), some (.int l1), some (.int l2), some (.int l3), some (.int l4), some (.int l5)] [] (hp K x) (PI K Q)
  refine r_iload (pc := 32) dX7_longest_32 rfl ?_
  refine r_aload_n (pc := 34) dX7_longest_34 rfl ?_
  refine s_getR (pc := 35) dX7_longest_35 fl_X7_20 rfl k_b0 g_b0_2 ?_
  refine s_getI (pc := 38) dX7_longest_38 fl_X7_91 rfl k_b0_2 ?_
  refine r_icmp_ge (pc := 41) (tgt := 76) dX7_longest_41 (by decide) (fun q => ?_) (fun q => ?_)
  · have K0 := K0.1 q
    refine r_iload_n (pc := 76) dX7_longest_76 rfl ?_
    exact s_iret rfl dX7_longest_77 K0
  · have K0 := K0.2 q
    refine r_iload_n (pc := 44) dX7_longest_44 rfl ?_
    refine r_iload (pc := 45) dX7_longest_45 rfl ?_
    refine s_SI (pc := 47) mX7_hasBit (As := [.int l2, .int l5]) dX7_longest_47 lk_X7_269 st_X7_hasBit mo_X7_hasBit ⟨by decide, by decide⟩ (Nat.le_of_ble_eq_true rfl) (sp_X7_hasBit  ?_)
    refine r_if_eq (pc := 50) (tgt := 60) dX7_longest_50 (by decide) (fun q => ?_) (fun q => ?_)
    · have q := (b2i_z _).mp q
      have K0 := K0.1 q
      refine r_iconst (pc := 60) (v := 0) dX7_longest_60 (by decide) ?_
      refine r_istore (pc := 61) dX7_longest_61 (by decide) ?_
      refine r_iload_n (pc := 63) (L := [some (.ref b0), some (.int l1), some (.int l2), some (.int l3), some (.int 0), some (.int l5)]) dX7_longest_63 rfl ?_
      refine r_iload (pc := 64) dX7_longest_64 rfl ?_
      refine r_mmax (pc := 66) dX7_longest_66 lk_X7_226 mw_max ⟨by decide, by decide⟩ (Nat.le_of_ble_eq_true rfl) ?_
      refine r_istore_n (pc := 69) dX7_longest_69 (by decide) ?_
      refine r_iinc (pc := 70) (L := [some (.ref b0), some (.int l1), some (.int l2), some (.int (if l3 < 0 then 0 else l3)), some (.int 0), some (.int l5)]) (v := l5 + 1) dX7_longest_70 rfl rfl (by decide) ?_
      refine r_goto (pc := 73) (L := [some (.ref b0), some (.int l1), some (.int l2), some (.int (if l3 < 0 then 0 else l3)), some (.int 0), some (.int (l5 + 1))]) (tgt := 32) dX7_longest_73 (by decide) ?_
      exact r_le (L' := [some (.ref b0), some (.int l1), some (.int l2), some (.int (if l3 < 0 then 0 else l3)), some (.int 0), some (.int (l5 + 1))]) ⟨rfl, ⟨rfl, ⟨rfl, ⟨rfl, ⟨rfl, ⟨rfl, trivial⟩⟩⟩⟩⟩⟩ K0
    · have q := b2i_nz q
      have K0 := K0.2 q
      refine r_iload (pc := 53) dX7_longest_53 rfl ?_
      refine r_iconst (pc := 55) (v := 1) dX7_longest_55 (by decide) ?_
      refine r_iadd (pc := 56) dX7_longest_56 ?_
      refine r_goto (pc := 57) (tgt := 61) dX7_longest_57 (by decide) ?_
      refine r_istore (pc := 61) dX7_longest_61 (by decide) ?_
      refine r_iload_n (pc := 63) (L := [some (.ref b0), some (.int l1), some (.int l2), some (.int l3), some (.int (l4 + 1)), some (.int l5)]) dX7_longest_63 rfl ?_
      refine r_iload (pc := 64) dX7_longest_64 rfl ?_
      refine r_mmax (pc := 66) dX7_longest_66 lk_X7_226 mw_max ⟨by decide, by decide⟩ (Nat.le_of_ble_eq_true rfl) ?_
      refine r_istore_n (pc := 69) dX7_longest_69 (by decide) ?_
      refine r_iinc (pc := 70) (L := [some (.ref b0), some (.int l1), some (.int l2), some (.int (if l3 < (l4 + 1) then (l4 + 1) else l3)), some (.int (l4 + 1)), some (.int l5)]) (v := l5 + 1) dX7_longest_70 rfl rfl (by decide) ?_
      refine r_goto (pc := 73) (L := [some (.ref b0), some (.int l1), some (.int l2), some (.int (if l3 < (l4 + 1) then (l4 + 1) else l3)), some (.int (l4 + 1)), some (.int (l5 + 1))]) (tgt := 32) dX7_longest_73 (by decide) ?_
      exact r_le (L' := [some (.ref b0), some (.int l1), some (.int l2), some (.int (if l3 < (l4 + 1) then (l4 + 1) else l3)), some (.int (l4 + 1)), some (.int (l5 + 1))]) ⟨rfl, ⟨rfl, ⟨rfl, ⟨rfl, ⟨rfl, ⟨rfl, trivial⟩⟩⟩⟩⟩⟩ K0
set_option maxHeartbeats 2000000 in
theorem v_X8_longest_0 {K : Sh} {x : Cn} {Q : Int32 → Cn → Prop} {b0 : Nat} {l1 : Int32} {b0_1 : Nat} {n_b0_1 : Nat} (k_b0 : kk K b0 = some (8, 0)) (g_b0_1 : gr x b0 1 = some b0_1) (k_b0_1 : kk K b0_1 = some (20, n_b0_1)) (K0 : vp_in 2 n_b0_1 ∧ (((0 ≤ l1 ∧ l1 ≤ gi x b0_1 2 - 1) → (GI mX8_longest 18 [some (.ref b0), some (.int l1), some (.int 0), some (.int 0), some (.int 0)] [] K x Q)) ∧ (¬ (0 ≤ l1 ∧ l1 ≤ gi x b0_1 2 - 1) → (Q (-2) x)))) : mSI mX8_longest [.ref b0, .int l1] K x Q := by
  refine s_I (by decide) (by simp [Value.category]) (Nat.le_of_ble_eq_true rfl) ?_
  show mGM mX8_longest 0 [some (.ref b0), some (.int l1), none, none, none] [] (hp K x) (PI K Q)
  refine r_aload_n (pc := 0) dX8_longest_0 rfl ?_
  refine r_iload_n (pc := 1) dX8_longest_1 rfl ?_
  obtain ⟨i_1, K0⟩ := K0
  refine s_VI (pc := 2) mX8_isSeries (ci := 8) (a := b0) (As := [.int l1]) dX8_longest_2 lk_X8_273 in_X8_isSeries mo_X8_isSeries ⟨by decide, rfl⟩ ⟨by decide, by decide⟩ (Nat.le_of_ble_eq_true rfl) k_b0 (sp_X8_isSeries k_b0 g_b0_1 k_b0_1 i_1 ?_)
  refine r_if_ne (pc := 5) (tgt := 11) dX8_longest_5 (by decide) (fun q => ?_) (fun q => ?_)
  · have q := b2i_nz q
    have K0 := K0.1 q
    refine r_iconst (pc := 11) (v := 0) dX8_longest_11 (by decide) ?_
    refine r_istore_n (pc := 12) dX8_longest_12 (by decide) ?_
    refine r_iconst (pc := 13) (L := [some (.ref b0), some (.int l1), some (.int 0), none, none]) (v := 0) dX8_longest_13 (by decide) ?_
    refine r_istore_n (pc := 14) dX8_longest_14 (by decide) ?_
    refine r_iconst (pc := 15) (L := [some (.ref b0), some (.int l1), some (.int 0), some (.int 0), none]) (v := 0) dX8_longest_15 (by decide) ?_
    refine r_istore (pc := 16) dX8_longest_16 (by decide) ?_
    exact r_le (L' := [some (.ref b0), some (.int l1), some (.int 0), some (.int 0), some (.int 0)]) ⟨rfl, ⟨rfl, ⟨rfl, ⟨rfl, ⟨rfl, trivial⟩⟩⟩⟩⟩ K0
  · have q := (b2i_z _).mp q
    have K0 := K0.2 q
    refine r_bipush (pc := 8) (v := (-2)) dX8_longest_8 (by decide) ?_
    exact s_iret rfl dX8_longest_10 K0
set_option maxHeartbeats 2000000 in
theorem v_X8_longest_18 {K : Sh} {x : Cn} {Q : Int32 → Cn → Prop} {b0 : Nat} {l1 : Int32} {l2 : Int32} {l3 : Int32} {l4 : Int32} {b0_1 : Nat} {n_b0_1 : Nat} {b0_3 : Nat} {n_b0_3 : Nat} (k_b0 : kk K b0 = some (8, 0)) (g_b0_1 : gr x b0 1 = some b0_1) (k_b0_1 : kk K b0_1 = some (20, n_b0_1)) (g_b0_3 : gr x b0 3 = some b0_3) (k_b0_3 : kk K b0_3 = some (20, n_b0_3)) (K0 : vp_in 0 n_b0_1 ∧ (((gi x b0_1 0) ≤ l4 → (Q l2 x)) ∧ (¬ (gi x b0_1 0) ≤ l4 → ((l24 l1 n_b0_3) ∧ ((¬ (f_has (so (gi x b0_3) (l1 : Int32).toNatClampNeg 9) l4) → (GI mX8_longest 18 [some (.ref b0), some (.int l1), some (.int (if l2 < 0 then 0 else l2)), some (.int 0), some (.int (l4 + 1))] [] K x Q)) ∧ ((f_has (so (gi x b0_3) (l1 : Int32).toNatClampNeg 9) l4) → (GI mX8_longest 18 [some (.ref b0), some (.int l1), some (.int (if l2 < (l3 + 1) then (l3 + 1) else l2)), some (.int (l3 + 1)), some (.int (l4 + 1))] [] K x Q))))))) : GI mX8_longest 18 [some (.ref b0), some (.int l1), some (.int l2), some (.int l3), some (.int l4)] [] K x Q := by
  show mGM mX8_longest 18 [some (.ref b0), some (.int l1), some (.int l2), some (.int l3), some (.int l4)] [] (hp K x) (PI K Q)
  refine r_iload (pc := 18) dX8_longest_18 rfl ?_
  refine r_aload_n (pc := 20) dX8_longest_20 rfl ?_
  refine s_getR (pc := 21) dX8_longest_21 fl_X8_9 rfl k_b0 g_b0_1 ?_
  refine r_iconst (pc := 24) (v := 0) dX8_longest_24 (by decide) ?_
  obtain ⟨i_1, K0⟩ := K0
  refine s_iald (pc := 25) dX8_longest_25 k_b0_1 i_1 ?_
  refine r_icmp_ge (pc := 26) (tgt := 64) dX8_longest_26 (by decide) (fun q => ?_) (fun q => ?_)
  · have K0 := K0.1 q
    refine r_iload_n (pc := 64) dX8_longest_64 rfl ?_
    exact s_iret rfl dX8_longest_65 K0
  · have K0 := K0.2 q
    refine r_aload_n (pc := 29) dX8_longest_29 rfl ?_
    refine r_iload_n (pc := 30) dX8_longest_30 rfl ?_
    refine r_bipush (pc := 31) (v := 9) dX8_longest_31 (by decide) ?_
    obtain ⟨p_3, K0⟩ := K0
    refine s_VI (pc := 33) mX8_one (ci := 8) (a := b0) (As := [.int l1, .int 9]) dX8_longest_33 lk_X8_67 in_X8_one mo_X8_one ⟨by decide, rfl⟩ ⟨by decide, by decide⟩ (Nat.le_of_ble_eq_true rfl) k_b0 (sr_X8_one k_b0 g_b0_3 k_b0_3 p_3 ⟨by decide, by decide⟩ ?_)
    refine r_iload (pc := 36) dX8_longest_36 rfl ?_
    refine s_SI (pc := 38) mX8_has (As := [.int (so (gi x b0_3) (l1 : Int32).toNatClampNeg 9), .int l4]) dX8_longest_38 lk_X8_75 st_X8_has mo_X8_has ⟨by decide, by decide⟩ (Nat.le_of_ble_eq_true rfl) (sp_X8_has  ?_)
    refine r_if_eq (pc := 41) (tgt := 50) dX8_longest_41 (by decide) (fun q => ?_) (fun q => ?_)
    · have q := (b2i_z _).mp q
      have K0 := K0.1 q
      refine r_iconst (pc := 50) (v := 0) dX8_longest_50 (by decide) ?_
      refine r_istore_n (pc := 51) dX8_longest_51 (by decide) ?_
      refine r_iload_n (pc := 52) (L := [some (.ref b0), some (.int l1), some (.int l2), some (.int 0), some (.int l4)]) dX8_longest_52 rfl ?_
      refine r_iload_n (pc := 53) dX8_longest_53 rfl ?_
      refine r_mmax (pc := 54) dX8_longest_54 lk_X8_293 mw_max ⟨by decide, by decide⟩ (Nat.le_of_ble_eq_true rfl) ?_
      refine r_istore_n (pc := 57) dX8_longest_57 (by decide) ?_
      refine r_iinc (pc := 58) (L := [some (.ref b0), some (.int l1), some (.int (if l2 < 0 then 0 else l2)), some (.int 0), some (.int l4)]) (v := l4 + 1) dX8_longest_58 rfl rfl (by decide) ?_
      refine r_goto (pc := 61) (L := [some (.ref b0), some (.int l1), some (.int (if l2 < 0 then 0 else l2)), some (.int 0), some (.int (l4 + 1))]) (tgt := 18) dX8_longest_61 (by decide) ?_
      exact r_le (L' := [some (.ref b0), some (.int l1), some (.int (if l2 < 0 then 0 else l2)), some (.int 0), some (.int (l4 + 1))]) ⟨rfl, ⟨rfl, ⟨rfl, ⟨rfl, ⟨rfl, trivial⟩⟩⟩⟩⟩ K0
    · have q := b2i_nz q
      have K0 := K0.2 q
      refine r_iload_n (pc := 44) dX8_longest_44 rfl ?_
      refine r_iconst (pc := 45) (v := 1) dX8_longest_45 (by decide) ?_
      refine r_iadd (pc := 46) dX8_longest_46 ?_
      refine r_goto (pc := 47) (tgt := 51) dX8_longest_47 (by decide) ?_
      refine r_istore_n (pc := 51) dX8_longest_51 (by decide) ?_
      refine r_iload_n (pc := 52) (L := [some (.ref b0), some (.int l1), some (.int l2), some (.int (l3 + 1)), some (.int l4)]) dX8_longest_52 rfl ?_
      refine r_iload_n (pc := 53) dX8_longest_53 rfl ?_
      refine r_mmax (pc := 54) dX8_longest_54 lk_X8_293 mw_max ⟨by decide, by decide⟩ (Nat.le_of_ble_eq_true rfl) ?_
      refine r_istore_n (pc := 57) dX8_longest_57 (by decide) ?_
      refine r_iinc (pc := 58) (L := [some (.ref b0), some (.int l1), some (.int (if l2 < (l3 + 1) then (l3 + 1) else l2)), some (.int (l3 + 1)), some (.int l4)]) (v := l4 + 1) dX8_longest_58 rfl rfl (by decide) ?_
      refine r_goto (pc := 61) (L := [some (.ref b0), some (.int l1), some (.int (if l2 < (l3 + 1) then (l3 + 1) else l2)), some (.int (l3 + 1)), some (.int (l4 + 1))]) (tgt := 18) dX8_longest_61 (by decide) ?_
      exact r_le (L' := [some (.ref b0), some (.int l1), some (.int (if l2 < (l3 + 1) then (l3 + 1) else l2)), some (.int (l3 + 1)), some (.int (l4 + 1))]) ⟨rfl, ⟨rfl, ⟨rfl, ⟨rfl, ⟨rfl, trivial⟩⟩⟩⟩⟩ K0
set_option maxHeartbeats 2000000 in
theorem v_X7_best_0 {K : Sh} {x : Cn} {Q : Int32 → Cn → Prop} {b0 : Nat} {l1 : Int32} {b0_2 : Nat} (k_b0 : kk K b0 = some (7, 0)) (g_b0_2 : gr x b0 2 = some b0_2) (k_b0_2 : kk K b0_2 = some (4, 0)) (K0 : (¬ (0 < gi x b0_2 0) → (Q (-2) x)) ∧ ((0 < gi x b0_2 0) → ((0 ≤ l1 → (GI mX7_best 16 [some (.ref b0), some (.int l1), some (.int 0), none, none] [] K x Q)) ∧ (¬ 0 ≤ l1 → (Q (-2) x))))) : mSI mX7_best [.ref b0, .int l1] K x Q := by
  refine s_I (by decide) (by simp [Value.category]) (Nat.le_of_ble_eq_true rfl) ?_
  show mGM mX7_best 0 [some (.ref b0), some (.int l1), none, none, none] [] (hp K x) (PI K Q)
  refine r_aload_n (pc := 0) dX7_best_0 rfl ?_
  refine s_VI (pc := 1) mX7_hasText (ci := 7) (a := b0) (As := []) dX7_best_1 lk_X7_121 in_X7_hasText mo_X7_hasText ⟨by decide, rfl⟩ ⟨by decide, by decide⟩ (Nat.le_of_ble_eq_true rfl) k_b0 (sp_X7_hasText k_b0 g_b0_2 k_b0_2 ?_)
  refine r_if_eq (pc := 4) (tgt := 11) dX7_best_4 (by decide) (fun q => ?_) (fun q => ?_)
  · have q := (b2i_z _).mp q
    have K0 := K0.1 q
    refine r_bipush (pc := 11) (v := (-2)) dX7_best_11 (by decide) ?_
    exact s_iret rfl dX7_best_13 K0
  · have q := b2i_nz q
    have K0 := K0.2 q
    refine r_iload_n (pc := 7) dX7_best_7 rfl ?_
    refine r_if_ge (pc := 8) (tgt := 14) dX7_best_8 (by decide) (fun q => ?_) (fun q => ?_)
    · have K0 := K0.1 q
      refine r_iconst (pc := 14) (v := 0) dX7_best_14 (by decide) ?_
      refine r_istore_n (pc := 15) dX7_best_15 (by decide) ?_
      exact r_le (L' := [some (.ref b0), some (.int l1), some (.int 0), none, none]) ⟨rfl, ⟨rfl, ⟨rfl, trivial⟩⟩⟩ K0
    · have K0 := K0.2 q
      refine r_bipush (pc := 11) (v := (-2)) dX7_best_11 (by decide) ?_
      exact s_iret rfl dX7_best_13 K0
set_option maxHeartbeats 2000000 in
theorem v_X7_best_16 {K : Sh} {x : Cn} {Q : Int32 → Cn → Prop} {b0 : Nat} {l1 : Int32} {l2 : Int32} {b0_3 : Nat} (k_b0 : kk K b0 = some (7, 0)) (g_b0_3 : gr x b0 3 = some b0_3) (k_b0_3 : kk K b0_3 = some (1, 0)) (K0 : ((gi x b0_3 0) ≤ l2 → (Q (-1) x)) ∧ (¬ (gi x b0_3 0) ≤ l2 → (GI mX7_best 32 [some (.ref b0), some (.int l1), some (.int l2), some (.int 0), some (.int 0)] [] K x Q))) : GI mX7_best 16 [some (.ref b0), some (.int l1), some (.int l2), none, none] [] K x Q := by
  show mGM mX7_best 16 [some (.ref b0), some (.int l1), some (.int l2), none, none] [] (hp K x) (PI K Q)
  refine r_iload_n (pc := 16) dX7_best_16 rfl ?_
  refine r_aload_n (pc := 17) dX7_best_17 rfl ?_
  refine s_getR (pc := 18) dX7_best_18 fl_X7_27 rfl k_b0 g_b0_3 ?_
  refine s_getI (pc := 21) dX7_best_21 fl_X7_94 rfl k_b0_3 ?_
  refine r_icmp_ge (pc := 24) (tgt := 82) dX7_best_24 (by decide) (fun q => ?_) (fun q => ?_)
  · have K0 := K0.1 q
    refine r_iconst (pc := 82) (v := (-1)) dX7_best_82 (by decide) ?_
    exact s_iret rfl dX7_best_83 K0
  · have K0 := K0.2 q
    refine r_iconst (pc := 27) (v := 0) dX7_best_27 (by decide) ?_
    refine r_istore_n (pc := 28) dX7_best_28 (by decide) ?_
    refine r_iconst (pc := 29) (L := [some (.ref b0), some (.int l1), some (.int l2), some (.int 0), none]) (v := 0) dX7_best_29 (by decide) ?_
    refine r_istore (pc := 30) dX7_best_30 (by decide) ?_
    exact r_le (L' := [some (.ref b0), some (.int l1), some (.int l2), some (.int 0), some (.int 0)]) ⟨rfl, ⟨rfl, ⟨rfl, ⟨rfl, ⟨rfl, trivial⟩⟩⟩⟩⟩ K0
set_option maxHeartbeats 2000000 in
theorem v_X7_best_32 {K : Sh} {x : Cn} {Q : Int32 → Cn → Prop} {b0 : Nat} {l1 : Int32} {l2 : Int32} {l3 : Int32} {l4 : Int32} {b0_3 : Nat} (k_b0 : kk K b0 = some (7, 0)) (g_b0_3 : gr x b0 3 = some b0_3) (k_b0_3 : kk K b0_3 = some (1, 0)) (K0 : ((gi x b0_3 0) ≤ l4 → ((¬ l3 = l1 → (GI mX7_best 16 [some (.ref b0), some (.int l1), some (.int (l2 + 1)), none, none] [] K x Q)) ∧ (l3 = l1 → (Q l2 x)))) ∧ (¬ (gi x b0_3 0) ≤ l4 → ((l4 = l2 → (GI mX7_best 32 [some (.ref b0), some (.int l1), some (.int l2), some (.int l3), some (.int (l4 + 1))] [] K x Q)) ∧ (¬ l4 = l2 → (mSI mX7_usesMore [.ref b0, .int l4, .int l2] K x (fun r_5 y_4 => (r_5 = 0 → (GI mX7_best 32 [some (.ref b0), some (.int l1), some (.int l2), some (.int l3), some (.int (l4 + 1))] [] K y_4 Q)) ∧ (¬ r_5 = 0 → (GI mX7_best 32 [some (.ref b0), some (.int l1), some (.int l2), some (.int (l3 + 1)), some (.int (l4 + 1))] [] K y_4 Q)))))))) : GI mX7_best 32 [some (.ref b0), some (.int l1), some (.int l2), some (.int l3), some (.int l4)] [] K x Q := by
  show mGM mX7_best 32 [some (.ref b0), some (.int l1), some (.int l2), some (.int l3), some (.int l4)] [] (hp K x) (PI K Q)
  refine r_iload (pc := 32) dX7_best_32 rfl ?_
  refine r_aload_n (pc := 34) dX7_best_34 rfl ?_
  refine s_getR (pc := 35) dX7_best_35 fl_X7_27 rfl k_b0 g_b0_3 ?_
  refine s_getI (pc := 38) dX7_best_38 fl_X7_94 rfl k_b0_3 ?_
  refine r_icmp_ge (pc := 41) (tgt := 69) dX7_best_41 (by decide) (fun q => ?_) (fun q => ?_)
  · have K0 := K0.1 q
    refine r_iload_n (pc := 69) dX7_best_69 rfl ?_
    refine r_iload_n (pc := 70) dX7_best_70 rfl ?_
    refine r_icmp_ne (pc := 71) (tgt := 76) dX7_best_71 (by decide) (fun q => ?_) (fun q => ?_)
    · have K0 := K0.1 q
      refine r_iinc (pc := 76) (v := l2 + 1) dX7_best_76 rfl rfl (by decide) ?_
      refine r_goto (pc := 79) (L := [some (.ref b0), some (.int l1), some (.int (l2 + 1)), some (.int l3), some (.int l4)]) (tgt := 16) dX7_best_79 (by decide) ?_
      exact r_le (L' := [some (.ref b0), some (.int l1), some (.int (l2 + 1)), none, none]) ⟨rfl, ⟨rfl, ⟨rfl, trivial⟩⟩⟩ K0
    · have K0 := K0.2 q
      refine r_iload_n (pc := 74) dX7_best_74 rfl ?_
      exact s_iret rfl dX7_best_75 K0
  · have K0 := K0.2 q
    refine r_iload (pc := 44) dX7_best_44 rfl ?_
    refine r_iload_n (pc := 46) dX7_best_46 rfl ?_
    refine r_icmp_eq (pc := 47) (tgt := 63) dX7_best_47 (by decide) (fun q => ?_) (fun q => ?_)
    · have K0 := K0.1 q
      refine r_iinc (pc := 63) (v := l4 + 1) dX7_best_63 rfl rfl (by decide) ?_
      refine r_goto (pc := 66) (L := [some (.ref b0), some (.int l1), some (.int l2), some (.int l3), some (.int (l4 + 1))]) (tgt := 32) dX7_best_66 (by decide) ?_
      exact r_le (L' := [some (.ref b0), some (.int l1), some (.int l2), some (.int l3), some (.int (l4 + 1))]) ⟨rfl, ⟨rfl, ⟨rfl, ⟨rfl, ⟨rfl, trivial⟩⟩⟩⟩⟩ K0
    · have K0 := K0.2 q
      refine r_aload_n (pc := 50) dX7_best_50 rfl ?_
      refine r_iload (pc := 51) dX7_best_51 rfl ?_
      refine r_iload_n (pc := 53) dX7_best_53 rfl ?_
      refine s_VI (pc := 54) mX7_usesMore (ci := 7) (a := b0) (As := [.int l4, .int l2]) dX7_best_54 lk_X7_260 in_X7_usesMore mo_X7_usesMore ⟨by decide, rfl⟩ ⟨by decide, by decide⟩ (Nat.le_of_ble_eq_true rfl) k_b0 (mSI_mono K0 (fun r_5 y_4 K0 => ?_))
      refine r_if_eq (pc := 57) (tgt := 63) dX7_best_57 (by decide) (fun q => ?_) (fun q => ?_)
      · have K0 := K0.1 q
        refine r_iinc (pc := 63) (v := l4 + 1) dX7_best_63 rfl rfl (by decide) ?_
        refine r_goto (pc := 66) (L := [some (.ref b0), some (.int l1), some (.int l2), some (.int l3), some (.int (l4 + 1))]) (tgt := 32) dX7_best_66 (by decide) ?_
        exact r_le (L' := [some (.ref b0), some (.int l1), some (.int l2), some (.int l3), some (.int (l4 + 1))]) ⟨rfl, ⟨rfl, ⟨rfl, ⟨rfl, ⟨rfl, trivial⟩⟩⟩⟩⟩ K0
      · have K0 := K0.2 q
        refine r_iinc (pc := 60) (v := l3 + 1) dX7_best_60 rfl rfl (by decide) ?_
        refine r_iinc (pc := 63) (L := [some (.ref b0), some (.int l1), some (.int l2), some (.int (l3 + 1)), some (.int l4)]) (v := l4 + 1) dX7_best_63 rfl rfl (by decide) ?_
        refine r_goto (pc := 66) (L := [some (.ref b0), some (.int l1), some (.int l2), some (.int (l3 + 1)), some (.int (l4 + 1))]) (tgt := 32) dX7_best_66 (by decide) ?_
        exact r_le (L' := [some (.ref b0), some (.int l1), some (.int l2), some (.int (l3 + 1)), some (.int (l4 + 1))]) ⟨rfl, ⟨rfl, ⟨rfl, ⟨rfl, ⟨rfl, trivial⟩⟩⟩⟩⟩ K0
set_option maxHeartbeats 2000000 in
theorem v_X8_best_0 {K : Sh} {x : Cn} {Q : Int32 → Cn → Prop} {b0 : Nat} {l1 : Int32} {b0_1 : Nat} {n_b0_1 : Nat} (k_b0 : kk K b0 = some (8, 0)) (g_b0_1 : gr x b0 1 = some b0_1) (k_b0_1 : kk K b0_1 = some (20, n_b0_1)) (K0 : vp_in 0 n_b0_1 ∧ ((¬ (0 < gi x b0_1 0) → (Q (-2) x)) ∧ ((0 < gi x b0_1 0) → ((0 ≤ l1 → (GI mX8_best 16 [some (.ref b0), some (.int l1), some (.int 0), none, none] [] K x Q)) ∧ (¬ 0 ≤ l1 → (Q (-2) x)))))) : mSI mX8_best [.ref b0, .int l1] K x Q := by
  refine s_I (by decide) (by simp [Value.category]) (Nat.le_of_ble_eq_true rfl) ?_
  show mGM mX8_best 0 [some (.ref b0), some (.int l1), none, none, none] [] (hp K x) (PI K Q)
  refine r_aload_n (pc := 0) dX8_best_0 rfl ?_
  obtain ⟨i_1, K0⟩ := K0
  refine s_VI (pc := 1) mX8_isThere (ci := 8) (a := b0) (As := []) dX8_best_1 lk_X8_49 in_X8_isThere mo_X8_isThere ⟨by decide, rfl⟩ ⟨by decide, by decide⟩ (Nat.le_of_ble_eq_true rfl) k_b0 (sp_X8_isThere k_b0 g_b0_1 k_b0_1 i_1 ?_)
  refine r_if_eq (pc := 4) (tgt := 11) dX8_best_4 (by decide) (fun q => ?_) (fun q => ?_)
  · have q := (b2i_z _).mp q
    have K0 := K0.1 q
    refine r_bipush (pc := 11) (v := (-2)) dX8_best_11 (by decide) ?_
    exact s_iret rfl dX8_best_13 K0
  · have q := b2i_nz q
    have K0 := K0.2 q
    refine r_iload_n (pc := 7) dX8_best_7 rfl ?_
    refine r_if_ge (pc := 8) (tgt := 14) dX8_best_8 (by decide) (fun q => ?_) (fun q => ?_)
    · have K0 := K0.1 q
      refine r_iconst (pc := 14) (v := 0) dX8_best_14 (by decide) ?_
      refine r_istore_n (pc := 15) dX8_best_15 (by decide) ?_
      exact r_le (L' := [some (.ref b0), some (.int l1), some (.int 0), none, none]) ⟨rfl, ⟨rfl, ⟨rfl, trivial⟩⟩⟩ K0
    · have K0 := K0.2 q
      refine r_bipush (pc := 11) (v := (-2)) dX8_best_11 (by decide) ?_
      exact s_iret rfl dX8_best_13 K0
set_option maxHeartbeats 2000000 in
theorem v_X8_best_16 {K : Sh} {x : Cn} {Q : Int32 → Cn → Prop} {b0 : Nat} {l1 : Int32} {l2 : Int32} {b0_1 : Nat} {n_b0_1 : Nat} (k_b0 : kk K b0 = some (8, 0)) (g_b0_1 : gr x b0 1 = some b0_1) (k_b0_1 : kk K b0_1 = some (20, n_b0_1)) (K0 : vp_in 1 n_b0_1 ∧ (((gi x b0_1 1) ≤ l2 → (Q (-1) x)) ∧ (¬ (gi x b0_1 1) ≤ l2 → (GI mX8_best 31 [some (.ref b0), some (.int l1), some (.int l2), some (.int 0), some (.int 0)] [] K x Q)))) : GI mX8_best 16 [some (.ref b0), some (.int l1), some (.int l2), none, none] [] K x Q := by
  show mGM mX8_best 16 [some (.ref b0), some (.int l1), some (.int l2), none, none] [] (hp K x) (PI K Q)
  refine r_iload_n (pc := 16) dX8_best_16 rfl ?_
  refine r_aload_n (pc := 17) dX8_best_17 rfl ?_
  refine s_getR (pc := 18) dX8_best_18 fl_X8_9 rfl k_b0 g_b0_1 ?_
  refine r_iconst (pc := 21) (v := 1) dX8_best_21 (by decide) ?_
  obtain ⟨i_1, K0⟩ := K0
  refine s_iald (pc := 22) dX8_best_22 k_b0_1 i_1 ?_
  refine r_icmp_ge (pc := 23) (tgt := 85) dX8_best_23 (by decide) (fun q => ?_) (fun q => ?_)
  · have K0 := K0.1 q
    refine r_iconst (pc := 85) (v := (-1)) dX8_best_85 (by decide) ?_
    exact s_iret rfl dX8_best_86 K0
  · have K0 := K0.2 q
    refine r_iconst (pc := 26) (v := 0) dX8_best_26 (by decide) ?_
    refine r_istore_n (pc := 27) dX8_best_27 (by decide) ?_
    refine r_iconst (pc := 28) (L := [some (.ref b0), some (.int l1), some (.int l2), some (.int 0), none]) (v := 0) dX8_best_28 (by decide) ?_
    refine r_istore (pc := 29) dX8_best_29 (by decide) ?_
    exact r_le (L' := [some (.ref b0), some (.int l1), some (.int l2), some (.int 0), some (.int 0)]) ⟨rfl, ⟨rfl, ⟨rfl, ⟨rfl, ⟨rfl, trivial⟩⟩⟩⟩⟩ K0
set_option maxHeartbeats 2000000 in
theorem v_X8_best_31 {K : Sh} {x : Cn} {Q : Int32 → Cn → Prop} {b0 : Nat} {l1 : Int32} {l2 : Int32} {l3 : Int32} {l4 : Int32} {b0_1 : Nat} {n_b0_1 : Nat} (k_b0 : kk K b0 = some (8, 0)) (g_b0_1 : gr x b0 1 = some b0_1) (k_b0_1 : kk K b0_1 = some (20, n_b0_1)) (K0 : vp_in 1 n_b0_1 ∧ (((gi x b0_1 1) ≤ l4 → ((¬ l3 = l1 → (GI mX8_best 16 [some (.ref b0), some (.int l1), some (.int (l2 + 1)), none, none] [] K x Q)) ∧ (l3 = l1 → (Q l2 x)))) ∧ (¬ (gi x b0_1 1) ≤ l4 → ((l4 = l2 → (GI mX8_best 31 [some (.ref b0), some (.int l1), some (.int l2), some (.int (l3 + 0)), some (.int (l4 + 1))] [] K x Q)) ∧ (¬ l4 = l2 → (mSI mX8_isBetter [.ref b0, .int l4, .int l2] K x (fun r_6 y_5 => (r_6 = 0 → (GI mX8_best 31 [some (.ref b0), some (.int l1), some (.int l2), some (.int (l3 + 0)), some (.int (l4 + 1))] [] K y_5 Q)) ∧ (¬ r_6 = 0 → (GI mX8_best 31 [some (.ref b0), some (.int l1), some (.int l2), some (.int (l3 + 1)), some (.int (l4 + 1))] [] K y_5 Q))))))))) : GI mX8_best 31 [some (.ref b0), some (.int l1), some (.int l2), some (.int l3), some (.int l4)] [] K x Q := by
  show mGM mX8_best 31 [some (.ref b0), some (.int l1), some (.int l2), some (.int l3), some (.int l4)] [] (hp K x) (PI K Q)
  refine r_iload (pc := 31) dX8_best_31 rfl ?_
  refine r_aload_n (pc := 33) dX8_best_33 rfl ?_
  refine s_getR (pc := 34) dX8_best_34 fl_X8_9 rfl k_b0 g_b0_1 ?_
  refine r_iconst (pc := 37) (v := 1) dX8_best_37 (by decide) ?_
  obtain ⟨i_1, K0⟩ := K0
  refine s_iald (pc := 38) dX8_best_38 k_b0_1 i_1 ?_
  refine r_icmp_ge (pc := 39) (tgt := 72) dX8_best_39 (by decide) (fun q => ?_) (fun q => ?_)
  · have K0 := K0.1 q
    refine r_iload_n (pc := 72) dX8_best_72 rfl ?_
    refine r_iload_n (pc := 73) dX8_best_73 rfl ?_
    refine r_icmp_ne (pc := 74) (tgt := 79) dX8_best_74 (by decide) (fun q => ?_) (fun q => ?_)
    · have K0 := K0.1 q
      refine r_iinc (pc := 79) (v := l2 + 1) dX8_best_79 rfl rfl (by decide) ?_
      refine r_goto (pc := 82) (L := [some (.ref b0), some (.int l1), some (.int (l2 + 1)), some (.int l3), some (.int l4)]) (tgt := 16) dX8_best_82 (by decide) ?_
      exact r_le (L' := [some (.ref b0), some (.int l1), some (.int (l2 + 1)), none, none]) ⟨rfl, ⟨rfl, ⟨rfl, trivial⟩⟩⟩ K0
    · have K0 := K0.2 q
      refine r_iload_n (pc := 77) dX8_best_77 rfl ?_
      exact s_iret rfl dX8_best_78 K0
  · have K0 := K0.2 q
    refine r_iload_n (pc := 42) dX8_best_42 rfl ?_
    refine r_iload (pc := 43) dX8_best_43 rfl ?_
    refine r_iload_n (pc := 45) dX8_best_45 rfl ?_
    refine r_icmp_eq (pc := 46) (tgt := 63) dX8_best_46 (by decide) (fun q => ?_) (fun q => ?_)
    · have K0 := K0.1 q
      refine r_iconst (pc := 63) (v := 0) dX8_best_63 (by decide) ?_
      refine r_iadd (pc := 64) dX8_best_64 ?_
      refine r_istore_n (pc := 65) dX8_best_65 (by decide) ?_
      refine r_iinc (pc := 66) (L := [some (.ref b0), some (.int l1), some (.int l2), some (.int (l3 + 0)), some (.int l4)]) (v := l4 + 1) dX8_best_66 rfl rfl (by decide) ?_
      refine r_goto (pc := 69) (L := [some (.ref b0), some (.int l1), some (.int l2), some (.int (l3 + 0)), some (.int (l4 + 1))]) (tgt := 31) dX8_best_69 (by decide) ?_
      exact r_le (L' := [some (.ref b0), some (.int l1), some (.int l2), some (.int (l3 + 0)), some (.int (l4 + 1))]) ⟨rfl, ⟨rfl, ⟨rfl, ⟨rfl, ⟨rfl, trivial⟩⟩⟩⟩⟩ K0
    · have K0 := K0.2 q
      refine r_aload_n (pc := 49) dX8_best_49 rfl ?_
      refine r_iload (pc := 50) dX8_best_50 rfl ?_
      refine r_iload_n (pc := 52) dX8_best_52 rfl ?_
      refine s_VI (pc := 53) mX8_isBetter (ci := 8) (a := b0) (As := [.int l4, .int l2]) dX8_best_53 lk_X8_320 in_X8_isBetter mo_X8_isBetter ⟨by decide, rfl⟩ ⟨by decide, by decide⟩ (Nat.le_of_ble_eq_true rfl) k_b0 (mSI_mono K0 (fun r_6 y_5 K0 => ?_))
      refine r_if_eq (pc := 56) (tgt := 63) dX8_best_56 (by decide) (fun q => ?_) (fun q => ?_)
      · have K0 := K0.1 q
        refine r_iconst (pc := 63) (v := 0) dX8_best_63 (by decide) ?_
        refine r_iadd (pc := 64) dX8_best_64 ?_
        refine r_istore_n (pc := 65) dX8_best_65 (by decide) ?_
        refine r_iinc (pc := 66) (L := [some (.ref b0), some (.int l1), some (.int l2), some (.int (l3 + 0)), some (.int l4)]) (v := l4 + 1) dX8_best_66 rfl rfl (by decide) ?_
        refine r_goto (pc := 69) (L := [some (.ref b0), some (.int l1), some (.int l2), some (.int (l3 + 0)), some (.int (l4 + 1))]) (tgt := 31) dX8_best_69 (by decide) ?_
        exact r_le (L' := [some (.ref b0), some (.int l1), some (.int l2), some (.int (l3 + 0)), some (.int (l4 + 1))]) ⟨rfl, ⟨rfl, ⟨rfl, ⟨rfl, ⟨rfl, trivial⟩⟩⟩⟩⟩ K0
      · have K0 := K0.2 q
        refine r_iconst (pc := 59) (v := 1) dX8_best_59 (by decide) ?_
        refine r_goto (pc := 60) (tgt := 64) dX8_best_60 (by decide) ?_
        refine r_iadd (pc := 64) dX8_best_64 ?_
        refine r_istore_n (pc := 65) dX8_best_65 (by decide) ?_
        refine r_iinc (pc := 66) (L := [some (.ref b0), some (.int l1), some (.int l2), some (.int (l3 + 1)), some (.int l4)]) (v := l4 + 1) dX8_best_66 rfl rfl (by decide) ?_
        refine r_goto (pc := 69) (L := [some (.ref b0), some (.int l1), some (.int l2), some (.int (l3 + 1)), some (.int (l4 + 1))]) (tgt := 31) dX8_best_69 (by decide) ?_
        exact r_le (L' := [some (.ref b0), some (.int l1), some (.int l2), some (.int (l3 + 1)), some (.int (l4 + 1))]) ⟨rfl, ⟨rfl, ⟨rfl, ⟨rfl, ⟨rfl, trivial⟩⟩⟩⟩⟩ K0
set_option maxHeartbeats 2000000 in
theorem v_X7_most_0 {K : Sh} {x : Cn} {Q : Int32 → Cn → Prop} {b0 : Nat} {l1 : Int32} {l2 : Int32} {b0_2 : Nat} (k_b0 : kk K b0 = some (7, 0)) (g_b0_2 : gr x b0 2 = some b0_2) (k_b0_2 : kk K b0_2 = some (4, 0)) (K0 : (¬ (0 < gi x b0_2 0 ∧ 0 ≤ l1 ∧ l1 < 7) → (Q (-2) x)) ∧ ((0 < gi x b0_2 0 ∧ 0 ≤ l1 ∧ l1 < 7) → ((0 ≤ l2 → (GI mX7_most 17 [some (.ref b0), some (.int l1), some (.int l2), some (.int 0), none, none, none, none] [] K x Q)) ∧ (¬ 0 ≤ l2 → (Q (-2) x))))) : mSI mX7_most [.ref b0, .int l1, .int l2] K x Q := by
  refine s_I (by decide) (by simp [Value.category]) (Nat.le_of_ble_eq_true rfl) ?_
  show mGM mX7_most 0 [some (.ref b0), some (.int l1), some (.int l2), none, none, none, none, none] [] (hp K x) (PI K Q)
  refine r_aload_n (pc := 0) dX7_most_0 rfl ?_
  refine r_iload_n (pc := 1) dX7_most_1 rfl ?_
  refine s_VI (pc := 2) mX7_isDay (ci := 7) (a := b0) (As := [.int l1]) dX7_most_2 lk_X7_245 in_X7_isDay mo_X7_isDay ⟨by decide, rfl⟩ ⟨by decide, by decide⟩ (Nat.le_of_ble_eq_true rfl) k_b0 (sp_X7_isDay k_b0 g_b0_2 k_b0_2 ?_)
  refine r_if_eq (pc := 5) (tgt := 12) dX7_most_5 (by decide) (fun q => ?_) (fun q => ?_)
  · have q := (b2i_z _).mp q
    have K0 := K0.1 q
    refine r_bipush (pc := 12) (v := (-2)) dX7_most_12 (by decide) ?_
    exact s_iret rfl dX7_most_14 K0
  · have q := b2i_nz q
    have K0 := K0.2 q
    refine r_iload_n (pc := 8) dX7_most_8 rfl ?_
    refine r_if_ge (pc := 9) (tgt := 15) dX7_most_9 (by decide) (fun q => ?_) (fun q => ?_)
    · have K0 := K0.1 q
      refine r_iconst (pc := 15) (v := 0) dX7_most_15 (by decide) ?_
      refine r_istore_n (pc := 16) dX7_most_16 (by decide) ?_
      exact r_le (L' := [some (.ref b0), some (.int l1), some (.int l2), some (.int 0), none, none, none, none]) ⟨rfl, ⟨rfl, ⟨rfl, ⟨rfl, trivial⟩⟩⟩⟩ K0
    · have K0 := K0.2 q
      refine r_bipush (pc := 12) (v := (-2)) dX7_most_12 (by decide) ?_
      exact s_iret rfl dX7_most_14 K0
set_option maxHeartbeats 2000000 in
theorem v_X7_most_17 {K : Sh} {x : Cn} {Q : Int32 → Cn → Prop} {b0 : Nat} {l1 : Int32} {l2 : Int32} {l3 : Int32} {b0_3 : Nat} {b0_2 : Nat} (k_b0 : kk K b0 = some (7, 0)) (g_b0_3 : gr x b0 3 = some b0_3) (k_b0_3 : kk K b0_3 = some (1, 0)) (g_b0_2 : gr x b0 2 = some b0_2) (k_b0_2 : kk K b0_2 = some (4, 0)) (K0 : ((gi x b0_3 0) ≤ l3 → (Q (-1) x)) ∧ (¬ (gi x b0_3 0) ≤ l3 → (mSI mX4_basisOf [.ref b0_2, .int l3, .int l1] K x (fun r_3 y_2 => GI mX7_most 45 [some (.ref b0), some (.int l1), some (.int l2), some (.int l3), some (.int r_3), some (.int 0), some (.int 0), none] [] K y_2 Q)))) : GI mX7_most 17 [some (.ref b0), some (.int l1), some (.int l2), some (.int l3), none, none, none, none] [] K x Q := by
  show mGM mX7_most 17 [some (.ref b0), some (.int l1), some (.int l2), some (.int l3), none, none, none, none] [] (hp K x) (PI K Q)
  refine r_iload_n (pc := 17) dX7_most_17 rfl ?_
  refine r_aload_n (pc := 18) dX7_most_18 rfl ?_
  refine s_getR (pc := 19) dX7_most_19 fl_X7_27 rfl k_b0 g_b0_3 ?_
  refine s_getI (pc := 22) dX7_most_22 fl_X7_94 rfl k_b0_3 ?_
  refine r_icmp_ge (pc := 25) (tgt := 112) dX7_most_25 (by decide) (fun q => ?_) (fun q => ?_)
  · have K0 := K0.1 q
    refine r_iconst (pc := 112) (v := (-1)) dX7_most_112 (by decide) ?_
    exact s_iret rfl dX7_most_113 K0
  · have K0 := K0.2 q
    refine r_aload_n (pc := 28) dX7_most_28 rfl ?_
    refine s_getR (pc := 29) dX7_most_29 fl_X7_20 rfl k_b0 g_b0_2 ?_
    refine r_iload_n (pc := 32) dX7_most_32 rfl ?_
    refine r_iload_n (pc := 33) dX7_most_33 rfl ?_
    refine s_VI (pc := 34) mX4_basisOf (ci := 4) (a := b0_2) (As := [.int l3, .int l1]) dX7_most_34 lk_X7_263 in_X4_basisOf mo_X4_basisOf ⟨by decide, rfl⟩ ⟨by decide, by decide⟩ (Nat.le_of_ble_eq_true rfl) k_b0_2 (mSI_mono K0 (fun r_3 y_2 K0 => ?_))
    refine r_istore (pc := 37) dX7_most_37 (by decide) ?_
    refine r_iconst (pc := 39) (L := [some (.ref b0), some (.int l1), some (.int l2), some (.int l3), some (.int r_3), none, none, none]) (v := 0) dX7_most_39 (by decide) ?_
    refine r_istore (pc := 40) dX7_most_40 (by decide) ?_
    refine r_iconst (pc := 42) (L := [some (.ref b0), some (.int l1), some (.int l2), some (.int l3), some (.int r_3), some (.int 0), none, none]) (v := 0) dX7_most_42 (by decide) ?_
    refine r_istore (pc := 43) dX7_most_43 (by decide) ?_
    exact r_le (L' := [some (.ref b0), some (.int l1), some (.int l2), some (.int l3), some (.int r_3), some (.int 0), some (.int 0), none]) ⟨rfl, ⟨rfl, ⟨rfl, ⟨rfl, ⟨rfl, ⟨rfl, ⟨rfl, trivial⟩⟩⟩⟩⟩⟩⟩ K0
set_option maxHeartbeats 2000000 in
theorem v_X7_most_45 {K : Sh} {x : Cn} {Q : Int32 → Cn → Prop} {b0 : Nat} {l1 : Int32} {l2 : Int32} {l3 : Int32} {l4 : Int32} {l5 : Int32} {l6 : Int32} {b0_3 : Nat} {b0_2 : Nat} (k_b0 : kk K b0 = some (7, 0)) (g_b0_3 : gr x b0 3 = some b0_3) (k_b0_3 : kk K b0_3 = some (1, 0)) (g_b0_2 : gr x b0 2 = some b0_2) (k_b0_2 : kk K b0_2 = some (4, 0)) (K0 : ((gi x b0_3 0) ≤ l6 → ((¬ l5 = l2 → (GI mX7_most 17 [some (.ref b0), some (.int l1), some (.int l2), some (.int (l3 + 1)), none, none, none, none] [] K x Q)) ∧ (l5 = l2 → (Q l3 x)))) ∧ (¬ (gi x b0_3 0) ≤ l6 → (mSI mX4_basisOf [.ref b0_2, .int l6, .int l1] K x (fun r_4 y_3 => (l4 < r_4 → (GI mX7_most 45 [some (.ref b0), some (.int l1), some (.int l2), some (.int l3), some (.int l4), some (.int (l5 + 1)), some (.int (l6 + 1)), none] [] K y_3 Q)) ∧ (¬ l4 < r_4 → ((¬ r_4 = l4 → (GI mX7_most 45 [some (.ref b0), some (.int l1), some (.int l2), some (.int l3), some (.int l4), some (.int l5), some (.int (l6 + 1)), none] [] K y_3 Q)) ∧ (r_4 = l4 → ((l3 ≤ l6 → (GI mX7_most 45 [some (.ref b0), some (.int l1), some (.int l2), some (.int l3), some (.int l4), some (.int l5), some (.int (l6 + 1)), none] [] K y_3 Q)) ∧ (¬ l3 ≤ l6 → (GI mX7_most 45 [some (.ref b0), some (.int l1), some (.int l2), some (.int l3), some (.int l4), some (.int (l5 + 1)), some (.int (l6 + 1)), none] [] K y_3 Q)))))))))) : GI mX7_most 45 [some (.ref b0), some (.int l1), some (.int l2), some (.int l3), some (.int l4), some (.int l5), some (.int l6), none] [] K x Q := by
  show mGM mX7_most 45 [some (.ref b0), some (.int l1), some (.int l2), some (.int l3), some (.int l4), some (.int l5), some (.int l6), none] [] (hp K x) (PI K Q)
  refine r_iload (pc := 45) dX7_most_45 rfl ?_
  refine r_aload_n (pc := 47) dX7_most_47 rfl ?_
  refine s_getR (pc := 48) dX7_most_48 fl_X7_27 rfl k_b0 g_b0_3 ?_
  refine s_getI (pc := 51) dX7_most_51 fl_X7_94 rfl k_b0_3 ?_
  refine r_icmp_ge (pc := 54) (tgt := 98) dX7_most_54 (by decide) (fun q => ?_) (fun q => ?_)
  · have K0 := K0.1 q
    refine r_iload (pc := 98) dX7_most_98 rfl ?_
    refine r_iload_n (pc := 100) dX7_most_100 rfl ?_
    refine r_icmp_ne (pc := 101) (tgt := 106) dX7_most_101 (by decide) (fun q => ?_) (fun q => ?_)
    · have K0 := K0.1 q
      refine r_iinc (pc := 106) (v := l3 + 1) dX7_most_106 rfl rfl (by decide) ?_
      refine r_goto (pc := 109) (L := [some (.ref b0), some (.int l1), some (.int l2), some (.int (l3 + 1)), some (.int l4), some (.int l5), some (.int l6), none]) (tgt := 17) dX7_most_109 (by decide) ?_
      exact r_le (L' := [some (.ref b0), some (.int l1), some (.int l2), some (.int (l3 + 1)), none, none, none, none]) ⟨rfl, ⟨rfl, ⟨rfl, ⟨rfl, trivial⟩⟩⟩⟩ K0
    · have K0 := K0.2 q
      refine r_iload_n (pc := 104) dX7_most_104 rfl ?_
      exact s_iret rfl dX7_most_105 K0
  · have K0 := K0.2 q
    refine r_aload_n (pc := 57) dX7_most_57 rfl ?_
    refine s_getR (pc := 58) dX7_most_58 fl_X7_20 rfl k_b0 g_b0_2 ?_
    refine r_iload (pc := 61) dX7_most_61 rfl ?_
    refine r_iload_n (pc := 63) dX7_most_63 rfl ?_
    refine s_VI (pc := 64) mX4_basisOf (ci := 4) (a := b0_2) (As := [.int l6, .int l1]) dX7_most_64 lk_X7_263 in_X4_basisOf mo_X4_basisOf ⟨by decide, rfl⟩ ⟨by decide, by decide⟩ (Nat.le_of_ble_eq_true rfl) k_b0_2 (mSI_mono K0 (fun r_4 y_3 K0 => ?_))
    refine r_istore (pc := 67) dX7_most_67 (by decide) ?_
    refine r_iload (pc := 69) (L := [some (.ref b0), some (.int l1), some (.int l2), some (.int l3), some (.int l4), some (.int l5), some (.int l6), some (.int r_4)]) dX7_most_69 rfl ?_
    refine r_iload (pc := 71) dX7_most_71 rfl ?_
    refine r_icmp_gt (pc := 73) (tgt := 89) dX7_most_73 (by decide) (fun q => ?_) (fun q => ?_)
    · have K0 := K0.1 q
      refine r_iinc (pc := 89) (v := l5 + 1) dX7_most_89 rfl rfl (by decide) ?_
      refine r_iinc (pc := 92) (L := [some (.ref b0), some (.int l1), some (.int l2), some (.int l3), some (.int l4), some (.int (l5 + 1)), some (.int l6), some (.int r_4)]) (v := l6 + 1) dX7_most_92 rfl rfl (by decide) ?_
      refine r_goto (pc := 95) (L := [some (.ref b0), some (.int l1), some (.int l2), some (.int l3), some (.int l4), some (.int (l5 + 1)), some (.int (l6 + 1)), some (.int r_4)]) (tgt := 45) dX7_most_95 (by decide) ?_
      exact r_le (L' := [some (.ref b0), some (.int l1), some (.int l2), some (.int l3), some (.int l4), some (.int (l5 + 1)), some (.int (l6 + 1)), none]) ⟨rfl, ⟨rfl, ⟨rfl, ⟨rfl, ⟨rfl, ⟨rfl, ⟨rfl, trivial⟩⟩⟩⟩⟩⟩⟩ K0
    · have K0 := K0.2 q
      refine r_iload (pc := 76) dX7_most_76 rfl ?_
      refine r_iload (pc := 78) dX7_most_78 rfl ?_
      refine r_icmp_ne (pc := 80) (tgt := 92) dX7_most_80 (by decide) (fun q => ?_) (fun q => ?_)
      · have K0 := K0.1 q
        refine r_iinc (pc := 92) (v := l6 + 1) dX7_most_92 rfl rfl (by decide) ?_
        refine r_goto (pc := 95) (L := [some (.ref b0), some (.int l1), some (.int l2), some (.int l3), some (.int l4), some (.int l5), some (.int (l6 + 1)), some (.int r_4)]) (tgt := 45) dX7_most_95 (by decide) ?_
        exact r_le (L' := [some (.ref b0), some (.int l1), some (.int l2), some (.int l3), some (.int l4), some (.int l5), some (.int (l6 + 1)), none]) ⟨rfl, ⟨rfl, ⟨rfl, ⟨rfl, ⟨rfl, ⟨rfl, ⟨rfl, trivial⟩⟩⟩⟩⟩⟩⟩ K0
      · have K0 := K0.2 q
        refine r_iload (pc := 83) dX7_most_83 rfl ?_
        refine r_iload_n (pc := 85) dX7_most_85 rfl ?_
        refine r_icmp_ge (pc := 86) (tgt := 92) dX7_most_86 (by decide) (fun q => ?_) (fun q => ?_)
        · have K0 := K0.1 q
          refine r_iinc (pc := 92) (v := l6 + 1) dX7_most_92 rfl rfl (by decide) ?_
          refine r_goto (pc := 95) (L := [some (.ref b0), some (.int l1), some (.int l2), some (.int l3), some (.int l4), some (.int l5), some (.int (l6 + 1)), some (.int r_4)]) (tgt := 45) dX7_most_95 (by decide) ?_
          exact r_le (L' := [some (.ref b0), some (.int l1), some (.int l2), some (.int l3), some (.int l4), some (.int l5), some (.int (l6 + 1)), none]) ⟨rfl, ⟨rfl, ⟨rfl, ⟨rfl, ⟨rfl, ⟨rfl, ⟨rfl, trivial⟩⟩⟩⟩⟩⟩⟩ K0
        · have K0 := K0.2 q
          refine r_iinc (pc := 89) (v := l5 + 1) dX7_most_89 rfl rfl (by decide) ?_
          refine r_iinc (pc := 92) (L := [some (.ref b0), some (.int l1), some (.int l2), some (.int l3), some (.int l4), some (.int (l5 + 1)), some (.int l6), some (.int r_4)]) (v := l6 + 1) dX7_most_92 rfl rfl (by decide) ?_
          refine r_goto (pc := 95) (L := [some (.ref b0), some (.int l1), some (.int l2), some (.int l3), some (.int l4), some (.int (l5 + 1)), some (.int (l6 + 1)), some (.int r_4)]) (tgt := 45) dX7_most_95 (by decide) ?_
          exact r_le (L' := [some (.ref b0), some (.int l1), some (.int l2), some (.int l3), some (.int l4), some (.int (l5 + 1)), some (.int (l6 + 1)), none]) ⟨rfl, ⟨rfl, ⟨rfl, ⟨rfl, ⟨rfl, ⟨rfl, ⟨rfl, trivial⟩⟩⟩⟩⟩⟩⟩ K0
set_option maxHeartbeats 2000000 in
theorem v_X8_most_0 {K : Sh} {x : Cn} {Q : Int32 → Cn → Prop} {b0 : Nat} {l1 : Int32} {l2 : Int32} {b0_1 : Nat} {n_b0_1 : Nat} (k_b0 : kk K b0 = some (8, 0)) (g_b0_1 : gr x b0 1 = some b0_1) (k_b0_1 : kk K b0_1 = some (20, n_b0_1)) (K0 : vp_in 0 n_b0_1 ∧ ((¬ (0 < gi x b0_1 0 ∧ 0 ≤ l1 ∧ l1 ≤ 6) → (Q (-2) x)) ∧ ((0 < gi x b0_1 0 ∧ 0 ≤ l1 ∧ l1 ≤ 6) → ((0 ≤ l2 → (GI mX8_most 17 [some (.ref b0), some (.int l1), some (.int l2), some (.int 0), none, none] [] K x Q)) ∧ (¬ 0 ≤ l2 → (Q (-2) x)))))) : mSI mX8_most [.ref b0, .int l1, .int l2] K x Q := by
  refine s_I (by decide) (by simp [Value.category]) (Nat.le_of_ble_eq_true rfl) ?_
  show mGM mX8_most 0 [some (.ref b0), some (.int l1), some (.int l2), none, none, none] [] (hp K x) (PI K Q)
  refine r_aload_n (pc := 0) dX8_most_0 rfl ?_
  refine r_iload_n (pc := 1) dX8_most_1 rfl ?_
  obtain ⟨i_1, K0⟩ := K0
  refine s_VI (pc := 2) mX8_isDay (ci := 8) (a := b0) (As := [.int l1]) dX8_most_2 lk_X8_61 in_X8_isDay mo_X8_isDay ⟨by decide, rfl⟩ ⟨by decide, by decide⟩ (Nat.le_of_ble_eq_true rfl) k_b0 (sp_X8_isDay k_b0 g_b0_1 k_b0_1 i_1 ?_)
  refine r_if_eq (pc := 5) (tgt := 12) dX8_most_5 (by decide) (fun q => ?_) (fun q => ?_)
  · have q := (b2i_z _).mp q
    have K0 := K0.1 q
    refine r_bipush (pc := 12) (v := (-2)) dX8_most_12 (by decide) ?_
    exact s_iret rfl dX8_most_14 K0
  · have q := b2i_nz q
    have K0 := K0.2 q
    refine r_iload_n (pc := 8) dX8_most_8 rfl ?_
    refine r_if_ge (pc := 9) (tgt := 15) dX8_most_9 (by decide) (fun q => ?_) (fun q => ?_)
    · have K0 := K0.1 q
      refine r_iconst (pc := 15) (v := 0) dX8_most_15 (by decide) ?_
      refine r_istore_n (pc := 16) dX8_most_16 (by decide) ?_
      exact r_le (L' := [some (.ref b0), some (.int l1), some (.int l2), some (.int 0), none, none]) ⟨rfl, ⟨rfl, ⟨rfl, ⟨rfl, trivial⟩⟩⟩⟩ K0
    · have K0 := K0.2 q
      refine r_bipush (pc := 12) (v := (-2)) dX8_most_12 (by decide) ?_
      exact s_iret rfl dX8_most_14 K0
set_option maxHeartbeats 2000000 in
theorem v_X8_most_17 {K : Sh} {x : Cn} {Q : Int32 → Cn → Prop} {b0 : Nat} {l1 : Int32} {l2 : Int32} {l3 : Int32} {b0_1 : Nat} {n_b0_1 : Nat} (k_b0 : kk K b0 = some (8, 0)) (g_b0_1 : gr x b0 1 = some b0_1) (k_b0_1 : kk K b0_1 = some (20, n_b0_1)) (K0 : vp_in 1 n_b0_1 ∧ (((gi x b0_1 1) ≤ l3 → (Q (-1) x)) ∧ (¬ (gi x b0_1 1) ≤ l3 → (GI mX8_most 33 [some (.ref b0), some (.int l1), some (.int l2), some (.int l3), some (.int 0), some (.int 0)] [] K x Q)))) : GI mX8_most 17 [some (.ref b0), some (.int l1), some (.int l2), some (.int l3), none, none] [] K x Q := by
  show mGM mX8_most 17 [some (.ref b0), some (.int l1), some (.int l2), some (.int l3), none, none] [] (hp K x) (PI K Q)
  refine r_iload_n (pc := 17) dX8_most_17 rfl ?_
  refine r_aload_n (pc := 18) dX8_most_18 rfl ?_
  refine s_getR (pc := 19) dX8_most_19 fl_X8_9 rfl k_b0 g_b0_1 ?_
  refine r_iconst (pc := 22) (v := 1) dX8_most_22 (by decide) ?_
  obtain ⟨i_1, K0⟩ := K0
  refine s_iald (pc := 23) dX8_most_23 k_b0_1 i_1 ?_
  refine r_icmp_ge (pc := 24) (tgt := 112) dX8_most_24 (by decide) (fun q => ?_) (fun q => ?_)
  · have K0 := K0.1 q
    refine r_iconst (pc := 112) (v := (-1)) dX8_most_112 (by decide) ?_
    exact s_iret rfl dX8_most_113 K0
  · have K0 := K0.2 q
    refine r_iconst (pc := 27) (v := 0) dX8_most_27 (by decide) ?_
    refine r_istore (pc := 28) dX8_most_28 (by decide) ?_
    refine r_iconst (pc := 30) (L := [some (.ref b0), some (.int l1), some (.int l2), some (.int l3), some (.int 0), none]) (v := 0) dX8_most_30 (by decide) ?_
    refine r_istore (pc := 31) dX8_most_31 (by decide) ?_
    exact r_le (L' := [some (.ref b0), some (.int l1), some (.int l2), some (.int l3), some (.int 0), some (.int 0)]) ⟨rfl, ⟨rfl, ⟨rfl, ⟨rfl, ⟨rfl, ⟨rfl, trivial⟩⟩⟩⟩⟩⟩ K0
set_option maxHeartbeats 2000000 in
theorem v_X8_most_33 {K : Sh} {x : Cn} {Q : Int32 → Cn → Prop} {b0 : Nat} {l1 : Int32} {l2 : Int32} {l3 : Int32} {l4 : Int32} {l5 : Int32} {b0_1 : Nat} {n_b0_1 : Nat} (k_b0 : kk K b0 = some (8, 0)) (g_b0_1 : gr x b0 1 = some b0_1) (k_b0_1 : kk K b0_1 = some (20, n_b0_1)) (K0 : vp_in 1 n_b0_1 ∧ (((gi x b0_1 1) ≤ l5 → ((¬ l4 = l2 → (GI mX8_most 17 [some (.ref b0), some (.int l1), some (.int l2), some (.int (l3 + 1)), none, none] [] K x Q)) ∧ (l4 = l2 → (Q l3 x)))) ∧ (¬ (gi x b0_1 1) ≤ l5 → (mSI mX8_basisOn [.ref b0, .int l5, .int l1] K x (fun r_5 y_4 => mSI mX8_basisOn [.ref b0, .int l3, .int l1] K y_4 (fun r_7 y_6 => (r_7 < r_5 → (GI mX8_most 33 [some (.ref b0), some (.int l1), some (.int l2), some (.int l3), some (.int (l4 + 1)), some (.int (l5 + 1))] [] K y_6 Q)) ∧ (¬ r_7 < r_5 → (mSI mX8_basisOn [.ref b0, .int l5, .int l1] K y_6 (fun r_10 y_9 => mSI mX8_basisOn [.ref b0, .int l3, .int l1] K y_9 (fun r_12 y_11 => (¬ r_10 = r_12 → (GI mX8_most 33 [some (.ref b0), some (.int l1), some (.int l2), some (.int l3), some (.int (l4 + 0)), some (.int (l5 + 1))] [] K y_11 Q)) ∧ (r_10 = r_12 → ((l3 ≤ l5 → (GI mX8_most 33 [some (.ref b0), some (.int l1), some (.int l2), some (.int l3), some (.int (l4 + 0)), some (.int (l5 + 1))] [] K y_11 Q)) ∧ (¬ l3 ≤ l5 → (GI mX8_most 33 [some (.ref b0), some (.int l1), some (.int l2), some (.int l3), some (.int (l4 + 1)), some (.int (l5 + 1))] [] K y_11 Q)))))))))))))) : GI mX8_most 33 [some (.ref b0), some (.int l1), some (.int l2), some (.int l3), some (.int l4), some (.int l5)] [] K x Q := by
  show mGM mX8_most 33 [some (.ref b0), some (.int l1), some (.int l2), some (.int l3), some (.int l4), some (.int l5)] [] (hp K x) (PI K Q)
  refine r_iload (pc := 33) dX8_most_33 rfl ?_
  refine r_aload_n (pc := 35) dX8_most_35 rfl ?_
  refine s_getR (pc := 36) dX8_most_36 fl_X8_9 rfl k_b0 g_b0_1 ?_
  refine r_iconst (pc := 39) (v := 1) dX8_most_39 (by decide) ?_
  obtain ⟨i_1, K0⟩ := K0
  refine s_iald (pc := 40) dX8_most_40 k_b0_1 i_1 ?_
  refine r_icmp_ge (pc := 41) (tgt := 98) dX8_most_41 (by decide) (fun q => ?_) (fun q => ?_)
  · have K0 := K0.1 q
    refine r_iload (pc := 98) dX8_most_98 rfl ?_
    refine r_iload_n (pc := 100) dX8_most_100 rfl ?_
    refine r_icmp_ne (pc := 101) (tgt := 106) dX8_most_101 (by decide) (fun q => ?_) (fun q => ?_)
    · have K0 := K0.1 q
      refine r_iinc (pc := 106) (v := l3 + 1) dX8_most_106 rfl rfl (by decide) ?_
      refine r_goto (pc := 109) (L := [some (.ref b0), some (.int l1), some (.int l2), some (.int (l3 + 1)), some (.int l4), some (.int l5)]) (tgt := 17) dX8_most_109 (by decide) ?_
      exact r_le (L' := [some (.ref b0), some (.int l1), some (.int l2), some (.int (l3 + 1)), none, none]) ⟨rfl, ⟨rfl, ⟨rfl, ⟨rfl, trivial⟩⟩⟩⟩ K0
    · have K0 := K0.2 q
      refine r_iload_n (pc := 104) dX8_most_104 rfl ?_
      exact s_iret rfl dX8_most_105 K0
  · have K0 := K0.2 q
    refine r_iload (pc := 44) dX8_most_44 rfl ?_
    refine r_aload_n (pc := 46) dX8_most_46 rfl ?_
    refine r_iload (pc := 47) dX8_most_47 rfl ?_
    refine r_iload_n (pc := 49) dX8_most_49 rfl ?_
    refine s_VI (pc := 50) mX8_basisOn (ci := 8) (a := b0) (As := [.int l5, .int l1]) dX8_most_50 lk_X8_323 in_X8_basisOn mo_X8_basisOn ⟨by decide, rfl⟩ ⟨by decide, by decide⟩ (Nat.le_of_ble_eq_true rfl) k_b0 (mSI_mono K0 (fun r_5 y_4 K0 => ?_))
    refine r_aload_n (pc := 53) dX8_most_53 rfl ?_
    refine r_iload_n (pc := 54) dX8_most_54 rfl ?_
    refine r_iload_n (pc := 55) dX8_most_55 rfl ?_
    refine s_VI (pc := 56) mX8_basisOn (ci := 8) (a := b0) (As := [.int l3, .int l1]) dX8_most_56 lk_X8_323 in_X8_basisOn mo_X8_basisOn ⟨by decide, rfl⟩ ⟨by decide, by decide⟩ (Nat.le_of_ble_eq_true rfl) k_b0 (mSI_mono K0 (fun r_7 y_6 K0 => ?_))
    refine r_icmp_gt (pc := 59) (tgt := 84) dX8_most_59 (by decide) (fun q => ?_) (fun q => ?_)
    · have K0 := K0.1 q
      refine r_iconst (pc := 84) (v := 1) dX8_most_84 (by decide) ?_
      refine r_goto (pc := 85) (tgt := 89) dX8_most_85 (by decide) ?_
      refine r_iadd (pc := 89) dX8_most_89 ?_
      refine r_istore (pc := 90) dX8_most_90 (by decide) ?_
      refine r_iinc (pc := 92) (L := [some (.ref b0), some (.int l1), some (.int l2), some (.int l3), some (.int (l4 + 1)), some (.int l5)]) (v := l5 + 1) dX8_most_92 rfl rfl (by decide) ?_
      refine r_goto (pc := 95) (L := [some (.ref b0), some (.int l1), some (.int l2), some (.int l3), some (.int (l4 + 1)), some (.int (l5 + 1))]) (tgt := 33) dX8_most_95 (by decide) ?_
      exact r_le (L' := [some (.ref b0), some (.int l1), some (.int l2), some (.int l3), some (.int (l4 + 1)), some (.int (l5 + 1))]) ⟨rfl, ⟨rfl, ⟨rfl, ⟨rfl, ⟨rfl, ⟨rfl, trivial⟩⟩⟩⟩⟩⟩ K0
    · have K0 := K0.2 q
      refine r_aload_n (pc := 62) dX8_most_62 rfl ?_
      refine r_iload (pc := 63) dX8_most_63 rfl ?_
      refine r_iload_n (pc := 65) dX8_most_65 rfl ?_
      refine s_VI (pc := 66) mX8_basisOn (ci := 8) (a := b0) (As := [.int l5, .int l1]) dX8_most_66 lk_X8_323 in_X8_basisOn mo_X8_basisOn ⟨by decide, rfl⟩ ⟨by decide, by decide⟩ (Nat.le_of_ble_eq_true rfl) k_b0 (mSI_mono K0 (fun r_10 y_9 K0 => ?_))
      refine r_aload_n (pc := 69) dX8_most_69 rfl ?_
      refine r_iload_n (pc := 70) dX8_most_70 rfl ?_
      refine r_iload_n (pc := 71) dX8_most_71 rfl ?_
      refine s_VI (pc := 72) mX8_basisOn (ci := 8) (a := b0) (As := [.int l3, .int l1]) dX8_most_72 lk_X8_323 in_X8_basisOn mo_X8_basisOn ⟨by decide, rfl⟩ ⟨by decide, by decide⟩ (Nat.le_of_ble_eq_true rfl) k_b0 (mSI_mono K0 (fun r_12 y_11 K0 => ?_))
      refine r_icmp_ne (pc := 75) (tgt := 88) dX8_most_75 (by decide) (fun q => ?_) (fun q => ?_)
      · have K0 := K0.1 q
        refine r_iconst (pc := 88) (v := 0) dX8_most_88 (by decide) ?_
        refine r_iadd (pc := 89) dX8_most_89 ?_
        refine r_istore (pc := 90) dX8_most_90 (by decide) ?_
        refine r_iinc (pc := 92) (L := [some (.ref b0), some (.int l1), some (.int l2), some (.int l3), some (.int (l4 + 0)), some (.int l5)]) (v := l5 + 1) dX8_most_92 rfl rfl (by decide) ?_
        refine r_goto (pc := 95) (L := [some (.ref b0), some (.int l1), some (.int l2), some (.int l3), some (.int (l4 + 0)), some (.int (l5 + 1))]) (tgt := 33) dX8_most_95 (by decide) ?_
        exact r_le (L' := [some (.ref b0), some (.int l1), some (.int l2), some (.int l3), some (.int (l4 + 0)), some (.int (l5 + 1))]) ⟨rfl, ⟨rfl, ⟨rfl, ⟨rfl, ⟨rfl, ⟨rfl, trivial⟩⟩⟩⟩⟩⟩ K0
      · have K0 := K0.2 q
        refine r_iload (pc := 78) dX8_most_78 rfl ?_
        refine r_iload_n (pc := 80) dX8_most_80 rfl ?_
        refine r_icmp_ge (pc := 81) (tgt := 88) dX8_most_81 (by decide) (fun q => ?_) (fun q => ?_)
        · have K0 := K0.1 q
          refine r_iconst (pc := 88) (v := 0) dX8_most_88 (by decide) ?_
          refine r_iadd (pc := 89) dX8_most_89 ?_
          refine r_istore (pc := 90) dX8_most_90 (by decide) ?_
          refine r_iinc (pc := 92) (L := [some (.ref b0), some (.int l1), some (.int l2), some (.int l3), some (.int (l4 + 0)), some (.int l5)]) (v := l5 + 1) dX8_most_92 rfl rfl (by decide) ?_
          refine r_goto (pc := 95) (L := [some (.ref b0), some (.int l1), some (.int l2), some (.int l3), some (.int (l4 + 0)), some (.int (l5 + 1))]) (tgt := 33) dX8_most_95 (by decide) ?_
          exact r_le (L' := [some (.ref b0), some (.int l1), some (.int l2), some (.int l3), some (.int (l4 + 0)), some (.int (l5 + 1))]) ⟨rfl, ⟨rfl, ⟨rfl, ⟨rfl, ⟨rfl, ⟨rfl, trivial⟩⟩⟩⟩⟩⟩ K0
        · have K0 := K0.2 q
          refine r_iconst (pc := 84) (v := 1) dX8_most_84 (by decide) ?_
          refine r_goto (pc := 85) (tgt := 89) dX8_most_85 (by decide) ?_
          refine r_iadd (pc := 89) dX8_most_89 ?_
          refine r_istore (pc := 90) dX8_most_90 (by decide) ?_
          refine r_iinc (pc := 92) (L := [some (.ref b0), some (.int l1), some (.int l2), some (.int l3), some (.int (l4 + 1)), some (.int l5)]) (v := l5 + 1) dX8_most_92 rfl rfl (by decide) ?_
          refine r_goto (pc := 95) (L := [some (.ref b0), some (.int l1), some (.int l2), some (.int l3), some (.int (l4 + 1)), some (.int (l5 + 1))]) (tgt := 33) dX8_most_95 (by decide) ?_
          exact r_le (L' := [some (.ref b0), some (.int l1), some (.int l2), some (.int l3), some (.int (l4 + 1)), some (.int (l5 + 1))]) ⟨rfl, ⟨rfl, ⟨rfl, ⟨rfl, ⟨rfl, ⟨rfl, trivial⟩⟩⟩⟩⟩⟩ K0
theorem eq_of (a b : Int32) : Both mX7_of mX8_of [.int a, .int b] := by
  intro x R
  obtain ⟨W, C, S, A, N, E, ⟨hc, -⟩, -⟩ := R.sea
  have hn := E.nums
  have ht := Rel.t2 E
  have hS : S ≤ 24 := hn.2.2.2.2.2.2.1
  have hC : C ≤ 8 := hn.2.2.2.2.2.1
  have iC := inN' (v := a) (n := C) (by omega)
  have hb : ((-1) ≤ b ∧ b ≤ 6) ↔ (b = -1 ∨ (0 ≤ b ∧ b < 7)) := by
    constructor
    · intro z
      by_cases g : b = -1
      · exact Or.inl g
      · refine Or.inr (d7.mp ⟨?_, z.2⟩)
        rw [Int32.le_iff_toInt_le] at z ⊢
        have g2 : ¬ b.toInt = (-1 : Int32).toInt := fun e => g (Int32.toInt_inj.mp e)
        have e1 : (-1 : Int32).toInt = -1 := by decide
        have e0 : (0 : Int32).toInt = 0 := by decide
        rw [e1] at z g2
        rw [e0]
        omega
    · rintro (g | g)
      · rw [g]; decide
      · exact ⟨Int32.le_trans (by decide) g.1, (d7.mpr g).2⟩
  have rf : mSI mX8_of [.ref 717, .int a, .int b] KW x (fun r' z => (if (0 ≤ a ∧ a < nI C) ∧ (b = -1 ∨ (0 ≤ b ∧ b < 7)) then accT (orS (c_of (gi x 718) a b)) S 0 else -2) = r' ∧ Rel z) := by
    refine v_X8_of_0 km R.2.1.1 km1 ⟨v0 (k := 1) (by decide) rfl rfl, ?_⟩
    rw [ht.2.1, iC, hb]
    refine ⟨fun z => ⟨if_neg (fun w => z w.1), R⟩, fun z => ⟨fun z2 => ?_, fun z2 => ⟨if_neg (fun w => z2 w.2), R⟩⟩⟩
    rw [if_pos ⟨z, z2⟩]
    refine lp_acc (orS (c_of (gi x 718) a b)) (fun s c => GI mX8_of 30 [some (.ref 717), some (.int a), some (.int b), some (.int c), some (.int (nI s))] [] KW x _) S 0 ?_ (fun s c hs n1 => ?_)
    · exact v_X8_of_30 km R.2.1.1 km1 R.2.1.2.2.1 km1 ⟨v0 (k := 2) (by decide) rfl rfl, fun _ => ⟨rfl, R⟩, fun z => absurd (by rw [ht.2.2.1]; exact Int32.le_refl _) z⟩
    · refine v_X8_of_30 km R.2.1.1 km1 R.2.1.2.2.1 km1 ⟨v0 (k := 2) (by decide) rfl rfl, fun z => absurd (by rw [ht.2.2.1] at z; exact z) (nI_ge hs (by omega)), fun _ => ⟨l24_nI (by omega) rfl, ?_⟩⟩
      rw [nI_clamp (show s < 2 ^ 31 by omega), nI_1, Int32.or_zero]
      exact ⟨fun z => n1 _ (if_neg (fun g => z g.1)), fun z1 => ⟨fun z => n1 _ (if_pos ⟨z1, Or.inl z⟩), fun z3 => ⟨fun z => n1 _ (if_neg (fun g => g.2.elim z3 z)), fun z => n1 _ (if_pos ⟨z1, Or.inr z⟩)⟩⟩⟩
  have go : (0 ≤ a ∧ a < nI C) → (b = -1 ∨ (0 ≤ b ∧ b < 7)) → GI mX7_of 29 [some (.ref 0), some (.int a), some (.int b), some (.int 0), some (.int 0)] [] KW x (fun r y => mSI mX8_of [.ref 717, .int a, .int b] KW y (fun r' z => r = r' ∧ Rel z)) := by
    intro z z2
    rw [if_pos ⟨z, z2⟩] at rf
    refine lp_acc (orS (c_of (gi x 718) a b)) (fun s c => GI mX7_of 29 [some (.ref 0), some (.int a), some (.int b), some (.int c), some (.int (nI s))] [] KW x _) S 0 ?_ (fun s c hs n1 => ?_)
    · exact v_X7_of_29 k0 R.1.2.1 (ks0 E.1) E.2.1.2.2.1 (ks3 E.1) ⟨fun _ => rf, fun z => absurd (by rw [hn.2.2.1]; exact Int32.le_refl _) z⟩
    · obtain ⟨p, e1, e2, e3, e4, -, e6⟩ := E.ser hs
      refine v_X7_of_29 k0 R.1.2.1 (ks0 E.1) E.2.1.2.2.1 (ks3 E.1) ⟨fun z => absurd (by rw [hn.2.2.1] at z; exact z) (nI_ge hs (by omega)), fun _ => ⟨vp_in_nI (by omega) (by decide), p, by rw [nI_clamp (by omega)]; exact e1, e2, ?_⟩⟩
      rw [e3.1 0 (by decide) (by decide), e3.1 1 (by decide) (by decide), nI_1]
      exact ⟨fun z => n1 _ (if_neg z), fun z => n1 _ (if_pos z)⟩
  refine v_X7_of_0 k0 R.1.2.2.1 (by decide) R.1.2.1 (ks0 E.1) ?_
  rw [hc, hn.1]
  refine ⟨fun z => by rwa [if_neg (fun w => z w.1)] at rf, fun z => ⟨fun z2 => go z (Or.inl z2), fun z2 => ⟨fun z3 => go z (Or.inr z3.2), fun z3 => ?_⟩⟩⟩
  rw [if_neg] at rf
  · exact rf
  · rintro ⟨w1, w2 | w2⟩
    · exact z2 w2
    · obtain ⟨j, hj, -⟩ := inN (by omega) z
      exact z3 ⟨nI_lt (a := 0) (E.cw (by omega)) (by omega), w2⟩
theorem eq_sum (a b : Int32) : Both mX7_sum mX8_sum [.int a, .int b] := by
  intro x R
  obtain ⟨W, C, S, A, N, E, ⟨hc, -⟩, -⟩ := R.sea
  have hn := E.nums
  have ht := Rel.t2 E
  have hS : S ≤ 24 := hn.2.2.2.2.2.2.1
  have hC : C ≤ 8 := hn.2.2.2.2.2.1
  have iC := inN' (v := a) (n := C) (by omega)
  let g : Nat → Int32 → Int32 := addS (fun s => so (gi x 718) s 0 = a) (fun s => nI (cpt (so (gi x 718) s (7 + b.toNatClampNeg))))
  have rf : mSI mX8_sum [.ref 717, .int a, .int b] KW x (fun r' z => (if (0 ≤ a ∧ a < nI C) ∧ (0 ≤ b ∧ b ≤ 4) then accT g S 0 else -2) = r' ∧ Rel z) := by
    refine v_X8_sum_0 km R.2.1.1 km1 ⟨v0 (k := 1) (by decide) rfl rfl, ?_⟩
    rw [ht.2.1, iC]
    refine ⟨fun z => ⟨if_neg (fun w => z w.1), R⟩, fun z => ⟨fun z2 => ?_, fun z2 => ⟨if_neg (fun w => z2 w.2), R⟩⟩⟩
    rw [if_pos ⟨z, z2⟩]
    refine lp_acc g (fun s c => GI mX8_sum 28 [some (.ref 717), some (.int a), some (.int b), some (.int c), some (.int (nI s))] [] KW x _) S 0 ?_ (fun s c hs n1 => ?_)
    · exact v_X8_sum_28 km R.2.1.1 km1 R.2.1.2.2.1 km1 ⟨v0 (k := 2) (by decide) rfl rfl, fun _ => ⟨rfl, R⟩, fun z => absurd (by rw [ht.2.2.1]; exact Int32.le_refl _) z⟩
    · obtain ⟨k, hk, ek⟩ := nI_of2 (M := 4) (n := 4) (by decide) (Int32.not_lt.mpr z2.1) z2.2
      have e7 : (7 : Int32) + b = nI (7 + k) := by rw [ek, show (7 : Int32) = nI 7 by decide, nI_add]
      have eb : b.toNatClampNeg = k := by rw [ek]; exact nI_clamp (by omega)
      refine v_X8_sum_28 km R.2.1.1 km1 R.2.1.2.2.1 km1 ⟨v0 (k := 2) (by decide) rfl rfl, fun z => absurd (by rw [ht.2.2.1] at z; exact z) (nI_ge hs (by omega)), fun _ => ⟨l24_nI (by omega) rfl, ?_⟩⟩
      rw [nI_clamp (show s < 2 ^ 31 by omega), nI_1, Int32.add_zero, e7, nI_clamp (by omega)]
      refine ⟨fun z => n1 _ (if_neg z), fun z => ⟨⟨nI_pos' (by omega), nI_lt (b := 12) (by omega) (by decide)⟩, fun r er => n1 _ ?_⟩⟩
      rw [er, ← eb]
      exact if_pos z
  refine v_X7_sum_0 k0 R.1.2.2.1 (by decide) ?_
  rw [hc]
  refine ⟨fun z => by rwa [if_neg (fun w => z w.1)] at rf, fun z => ⟨fun z2 => ?_, fun z2 => by rwa [if_neg (fun w => z2 w.2)] at rf⟩⟩
  rw [if_pos ⟨z, z2⟩] at rf
  obtain ⟨k, hk, ek⟩ := nI_of2 (M := 4) (n := 4) (by decide) (Int32.not_lt.mpr z2.1) z2.2
  have eb : b.toNatClampNeg = k := by rw [ek]; exact nI_clamp (by omega)
  refine lp_acc g (fun s c => GI mX7_sum 23 [some (.ref 0), some (.int a), some (.int b), some (.int c), some (.int (nI s))] [] KW x _) S 0 ?_ (fun s c hs n1 => ?_)
  · exact v_X7_sum_23 k0 R.1.2.1 (ks0 E.1) E.2.1.2.2.1 (ks3 E.1) ⟨fun _ => rf, fun z => absurd (by rw [hn.2.2.1]; exact Int32.le_refl _) z⟩
  · obtain ⟨p, e1, e2, e3, e4, -, e6⟩ := E.ser hs
    refine v_X7_sum_23 k0 R.1.2.1 (ks0 E.1) E.2.1.2.2.1 (ks3 E.1) ⟨fun z => absurd (by rw [hn.2.2.1] at z; exact z) (nI_ge hs (by omega)), fun _ => ⟨vp_in_nI (by omega) (by decide), p, by rw [nI_clamp (by omega)]; exact e1, e2, ?_⟩⟩
    rw [e3.1 0 (by decide) (by decide), nI_1, ek]
    refine ⟨fun z => ?_, fun z => sp_X5_bitsThatAre e2 e3 e6 (by omega) ?_⟩
    · rw [← ek]
      exact n1 _ (if_neg z)
    · rw [← ek]
      refine n1 _ ?_
      rw [← eb]
      exact if_pos z
theorem eq_longest (a : Int32) : Both mX7_longest mX8_longest [.int a] := by
  intro x R
  obtain ⟨W, C, S, A, N, E, -, -⟩ := R.sea
  have hn := E.nums
  have ht := Rel.t2 E
  have hS : S ≤ 24 := hn.2.2.2.2.2.2.1
  have hW : W ≤ 30 := hn.2.2.2.2.1
  have iS := inN' (v := a) (n := S) (by omega)
  have rf : mSI mX8_longest [.ref 717, .int a] KW x (fun r' z => (if 0 ≤ a ∧ a < nI S then (accT (stL (gi x 718) a.toNatClampNeg) W (0, 0)).1 else -2) = r' ∧ Rel z) := by
    refine v_X8_longest_0 km R.2.1.1 km1 ⟨v0 (k := 2) (by decide) rfl rfl, ?_⟩
    rw [ht.2.2.1, iS]
    refine ⟨fun z => ?_, fun z => ⟨if_neg z, R⟩⟩
    rw [if_pos z]
    obtain ⟨s, hs, rfl⟩ := inN (by omega) z
    rw [nI_clamp (by omega)]
    refine lp_acc (stL (gi x 718) s) (fun w c => GI mX8_longest 18 [some (.ref 717), some (.int (nI s)), some (.int c.1), some (.int c.2), some (.int (nI w))] [] KW x _) W (0, 0) ?_ (fun w c hw n1 => ?_)
    · exact v_X8_longest_18 km R.2.1.1 km1 R.2.1.2.2.1 km1 ⟨v0 (k := 0) (by decide) rfl rfl, fun _ => ⟨rfl, R⟩, fun z => absurd (by rw [ht.1]; exact Int32.le_refl _) z⟩
    · refine v_X8_longest_18 km R.2.1.1 km1 R.2.1.2.2.1 km1 ⟨v0 (k := 0) (by decide) rfl rfl, fun z => absurd (by rw [ht.1] at z; exact z) (nI_ge hw (by omega)), fun _ => ⟨l24_nI (by omega) rfl, ?_⟩⟩
      rw [nI_clamp (show s < 2 ^ 31 by omega), nI_1, f_has_tb _ (by omega)]
      exact ⟨fun z => n1 (_, 0) (if_neg z), fun z => n1 (_, _) (if_pos z)⟩
  refine v_X7_longest_0 k0 R.1.2.1 (ks0 E.1) E.2.1.2.2.1 (ks3 E.1) ?_
  rw [hn.2.2.1]
  refine ⟨fun z => ?_, fun z => by rwa [if_neg z] at rf⟩
  rw [if_pos z] at rf
  obtain ⟨s, hs, rfl⟩ := inN (by omega) z
  obtain ⟨p, e1, e2, e3, e4, -, e6⟩ := E.ser hs
  rw [nI_clamp (show s < 2 ^ 31 by omega)] at rf ⊢
  refine ⟨vp_in_nI (by omega) (by decide), p, e1, e2, ?_⟩
  rw [e3.1 9 (by decide) (by decide)]
  refine lp_acc (stL (gi x 718) s) (fun w c => GI mX7_longest 32 [some (.ref 0), some (.int (nI s)), some (.int (so (gi x 718) s 9)), some (.int c.1), some (.int c.2), some (.int (nI w))] [] KW x _) W (0, 0) ?_ (fun w c hw n1 => ?_)
  · exact v_X7_longest_32 k0 R.1.2.1 (ks0 E.1) ⟨fun _ => rf, fun z => absurd (by rw [hn.1]; exact Int32.le_refl _) z⟩
  · refine v_X7_longest_32 k0 R.1.2.1 (ks0 E.1) ⟨fun z => absurd (by rw [hn.1] at z; exact z) (nI_ge hw (by omega)), fun _ => ?_⟩
    rw [nI_1, f_bit_tb _ (by omega)]
    exact ⟨fun z => n1 (_, 0) (if_neg z), fun z => n1 (_, _) (if_pos z)⟩
theorem eq_best (a : Int32) : Both mX7_best mX8_best [.int a] := by
  intro x R
  obtain ⟨W, C, S, A, N, E, ⟨hc, -⟩, -⟩ := R.sea
  have hn := E.nums
  have ht := Rel.t2 E
  have hS : S ≤ 24 := hn.2.2.2.2.2.2.1
  have hC : C ≤ 8 := hn.2.2.2.2.2.1
  have rf : mSI mX8_best [.ref 717, .int a] KW x (fun r' z => (if 0 < nI W ∧ 0 ≤ a then lpR (stB (gi x 718) S C a) (fun _ => -1) C 0 () else -2) = r' ∧ Rel z) := by
    refine v_X8_best_0 km R.2.1.1 km1 ⟨v0 (k := 0) (by decide) rfl rfl, ?_⟩
    rw [ht.1]
    refine ⟨fun z => ⟨if_neg (fun w => z w.1), R⟩, fun z => ⟨fun z2 => ?_, fun z2 => ⟨if_neg (fun w => z2 w.2), R⟩⟩⟩
    rw [if_pos ⟨z, z2⟩]
    refine lp_gen (stB (gi x 718) S C a) (fun _ => -1) (fun c _ => GI mX8_best 16 [some (.ref 717), some (.int a), some (.int (nI c)), none, none] [] KW x _) (fun r => lpR (stB (gi x 718) S C a) (fun _ => -1) C 0 () = r ∧ Rel x) C (fun _ k => ?_) (fun c _ hc2 n1 n2 => ?_) C 0 () (by omega) ⟨rfl, R⟩
    · exact v_X8_best_16 km R.2.1.1 km1 ⟨v0 (k := 1) (by decide) rfl rfl, fun _ => k, fun z => absurd (by rw [ht.2.1]; exact Int32.le_refl _) z⟩
    · refine v_X8_best_16 km R.2.1.1 km1 ⟨v0 (k := 1) (by decide) rfl rfl, fun z => absurd (by rw [ht.2.1] at z; exact z) (nI_ge hc2 (by omega)), fun _ => ?_⟩
      refine lp_acc (ahd (gi x 718) S c) (fun d b => GI mX8_best 31 [some (.ref 717), some (.int a), some (.int (nI c)), some (.int b), some (.int (nI d))] [] KW x _) C 0 ?_ (fun d b hd m1 => ?_)
      · refine v_X8_best_31 km R.2.1.1 km1 ⟨v0 (k := 1) (by decide) rfl rfl, fun _ => ?_, fun z => absurd (by rw [ht.2.1]; exact Int32.le_refl _) z⟩
        rw [nI_1]
        exact ⟨fun z => n1 () (if_neg z), fun z => n2 _ (if_pos z)⟩
      · refine v_X8_best_31 km R.2.1.1 km1 ⟨v0 (k := 1) (by decide) rfl rfl, fun z => absurd (by rw [ht.2.1] at z; exact z) (nI_ge hd (by omega)), fun _ => ?_⟩
        rw [nI_1, Int32.add_zero, nI_eq (by omega) (by omega)]
        refine ⟨fun z => m1 _ (if_pos z), fun z => sp_X8_isBetter R.2.1 ht.2.2.1 hS ⟨fun z3 => m1 _ ?_, fun z3 => m1 _ ?_⟩⟩
        · show (if d = c then b else b + bP _) = b
          rw [if_neg z, z3, Int32.add_zero]
        · show (if d = c then b else b + bP _) = b + 1
          rw [if_neg z]
          rcases bP_01 (btr (gi x 718) S (nI d) (nI c)) with u | u
          · exact absurd u z3
          · rw [u]
  refine v_X7_best_0 k0 R.1.2.1 (ks0 E.1) ?_
  rw [hn.1]
  refine ⟨fun z => by rwa [if_neg (fun w => z w.1)] at rf, fun z => ⟨fun z2 => ?_, fun z2 => by rwa [if_neg (fun w => z2 w.2)] at rf⟩⟩
  rw [if_pos ⟨z, z2⟩] at rf
  refine lp_gen (stB (gi x 718) S C a) (fun _ => -1) (fun c _ => GI mX7_best 16 [some (.ref 0), some (.int a), some (.int (nI c)), none, none] [] KW x _) (fun r => mSI mX8_best [.ref 717, .int a] KW x (fun r' z => r = r' ∧ Rel z)) C (fun _ k => ?_) (fun c _ hc2 n1 n2 => ?_) C 0 () (by omega) rf
  · exact v_X7_best_16 k0 R.1.2.2.1 (by decide) ⟨fun _ => k, fun z => absurd (by rw [hc]; exact Int32.le_refl _) z⟩
  · refine v_X7_best_16 k0 R.1.2.2.1 (by decide) ⟨fun z => absurd (by rw [hc] at z; exact z) (nI_ge hc2 (by omega)), fun _ => ?_⟩
    refine lp_acc (ahd (gi x 718) S c) (fun d b => GI mX7_best 32 [some (.ref 0), some (.int a), some (.int (nI c)), some (.int b), some (.int (nI d))] [] KW x _) C 0 ?_ (fun d b hd m1 => ?_)
    · refine v_X7_best_32 k0 R.1.2.2.1 (by decide) ⟨fun _ => ?_, fun z => absurd (by rw [hc]; exact Int32.le_refl _) z⟩
      rw [nI_1]
      exact ⟨fun z => n1 () (if_neg z), fun z => n2 _ (if_pos z)⟩
    · refine v_X7_best_32 k0 R.1.2.2.1 (by decide) ⟨fun z => absurd (by rw [hc] at z; exact z) (nI_ge hd (by omega)), fun _ => ?_⟩
      rw [nI_1, nI_eq (by omega) (by omega)]
      refine ⟨fun z => m1 _ (if_pos z), fun z => sp_X7_usesMore R.1 E ⟨fun z3 => m1 _ ?_, fun z3 => m1 _ ?_⟩⟩
      · show (if d = c then b else b + bP _) = b
        rw [if_neg z, z3, Int32.add_zero]
      · show (if d = c then b else b + bP _) = b + 1
        rw [if_neg z]
        rcases bP_01 (btr (gi x 718) S (nI d) (nI c)) with u | u
        · exact absurd u z3
        · rw [u]
theorem eq_most (a k9 : Int32) : Both mX7_most mX8_most [.int a, .int k9] := by
  intro x R
  obtain ⟨W, C, S, A, N, E, ⟨hc, -⟩, -⟩ := R.sea
  have hn := E.nums
  have ht := Rel.t2 E
  have hS : S ≤ 24 := hn.2.2.2.2.2.2.1
  have hC : C ≤ 8 := hn.2.2.2.2.2.1
  have hb : ∀ {b : Int32}, (0 ≤ b ∧ b < 7) → ¬ b = -1 := fun z e => absurd (e ▸ z.1) (by decide)
  have rf : mSI mX8_most [.ref 717, .int a, .int k9] KW x (fun r' z => (if (0 < nI W ∧ 0 ≤ a ∧ a < 7) ∧ 0 ≤ k9 then lpR (stM (gi x 718) S C a k9) (fun _ => -1) C 0 () else -2) = r' ∧ Rel z) := by
    refine v_X8_most_0 km R.2.1.1 km1 ⟨v0 (k := 0) (by decide) rfl rfl, ?_⟩
    rw [ht.1, d7]
    refine ⟨fun z => ⟨if_neg (fun w => z w.1), R⟩, fun z => ⟨fun z2 => ?_, fun z2 => ⟨if_neg (fun w => z2 w.2), R⟩⟩⟩
    rw [if_pos ⟨z, z2⟩]
    have hd1 := hb z.2
    refine lp_gen (stM (gi x 718) S C a k9) (fun _ => -1) (fun c _ => GI mX8_most 17 [some (.ref 717), some (.int a), some (.int k9), some (.int (nI c)), none, none] [] KW x _) (fun r => lpR (stM (gi x 718) S C a k9) (fun _ => -1) C 0 () = r ∧ Rel x) C (fun _ k => ?_) (fun c _ hc2 n1 n2 => ?_) C 0 () (by omega) ⟨rfl, R⟩
    · exact v_X8_most_17 km R.2.1.1 km1 ⟨v0 (k := 1) (by decide) rfl rfl, fun _ => k, fun z => absurd (by rw [ht.2.1]; exact Int32.le_refl _) z⟩
    · refine v_X8_most_17 km R.2.1.1 km1 ⟨v0 (k := 1) (by decide) rfl rfl, fun z => absurd (by rw [ht.2.1] at z; exact z) (nI_ge hc2 (by omega)), fun _ => ?_⟩
      refine lp_acc (inc (cMo (gi x 718) S a c)) (fun d b => GI mX8_most 33 [some (.ref 717), some (.int a), some (.int k9), some (.int (nI c)), some (.int b), some (.int (nI d))] [] KW x _) C 0 ?_ (fun d b hd m1 => ?_)
      · refine v_X8_most_33 km R.2.1.1 km1 ⟨v0 (k := 1) (by decide) rfl rfl, fun _ => ?_, fun z => absurd (by rw [ht.2.1]; exact Int32.le_refl _) z⟩
        rw [nI_1]
        exact ⟨fun z => n1 () (if_neg z), fun z => n2 _ (if_pos z)⟩
      · refine v_X8_most_33 km R.2.1.1 km1 ⟨v0 (k := 1) (by decide) rfl rfl, fun z => absurd (by rw [ht.2.1] at z; exact z) (nI_ge hd (by omega)), fun _ => ?_⟩
        refine sp_X8_basisOn R.2.1 ht.2.2.1 hS hd1 (sp_X8_basisOn R.2.1 ht.2.2.1 hS hd1 ?_)
        rw [nI_1, Int32.add_zero]
        refine ⟨fun z => m1 _ (if_pos (Or.inl z)), fun z => sp_X8_basisOn R.2.1 ht.2.2.1 hS hd1 (sp_X8_basisOn R.2.1 ht.2.2.1 hS hd1 ⟨fun z3 => m1 _ (if_neg (fun u => u.elim z (fun v => z3 v.1))), fun z3 => ⟨fun z4 => m1 _ (if_neg (fun u => u.elim z (fun v => ?_))), fun z4 => m1 _ (if_pos (Or.inr ⟨z3, ?_⟩))⟩⟩)⟩
        · exact absurd z4 (nI_ge v.2 (by omega))
        · exact (nI_ltI (by omega) (by omega)).mp (Int32.not_le.mp z4)
  refine v_X7_most_0 k0 R.1.2.1 (ks0 E.1) ?_
  rw [hn.1]
  refine ⟨fun z => by rwa [if_neg (fun w => z w.1)] at rf, fun z => ⟨fun z2 => ?_, fun z2 => by rwa [if_neg (fun w => z2 w.2)] at rf⟩⟩
  rw [if_pos ⟨z, z2⟩] at rf
  refine lp_gen (stM (gi x 718) S C a k9) (fun _ => -1) (fun c _ => GI mX7_most 17 [some (.ref 0), some (.int a), some (.int k9), some (.int (nI c)), none, none, none, none] [] KW x _) (fun r => mSI mX8_most [.ref 717, .int a, .int k9] KW x (fun r' z => r = r' ∧ Rel z)) C (fun _ k => ?_) (fun c _ hc2 n1 n2 => ?_) C 0 () (by omega) rf
  · exact v_X7_most_17 k0 R.1.2.2.1 (by decide) R.1.2.1 (ks0 E.1) ⟨fun _ => k, fun z => absurd (by rw [hc]; exact Int32.le_refl _) z⟩
  · refine v_X7_most_17 k0 R.1.2.2.1 (by decide) R.1.2.1 (ks0 E.1) ⟨fun z => absurd (by rw [hc] at z; exact z) (nI_ge hc2 (by omega)), fun _ => sp_X4_basisOf E ?_⟩
    refine lp_acc (inc (cMo (gi x 718) S a c)) (fun d b => GI mX7_most 45 [some (.ref 0), some (.int a), some (.int k9), some (.int (nI c)), some (.int (bOf (gi x 718) S (nI c) a)), some (.int b), some (.int (nI d)), none] [] KW x _) C 0 ?_ (fun d b hd m1 => ?_)
    · refine v_X7_most_45 k0 R.1.2.2.1 (by decide) R.1.2.1 (ks0 E.1) ⟨fun _ => ?_, fun z => absurd (by rw [hc]; exact Int32.le_refl _) z⟩
      rw [nI_1]
      exact ⟨fun z => n1 () (if_neg z), fun z => n2 _ (if_pos z)⟩
    · refine v_X7_most_45 k0 R.1.2.2.1 (by decide) R.1.2.1 (ks0 E.1) ⟨fun z => absurd (by rw [hc] at z; exact z) (nI_ge hd (by omega)), fun _ => sp_X4_basisOf E ?_⟩
      rw [nI_1]
      refine ⟨fun z => m1 _ (if_pos (Or.inl z)), fun z => ⟨fun z3 => m1 _ (if_neg (fun u => u.elim z (fun v => z3 v.1))), fun z3 => ⟨fun z4 => m1 _ (if_neg (fun u => u.elim z (fun v => ?_))), fun z4 => m1 _ (if_pos (Or.inr ⟨z3, ?_⟩))⟩⟩⟩
      · exact absurd z4 (nI_ge v.2 (by omega))
      · exact (nI_ltI (by omega) (by omega)).mp (Int32.not_le.mp z4)
end
/-! 38.reads6.lean.txt -/
section
theorem km725 : kk KW 725 = some (21, 3000) := by decide
theorem k176 : kk KW 176 = some (21, 2400) := by decide
theorem CRf.c10 {x : Cn} (h : CRf x) : gr x 0 10 = some 175 := h.2.2.2.2.2.2.1
theorem CRf.c175 {x : Cn} (h : CRf x) : gr x 175 0 = some 176 := h.2.2.2.2.2.2.2.2.2.2.2.2.2.2.2.2.1
theorem TPr.keep {x y : Cn} (h : TPr x) (h1 : gi y 0 1 = gi x 0 1) (h2 : gi y 717 5 = gi x 717 5) (h3 : ∀ i, gi y 1 i = gi x 1 i) (h4 : ∀ i, gi y 720 i = gi x 720 i) : TPr y := by
  obtain ⟨n, n1, n2, n3, n4⟩ := h
  exact ⟨n, n1, h1.trans n2, h2.trans n3, fun i hi => by rw [h3, h4]; exact n4 i hi⟩
theorem OUr.keep {x y : Cn} (h : OUr x) (h1 : gi y 175 1 = gi x 175 1) (h2 : gi y 717 22 = gi x 717 22) (h3 : ∀ i, gi y 176 i = gi x 176 i) (h4 : ∀ i, gi y 725 i = gi x 725 i) : OUr y := by
  obtain ⟨n, n1, n2, n3, n4⟩ := h
  exact ⟨n, n1, h1.trans n2, h2.trans n3, fun i hi => by rw [h3, h4]; exact n4 i hi⟩
theorem NMr.keep {x y : Cn} {nb C : Nat} {T T' : TT} (h : NMr x nb T C) (h1 : gi y nb 0 = gi x nb 0) (h2 : ∀ i, gi y (nb + 1) i = gi x (nb + 1) i) (h3 : ∀ c, c < C → T' (54 + c) = T (54 + c)) : NMr y nb T' C := by
  refine ⟨h1.trans h.1, fun c hc => ?_⟩
  obtain ⟨v, v1, v2, v3⟩ := h.2 c hc
  exact ⟨v, v1, (h3 c hc).trans v2, fun i hi => by rw [h2]; exact v3 i hi⟩
theorem HSr.keep {x y : Cn} {T T' : TT} {C : Nat} (c : CRf x) (h : HSr x T C) (h0 : y.2 = x.2) (h1 : gi y 717 19 = gi x 717 19) (h2 : gi y 0 5 = gi x 0 5) (h3 : ∀ a k, 177 ≤ a → a < 717 → gi y a k = gi x a k) (h4 : ∀ i, gi y 724 i = gi x 724 i) (h5 : ∀ c, c < C → T' (54 + c) = T (54 + c)) : HSr y T' C := by
  obtain ⟨n, n1, n2, n3, n4⟩ := h
  refine ⟨n, n1, h1.trans n2, h2.trans n3, fun j hj => ?_⟩
  obtain ⟨q, W, S, A, N, q1, q2, q3⟩ := n4 j hj
  obtain ⟨i, hi, ei⟩ := c.2.2.2.2.2.2.2.2.2.2.2.2.2.2.2.2.2.2.2.2.1 j (by omega)
  have hq : q = 177 + 54 * i := Option.some.inj (q1.symm.trans ei)
  have eT : (fun i => gi y 724 (518 * j + i)) = fun i => gi x 724 (518 * j + i) := by funext k; exact h4 _
  have hg : ∀ b k, gr y b k = gr x b k := fun b k => by unfold gr; rw [h0]
  refine ⟨q, W, S, A, N, by rw [hg]; exact q1, ?_, fun c hc => ?_⟩
  · rw [eT]
    exact q2.keep h0 (fun a k h1 h2 h9 => h3 a k (by omega) (by omega))
  · rw [h4, h5 c hc]
    exact q3 c hc
set_option maxHeartbeats 2000000 in
theorem v_X7_octet_0 {K : Sh} {x : Cn} {Q : Int32 → Cn → Prop} {b0 : Nat} {l1 : Int32} {b0_10 : Nat} {b0_10_0 : Nat} {n_b0_10_0 : Nat} (k_b0 : kk K b0 = some (7, 0)) (g_b0_10 : gr x b0 10 = some b0_10) (k_b0_10 : kk K b0_10 = some (6, 0)) (g_b0_10_0 : gr x b0_10 0 = some b0_10_0) (k_b0_10_0 : kk K b0_10_0 = some (21, n_b0_10_0)) (K0 : (l1 < 0 → (Q (-1) x)) ∧ (¬ l1 < 0 → ((l1 < (gi x b0_10 1) → (vp_in l1 n_b0_10_0 ∧ (Q (gi x b0_10_0 (l1 : Int32).toNatClampNeg) x))) ∧ (¬ l1 < (gi x b0_10 1) → (Q (-1) x))))) : mSI mX7_octet [.ref b0, .int l1] K x Q := by
  refine s_I (by decide) (by simp [Value.category]) (Nat.le_of_ble_eq_true rfl) ?_
  show mGM mX7_octet 0 [some (.ref b0), some (.int l1)] [] (hp K x) (PI K Q)
  refine r_iload_n (pc := 0) dX7_octet_0 rfl ?_
  refine r_if_lt (pc := 1) (tgt := 15) dX7_octet_1 (by decide) (fun q => ?_) (fun q => ?_)
  · have K0 := K0.1 q
    refine r_iconst (pc := 15) (v := (-1)) dX7_octet_15 (by decide) ?_
    exact s_iret rfl dX7_octet_16 K0
  · have K0 := K0.2 q
    refine r_iload_n (pc := 4) dX7_octet_4 rfl ?_
    refine r_aload_n (pc := 5) dX7_octet_5 rfl ?_
    refine s_getR (pc := 6) dX7_octet_6 fl_X7_61 rfl k_b0 g_b0_10 ?_
    refine s_getI (pc := 9) dX7_octet_9 fl_X7_383 rfl k_b0_10 ?_
    refine r_icmp_lt (pc := 12) (tgt := 17) dX7_octet_12 (by decide) (fun q => ?_) (fun q => ?_)
    · have K0 := K0.1 q
      refine r_aload_n (pc := 17) dX7_octet_17 rfl ?_
      refine s_getR (pc := 18) dX7_octet_18 fl_X7_61 rfl k_b0 g_b0_10 ?_
      refine s_getR (pc := 21) dX7_octet_21 fl_X7_384 rfl k_b0_10 g_b0_10_0 ?_
      refine r_iload_n (pc := 24) dX7_octet_24 rfl ?_
      obtain ⟨i_3, K0⟩ := K0
      refine s_bald (pc := 25) dX7_octet_25 k_b0_10_0 i_3 ?_
      exact s_iret rfl dX7_octet_26 K0
    · have K0 := K0.2 q
      refine r_iconst (pc := 15) (v := (-1)) dX7_octet_15 (by decide) ?_
      exact s_iret rfl dX7_octet_16 K0
set_option maxHeartbeats 2000000 in
theorem v_X8_octet_0 {K : Sh} {x : Cn} {Q : Int32 → Cn → Prop} {b0 : Nat} {l1 : Int32} {b0_21 : Nat} {n_b0_21 : Nat} (k_b0 : kk K b0 = some (8, 0)) (g_b0_21 : gr x b0 21 = some b0_21) (k_b0_21 : kk K b0_21 = some (21, n_b0_21)) (K0 : (¬ (0 ≤ l1 ∧ l1 ≤ ((gi x b0 22) - 1)) → (Q (-1) x)) ∧ ((0 ≤ l1 ∧ l1 ≤ ((gi x b0 22) - 1)) → (vp_in l1 n_b0_21 ∧ (Q (gi x b0_21 (l1 : Int32).toNatClampNeg) x)))) : mSI mX8_octet [.ref b0, .int l1] K x Q := by
  refine s_I (by decide) (by simp [Value.category]) (Nat.le_of_ble_eq_true rfl) ?_
  show mGM mX8_octet 0 [some (.ref b0), some (.int l1)] [] (hp K x) (PI K Q)
  refine r_iload_n (pc := 0) dX8_octet_0 rfl ?_
  refine r_i2l (pc := 1) dX8_octet_1 ?_
  refine r_lconst (pc := 2) (v := 0) dX8_octet_2 (by decide) ?_
  refine r_aload_n (pc := 3) dX8_octet_3 rfl ?_
  refine s_getI (pc := 4) dX8_octet_4 fl_X8_398 rfl k_b0 ?_
  refine r_iconst (pc := 7) (v := 1) dX8_octet_7 (by decide) ?_
  refine r_isub (pc := 8) dX8_octet_8 ?_
  refine r_i2l (pc := 9) dX8_octet_9 ?_
  refine s_SI (pc := 10) mX8_in (As := [.long ((l1 : Int32).toInt64), .long 0, .long ((((gi x b0 22) - 1) : Int32).toInt64)]) dX8_octet_10 lk_X8_45 st_X8_in mo_X8_in ⟨by decide, by decide⟩ (Nat.le_of_ble_eq_true rfl) (sq_X8_in (v := l1) (lo := 0) (hi := ((gi x b0 22) - 1)) rfl (by decide) rfl ?_)
  refine r_if_eq (pc := 13) (tgt := 25) dX8_octet_13 (by decide) (fun q => ?_) (fun q => ?_)
  · have q := (b2i_z _).mp q
    have K0 := K0.1 q
    refine r_iconst (pc := 25) (v := (-1)) dX8_octet_25 (by decide) ?_
    exact s_iret rfl dX8_octet_26 K0
  · have q := b2i_nz q
    have K0 := K0.2 q
    refine r_aload_n (pc := 16) dX8_octet_16 rfl ?_
    refine s_getR (pc := 17) dX8_octet_17 fl_X8_39 rfl k_b0 g_b0_21 ?_
    refine r_iload_n (pc := 20) dX8_octet_20 rfl ?_
    obtain ⟨i_2, K0⟩ := K0
    refine s_bald (pc := 21) dX8_octet_21 k_b0_21 i_2 ?_
    refine r_goto (pc := 22) (tgt := 26) dX8_octet_22 (by decide) ?_
    exact s_iret rfl dX8_octet_26 K0
set_option maxHeartbeats 2000000 in
theorem v_X7_end_0 {K : Sh} {x : Cn} {Q : Int32 → Cn → Prop} {b0 : Nat} {l1 : Int32}  (k_b0 : kk K b0 = some (7, 0)) (K0 : (l1 < 0 → (Q (-1) x)) ∧ (¬ l1 < 0 → ((l1 ≤ (gi x b0 1) → (Q l1 (ui x b0 1 l1))) ∧ (¬ l1 ≤ (gi x b0 1) → (Q (-1) x))))) : mSI mX7_end [.ref b0, .int l1] K x Q := by
  refine s_I (by decide) (by simp [Value.category]) (Nat.le_of_ble_eq_true rfl) ?_
  show mGM mX7_end 0 [some (.ref b0), some (.int l1)] [] (hp K x) (PI K Q)
  refine r_iload_n (pc := 0) dX7_end_0 rfl ?_
  refine r_if_lt (pc := 1) (tgt := 12) dX7_end_1 (by decide) (fun q => ?_) (fun q => ?_)
  · have K0 := K0.1 q
    refine r_iconst (pc := 12) (v := (-1)) dX7_end_12 (by decide) ?_
    exact s_iret rfl dX7_end_13 K0
  · have K0 := K0.2 q
    refine r_iload_n (pc := 4) dX7_end_4 rfl ?_
    refine r_aload_n (pc := 5) dX7_end_5 rfl ?_
    refine s_getI (pc := 6) dX7_end_6 fl_X7_13 rfl k_b0 ?_
    refine r_icmp_le (pc := 9) (tgt := 14) dX7_end_9 (by decide) (fun q => ?_) (fun q => ?_)
    · have K0 := K0.1 q
      refine r_aload_n (pc := 14) dX7_end_14 rfl ?_
      refine r_iload_n (pc := 15) dX7_end_15 rfl ?_
      refine s_putI (pc := 16) dX7_end_16 fl_X7_13 rfl rfl k_b0 ?_
      refine r_iload_n (pc := 19) dX7_end_19 rfl ?_
      exact s_iret rfl dX7_end_20 K0
    · have K0 := K0.2 q
      refine r_iconst (pc := 12) (v := (-1)) dX7_end_12 (by decide) ?_
      exact s_iret rfl dX7_end_13 K0
set_option maxHeartbeats 2000000 in
theorem v_X8_end_0 {K : Sh} {x : Cn} {Q : Int32 → Cn → Prop} {b0 : Nat} {l1 : Int32}  (k_b0 : kk K b0 = some (8, 0)) (K0 : ((0 ≤ l1 ∧ l1 ≤ (gi x b0 5)) → (Q l1 (ui x b0 5 l1))) ∧ (¬ (0 ≤ l1 ∧ l1 ≤ (gi x b0 5)) → (Q (-1) x))) : mSI mX8_end [.ref b0, .int l1] K x Q := by
  refine s_I (by decide) (by simp [Value.category]) (Nat.le_of_ble_eq_true rfl) ?_
  show mGM mX8_end 0 [some (.ref b0), some (.int l1)] [] (hp K x) (PI K Q)
  refine r_iload_n (pc := 0) dX8_end_0 rfl ?_
  refine r_i2l (pc := 1) dX8_end_1 ?_
  refine r_lconst (pc := 2) (v := 0) dX8_end_2 (by decide) ?_
  refine r_aload_n (pc := 3) dX8_end_3 rfl ?_
  refine s_getI (pc := 4) dX8_end_4 fl_X8_94 rfl k_b0 ?_
  refine r_i2l (pc := 7) dX8_end_7 ?_
  refine s_SI (pc := 8) mX8_in (As := [.long ((l1 : Int32).toInt64), .long 0, .long (((gi x b0 5) : Int32).toInt64)]) dX8_end_8 lk_X8_45 st_X8_in mo_X8_in ⟨by decide, by decide⟩ (Nat.le_of_ble_eq_true rfl) (sq_X8_in (v := l1) (lo := 0) (hi := (gi x b0 5)) rfl (by decide) rfl ?_)
  refine r_if_ne (pc := 11) (tgt := 16) dX8_end_11 (by decide) (fun q => ?_) (fun q => ?_)
  · have q := b2i_nz q
    have K0 := K0.1 q
    refine r_aload_n (pc := 16) dX8_end_16 rfl ?_
    refine r_iload_n (pc := 17) dX8_end_17 rfl ?_
    refine s_putI (pc := 18) dX8_end_18 fl_X8_94 rfl rfl k_b0 ?_
    refine r_iload_n (pc := 21) dX8_end_21 rfl ?_
    exact s_iret rfl dX8_end_22 K0
  · have q := (b2i_z _).mp q
    have K0 := K0.2 q
    refine r_iconst (pc := 14) (v := (-1)) dX8_end_14 (by decide) ?_
    exact s_iret rfl dX8_end_15 K0
set_option maxHeartbeats 2000000 in
theorem v_X7_clash_0 {K : Sh} {x : Cn} {Q : Int32 → Cn → Prop} {b0 : Nat} {l1 : Int32} {l2 : Int32} {b0_2 : Nat} {b0_2_8 : Nat} {n_b0_2_8 : Nat} (k_b0 : kk K b0 = some (7, 0)) (g_b0_2 : gr x b0 2 = some b0_2) (k_b0_2 : kk K b0_2 = some (4, 0)) (g_b0_2_8 : gr x b0_2 8 = some b0_2_8) (k_b0_2_8 : kk K b0_2_8 = some (24, n_b0_2_8)) (K0 : (¬ (0 ≤ l1 ∧ l1 < gi x b0_2 4) → (Q (-2) x)) ∧ ((0 ≤ l1 ∧ l1 < gi x b0_2 4) → (((0 ≤ l2 ∧ l2 < gi x b0_2 4) → (vp_in l1 n_b0_2_8 ∧ (∃ c_4 : Nat, gr x b0_2_8 ((l1 : Int32).toNatClampNeg) = some c_4 ∧ (vp_in l2 n_b0_2_8 ∧ (∃ c_7 : Nat, gr x b0_2_8 ((l2 : Int32).toNatClampNeg) = some c_7 ∧ (kk K c_4 = some (0, 0) ∧ (kk K c_7 = some (0, 0) ∧ ((¬ (gi x c_4 1) = (gi x c_7 1) → (Q 0 x)) ∧ ((gi x c_4 1) = (gi x c_7 1) → (((gi x c_4 2) = (gi x c_7 2) → (Q (nI (cpt ((f_sb (gi x c_4 4) (gi x c_4 5)) &&& (f_sb (gi x c_7 4) (gi x c_7 5))))) x)) ∧ (¬ (gi x c_4 2) = (gi x c_7 2) → (Q 0 x)))))))))))) ∧ (¬ (0 ≤ l2 ∧ l2 < gi x b0_2 4) → (Q (-2) x))))) : mSI mX7_clash [.ref b0, .int l1, .int l2] K x Q := by
  refine s_I (by decide) (by simp [Value.category]) (Nat.le_of_ble_eq_true rfl) ?_
  show mGM mX7_clash 0 [some (.ref b0), some (.int l1), some (.int l2), none, none] [] (hp K x) (PI K Q)
  refine r_aload_n (pc := 0) dX7_clash_0 rfl ?_
  refine r_iload_n (pc := 1) dX7_clash_1 rfl ?_
  refine s_VI (pc := 2) mX7_isAsk (ci := 7) (a := b0) (As := [.int l1]) dX7_clash_2 lk_X7_173 in_X7_isAsk mo_X7_isAsk ⟨by decide, rfl⟩ ⟨by decide, by decide⟩ (Nat.le_of_ble_eq_true rfl) k_b0 (sp_X7_isAsk k_b0 g_b0_2 k_b0_2 ?_)
  refine r_if_eq (pc := 5) (tgt := 16) dX7_clash_5 (by decide) (fun q => ?_) (fun q => ?_)
  · have q := (b2i_z _).mp q
    have K0 := K0.1 q
    refine r_bipush (pc := 16) (v := (-2)) dX7_clash_16 (by decide) ?_
    exact s_iret rfl dX7_clash_18 K0
  · have q := b2i_nz q
    have K0 := K0.2 q
    refine r_aload_n (pc := 8) dX7_clash_8 rfl ?_
    refine r_iload_n (pc := 9) dX7_clash_9 rfl ?_
    refine s_VI (pc := 10) mX7_isAsk (ci := 7) (a := b0) (As := [.int l2]) dX7_clash_10 lk_X7_173 in_X7_isAsk mo_X7_isAsk ⟨by decide, rfl⟩ ⟨by decide, by decide⟩ (Nat.le_of_ble_eq_true rfl) k_b0 (sp_X7_isAsk k_b0 g_b0_2 k_b0_2 ?_)
    refine r_if_ne (pc := 13) (tgt := 19) dX7_clash_13 (by decide) (fun q => ?_) (fun q => ?_)
    · have q := b2i_nz q
      have K0 := K0.1 q
      refine r_aload_n (pc := 19) dX7_clash_19 rfl ?_
      refine s_getR (pc := 20) dX7_clash_20 fl_X7_20 rfl k_b0 g_b0_2 ?_
      refine s_getR (pc := 23) dX7_clash_23 fl_X7_176 rfl k_b0_2 g_b0_2_8 ?_
      refine r_iload_n (pc := 26) dX7_clash_26 rfl ?_
      obtain ⟨i_3, K0⟩ := K0
      obtain ⟨c_4, g_5, K0⟩ := K0
      refine s_aald (pc := 27) dX7_clash_27 (by decide) rfl k_b0_2_8 i_3 g_5 ?_
      refine r_astore_n (pc := 28) dX7_clash_28 (by decide) ?_
      refine r_aload_n (pc := 29) (L := [some (.ref b0), some (.int l1), some (.int l2), some (.ref c_4), none]) dX7_clash_29 rfl ?_
      refine s_getR (pc := 30) dX7_clash_30 fl_X7_20 rfl k_b0 g_b0_2 ?_
      refine s_getR (pc := 33) dX7_clash_33 fl_X7_176 rfl k_b0_2 g_b0_2_8 ?_
      refine r_iload_n (pc := 36) dX7_clash_36 rfl ?_
      obtain ⟨i_6, K0⟩ := K0
      obtain ⟨c_7, g_8, K0⟩ := K0
      refine s_aald (pc := 37) dX7_clash_37 (by decide) rfl k_b0_2_8 i_6 g_8 ?_
      refine r_astore (pc := 38) dX7_clash_38 (by decide) ?_
      refine r_aload_n (pc := 40) (L := [some (.ref b0), some (.int l1), some (.int l2), some (.ref c_4), some (.ref c_7)]) dX7_clash_40 rfl ?_
      obtain ⟨e_9, K0⟩ := K0
      refine s_getI (pc := 41) dX7_clash_41 fl_X7_183 rfl e_9 ?_
      refine r_aload (pc := 44) dX7_clash_44 rfl ?_
      obtain ⟨e_10, K0⟩ := K0
      refine s_getI (pc := 46) dX7_clash_46 fl_X7_183 rfl e_10 ?_
      refine r_icmp_ne (pc := 49) (tgt := 64) dX7_clash_49 (by decide) (fun q => ?_) (fun q => ?_)
      · have K0 := K0.1 q
        refine r_iconst (pc := 64) (v := 0) dX7_clash_64 (by decide) ?_
        exact s_iret rfl dX7_clash_65 K0
      · have K0 := K0.2 q
        refine r_aload_n (pc := 52) dX7_clash_52 rfl ?_
        refine s_getI (pc := 53) dX7_clash_53 fl_X7_184 rfl e_9 ?_
        refine r_aload (pc := 56) dX7_clash_56 rfl ?_
        refine s_getI (pc := 58) dX7_clash_58 fl_X7_184 rfl e_10 ?_
        refine r_icmp_eq (pc := 61) (tgt := 66) dX7_clash_61 (by decide) (fun q => ?_) (fun q => ?_)
        · have K0 := K0.1 q
          refine r_aload_n (pc := 66) dX7_clash_66 rfl ?_
          refine s_VI (pc := 67) mX0_wantedBits (ci := 0) (a := c_4) (As := []) dX7_clash_67 lk_X7_307 in_X0_wantedBits mo_X0_wantedBits ⟨by decide, rfl⟩ ⟨by decide, by decide⟩ (Nat.le_of_ble_eq_true rfl) e_9 (sp_X0_wantedBits e_9 ?_)
          refine r_aload (pc := 70) dX7_clash_70 rfl ?_
          refine s_VI (pc := 72) mX0_wantedBits (ci := 0) (a := c_7) (As := []) dX7_clash_72 lk_X7_307 in_X0_wantedBits mo_X0_wantedBits ⟨by decide, rfl⟩ ⟨by decide, by decide⟩ (Nat.le_of_ble_eq_true rfl) e_10 (sp_X0_wantedBits e_10 ?_)
          refine r_iand (pc := 75) dX7_clash_75 ?_
          refine s_SI (pc := 76) mJ6_bitCount_0f7a4 (As := [.int ((f_sb (gi x c_4 4) (gi x c_4 5)) &&& (f_sb (gi x c_7 4) (gi x c_7 5)))]) dX7_clash_76 lk_X7_255 st_J6_bitCount_0f7a4 mo_J6_bitCount_0f7a4 ⟨by decide, by decide⟩ (Nat.le_of_ble_eq_true rfl) (sp_bc  ?_)
          exact s_iret rfl dX7_clash_79 K0
        · have K0 := K0.2 q
          refine r_iconst (pc := 64) (v := 0) dX7_clash_64 (by decide) ?_
          exact s_iret rfl dX7_clash_65 K0
    · have q := (b2i_z _).mp q
      have K0 := K0.2 q
      refine r_bipush (pc := 16) (v := (-2)) dX7_clash_16 (by decide) ?_
      exact s_iret rfl dX7_clash_18 K0
set_option maxHeartbeats 2000000 in
theorem v_X8_clash_0 {K : Sh} {x : Cn} {Q : Int32 → Cn → Prop} {b0 : Nat} {l1 : Int32} {l2 : Int32} {b0_1 : Nat} {n_b0_1 : Nat} {b0_3 : Nat} {n_b0_3 : Nat} (k_b0 : kk K b0 = some (8, 0)) (g_b0_1 : gr x b0 1 = some b0_1) (k_b0_1 : kk K b0_1 = some (20, n_b0_1)) (g_b0_3 : gr x b0 3 = some b0_3) (k_b0_3 : kk K b0_3 = some (20, n_b0_3)) (K0 : vp_in 3 n_b0_1 ∧ ((¬ (0 ≤ l1 ∧ l1 ≤ gi x b0_1 3 - 1) → (Q (-2) x)) ∧ ((0 ≤ l1 ∧ l1 ≤ gi x b0_1 3 - 1) → (((0 ≤ l2 ∧ l2 ≤ gi x b0_1 3 - 1) → ((l24 l1 n_b0_3) ∧ ((l24 l2 n_b0_3) ∧ ((¬ (ao (gi x b0_3) (l1 : Int32).toNatClampNeg 1) = (ao (gi x b0_3) (l2 : Int32).toNatClampNeg 1) → (Q 0 x)) ∧ ((ao (gi x b0_3) (l1 : Int32).toNatClampNeg 1) = (ao (gi x b0_3) (l2 : Int32).toNatClampNeg 1) → ((¬ (ao (gi x b0_3) (l1 : Int32).toNatClampNeg 2) = (ao (gi x b0_3) (l2 : Int32).toNatClampNeg 2) → (Q 0 x)) ∧ ((ao (gi x b0_3) (l1 : Int32).toNatClampNeg 2) = (ao (gi x b0_3) (l2 : Int32).toNatClampNeg 2) → (Q (nI (cpt ((f_span (ao (gi x b0_3) (l1 : Int32).toNatClampNeg 4) (ao (gi x b0_3) (l1 : Int32).toNatClampNeg 5)) &&& (f_span (ao (gi x b0_3) (l2 : Int32).toNatClampNeg 4) (ao (gi x b0_3) (l2 : Int32).toNatClampNeg 5))))) x)))))))) ∧ (¬ (0 ≤ l2 ∧ l2 ≤ gi x b0_1 3 - 1) → (Q (-2) x)))))) : mSI mX8_clash [.ref b0, .int l1, .int l2] K x Q := by
  refine s_I (by decide) (by simp [Value.category]) (Nat.le_of_ble_eq_true rfl) ?_
  show mGM mX8_clash 0 [some (.ref b0), some (.int l1), some (.int l2), none] [] (hp K x) (PI K Q)
  refine r_aload_n (pc := 0) dX8_clash_0 rfl ?_
  refine r_iload_n (pc := 1) dX8_clash_1 rfl ?_
  obtain ⟨i_1, K0⟩ := K0
  refine s_VI (pc := 2) mX8_isAsk (ci := 8) (a := b0) (As := [.int l1]) dX8_clash_2 lk_X8_281 in_X8_isAsk mo_X8_isAsk ⟨by decide, rfl⟩ ⟨by decide, by decide⟩ (Nat.le_of_ble_eq_true rfl) k_b0 (sp_X8_isAsk k_b0 g_b0_1 k_b0_1 i_1 ?_)
  refine r_if_eq (pc := 5) (tgt := 16) dX8_clash_5 (by decide) (fun q => ?_) (fun q => ?_)
  · have q := (b2i_z _).mp q
    have K0 := K0.1 q
    refine r_bipush (pc := 16) (v := (-2)) dX8_clash_16 (by decide) ?_
    exact s_iret rfl dX8_clash_18 K0
  · have q := b2i_nz q
    have K0 := K0.2 q
    refine r_aload_n (pc := 8) dX8_clash_8 rfl ?_
    refine r_iload_n (pc := 9) dX8_clash_9 rfl ?_
    refine s_VI (pc := 10) mX8_isAsk (ci := 8) (a := b0) (As := [.int l2]) dX8_clash_10 lk_X8_281 in_X8_isAsk mo_X8_isAsk ⟨by decide, rfl⟩ ⟨by decide, by decide⟩ (Nat.le_of_ble_eq_true rfl) k_b0 (sp_X8_isAsk k_b0 g_b0_1 k_b0_1 i_1 ?_)
    refine r_if_ne (pc := 13) (tgt := 19) dX8_clash_13 (by decide) (fun q => ?_) (fun q => ?_)
    · have q := b2i_nz q
      have K0 := K0.1 q
      refine r_aload_n (pc := 19) dX8_clash_19 rfl ?_
      refine r_iload_n (pc := 20) dX8_clash_20 rfl ?_
      refine r_iconst (pc := 21) (v := 1) dX8_clash_21 (by decide) ?_
      obtain ⟨p_4, K0⟩ := K0
      refine s_VI (pc := 22) mX8_ask0 (ci := 8) (a := b0) (As := [.int l1, .int 1]) dX8_clash_22 lk_X8_284 in_X8_ask0 mo_X8_ask0 ⟨by decide, rfl⟩ ⟨by decide, by decide⟩ (Nat.le_of_ble_eq_true rfl) k_b0 (sr_X8_ask0 k_b0 g_b0_3 k_b0_3 p_4 ⟨by decide, by decide⟩ ?_)
      refine r_aload_n (pc := 25) dX8_clash_25 rfl ?_
      refine r_iload_n (pc := 26) dX8_clash_26 rfl ?_
      refine r_iconst (pc := 27) (v := 1) dX8_clash_27 (by decide) ?_
      obtain ⟨p_5, K0⟩ := K0
      refine s_VI (pc := 28) mX8_ask0 (ci := 8) (a := b0) (As := [.int l2, .int 1]) dX8_clash_28 lk_X8_284 in_X8_ask0 mo_X8_ask0 ⟨by decide, rfl⟩ ⟨by decide, by decide⟩ (Nat.le_of_ble_eq_true rfl) k_b0 (sr_X8_ask0 k_b0 g_b0_3 k_b0_3 p_5 ⟨by decide, by decide⟩ ?_)
      refine r_icmp_ne (pc := 31) (tgt := 53) dX8_clash_31 (by decide) (fun q => ?_) (fun q => ?_)
      · have K0 := K0.1 q
        refine r_iconst (pc := 53) (v := 0) dX8_clash_53 (by decide) ?_
        refine r_istore_n (pc := 54) dX8_clash_54 (by decide) ?_
        refine r_iload_n (pc := 55) (L := [some (.ref b0), some (.int l1), some (.int l2), some (.int 0)]) dX8_clash_55 rfl ?_
        refine r_if_eq (pc := 56) (tgt := 96) dX8_clash_56 (by decide) (fun _ => ?_) (fun q => by first | exact absurd q (by decide) | exact absurd (by decide) q)
        refine r_iconst (pc := 96) (v := 0) dX8_clash_96 (by decide) ?_
        exact s_iret rfl dX8_clash_97 K0
      · have K0 := K0.2 q
        refine r_aload_n (pc := 34) dX8_clash_34 rfl ?_
        refine r_iload_n (pc := 35) dX8_clash_35 rfl ?_
        refine r_iconst (pc := 36) (v := 2) dX8_clash_36 (by decide) ?_
        refine s_VI (pc := 37) mX8_ask0 (ci := 8) (a := b0) (As := [.int l1, .int 2]) dX8_clash_37 lk_X8_284 in_X8_ask0 mo_X8_ask0 ⟨by decide, rfl⟩ ⟨by decide, by decide⟩ (Nat.le_of_ble_eq_true rfl) k_b0 (sr_X8_ask0 k_b0 g_b0_3 k_b0_3 p_4 ⟨by decide, by decide⟩ ?_)
        refine r_aload_n (pc := 40) dX8_clash_40 rfl ?_
        refine r_iload_n (pc := 41) dX8_clash_41 rfl ?_
        refine r_iconst (pc := 42) (v := 2) dX8_clash_42 (by decide) ?_
        refine s_VI (pc := 43) mX8_ask0 (ci := 8) (a := b0) (As := [.int l2, .int 2]) dX8_clash_43 lk_X8_284 in_X8_ask0 mo_X8_ask0 ⟨by decide, rfl⟩ ⟨by decide, by decide⟩ (Nat.le_of_ble_eq_true rfl) k_b0 (sr_X8_ask0 k_b0 g_b0_3 k_b0_3 p_5 ⟨by decide, by decide⟩ ?_)
        refine r_icmp_ne (pc := 46) (tgt := 53) dX8_clash_46 (by decide) (fun q => ?_) (fun q => ?_)
        · have K0 := K0.1 q
          refine r_iconst (pc := 53) (v := 0) dX8_clash_53 (by decide) ?_
          refine r_istore_n (pc := 54) dX8_clash_54 (by decide) ?_
          refine r_iload_n (pc := 55) (L := [some (.ref b0), some (.int l1), some (.int l2), some (.int 0)]) dX8_clash_55 rfl ?_
          refine r_if_eq (pc := 56) (tgt := 96) dX8_clash_56 (by decide) (fun _ => ?_) (fun q => by first | exact absurd q (by decide) | exact absurd (by decide) q)
          refine r_iconst (pc := 96) (v := 0) dX8_clash_96 (by decide) ?_
          exact s_iret rfl dX8_clash_97 K0
        · have K0 := K0.2 q
          refine r_iconst (pc := 49) (v := 1) dX8_clash_49 (by decide) ?_
          refine r_goto (pc := 50) (tgt := 54) dX8_clash_50 (by decide) ?_
          refine r_istore_n (pc := 54) dX8_clash_54 (by decide) ?_
          refine r_iload_n (pc := 55) (L := [some (.ref b0), some (.int l1), some (.int l2), some (.int 1)]) dX8_clash_55 rfl ?_
          refine r_if_eq (pc := 56) (tgt := 96) dX8_clash_56 (by decide) (fun q => by first | exact absurd q (by decide) | exact absurd (by decide) q) (fun _ => ?_)
          refine r_aload_n (pc := 59) dX8_clash_59 rfl ?_
          refine r_iload_n (pc := 60) dX8_clash_60 rfl ?_
          refine r_iconst (pc := 61) (v := 4) dX8_clash_61 (by decide) ?_
          refine s_VI (pc := 62) mX8_ask0 (ci := 8) (a := b0) (As := [.int l1, .int 4]) dX8_clash_62 lk_X8_284 in_X8_ask0 mo_X8_ask0 ⟨by decide, rfl⟩ ⟨by decide, by decide⟩ (Nat.le_of_ble_eq_true rfl) k_b0 (sr_X8_ask0 k_b0 g_b0_3 k_b0_3 p_4 ⟨by decide, by decide⟩ ?_)
          refine r_aload_n (pc := 65) dX8_clash_65 rfl ?_
          refine r_iload_n (pc := 66) dX8_clash_66 rfl ?_
          refine r_iconst (pc := 67) (v := 5) dX8_clash_67 (by decide) ?_
          refine s_VI (pc := 68) mX8_ask0 (ci := 8) (a := b0) (As := [.int l1, .int 5]) dX8_clash_68 lk_X8_284 in_X8_ask0 mo_X8_ask0 ⟨by decide, rfl⟩ ⟨by decide, by decide⟩ (Nat.le_of_ble_eq_true rfl) k_b0 (sr_X8_ask0 k_b0 g_b0_3 k_b0_3 p_4 ⟨by decide, by decide⟩ ?_)
          refine s_SI (pc := 71) mX8_span (As := [.int (ao (gi x b0_3) (l1 : Int32).toNatClampNeg 4), .int (ao (gi x b0_3) (l1 : Int32).toNatClampNeg 5)]) dX8_clash_71 lk_X8_79 st_X8_span mo_X8_span ⟨by decide, by decide⟩ (Nat.le_of_ble_eq_true rfl) (sp_X8_span  ?_)
          refine r_aload_n (pc := 74) dX8_clash_74 rfl ?_
          refine r_iload_n (pc := 75) dX8_clash_75 rfl ?_
          refine r_iconst (pc := 76) (v := 4) dX8_clash_76 (by decide) ?_
          refine s_VI (pc := 77) mX8_ask0 (ci := 8) (a := b0) (As := [.int l2, .int 4]) dX8_clash_77 lk_X8_284 in_X8_ask0 mo_X8_ask0 ⟨by decide, rfl⟩ ⟨by decide, by decide⟩ (Nat.le_of_ble_eq_true rfl) k_b0 (sr_X8_ask0 k_b0 g_b0_3 k_b0_3 p_5 ⟨by decide, by decide⟩ ?_)
          refine r_aload_n (pc := 80) dX8_clash_80 rfl ?_
          refine r_iload_n (pc := 81) dX8_clash_81 rfl ?_
          refine r_iconst (pc := 82) (v := 5) dX8_clash_82 (by decide) ?_
          refine s_VI (pc := 83) mX8_ask0 (ci := 8) (a := b0) (As := [.int l2, .int 5]) dX8_clash_83 lk_X8_284 in_X8_ask0 mo_X8_ask0 ⟨by decide, rfl⟩ ⟨by decide, by decide⟩ (Nat.le_of_ble_eq_true rfl) k_b0 (sr_X8_ask0 k_b0 g_b0_3 k_b0_3 p_5 ⟨by decide, by decide⟩ ?_)
          refine s_SI (pc := 86) mX8_span (As := [.int (ao (gi x b0_3) (l2 : Int32).toNatClampNeg 4), .int (ao (gi x b0_3) (l2 : Int32).toNatClampNeg 5)]) dX8_clash_86 lk_X8_79 st_X8_span mo_X8_span ⟨by decide, by decide⟩ (Nat.le_of_ble_eq_true rfl) (sp_X8_span  ?_)
          refine r_iand (pc := 89) dX8_clash_89 ?_
          refine s_SI (pc := 90) mX8_bits (As := [.int ((f_span (ao (gi x b0_3) (l1 : Int32).toNatClampNeg 4) (ao (gi x b0_3) (l1 : Int32).toNatClampNeg 5)) &&& (f_span (ao (gi x b0_3) (l2 : Int32).toNatClampNeg 4) (ao (gi x b0_3) (l2 : Int32).toNatClampNeg 5)))]) dX8_clash_90 lk_X8_296 st_X8_bits mo_X8_bits ⟨by decide, by decide⟩ (Nat.le_of_ble_eq_true rfl) (sp_X8_bits  ?_)
          refine r_goto (pc := 93) (tgt := 97) dX8_clash_93 (by decide) ?_
          exact s_iret rfl dX8_clash_97 K0
    · have q := (b2i_z _).mp q
      have K0 := K0.2 q
      refine r_bipush (pc := 16) (v := (-2)) dX8_clash_16 (by decide) ?_
      exact s_iret rfl dX8_clash_18 K0
set_option maxHeartbeats 2000000 in
theorem v_X7_letter_0 {K : Sh} {x : Cn} {Q : Int32 → Cn → Prop} {b0 : Nat} {l1 : Int32} {l2 : Int32} {b0_3 : Nat} (k_b0 : kk K b0 = some (7, 0)) (g_b0_3 : gr x b0 3 = some b0_3) (k_b0_3 : kk K b0_3 = some (1, 0)) (K0 : (¬ (0 ≤ l1 ∧ l1 < gi x b0_3 0) → (Q (-2) x)) ∧ ((0 ≤ l1 ∧ l1 < gi x b0_3 0) → (((0 ≤ l2 ∧ l2 ≤ 5) → (mSI mX1_letterOf [.ref b0_3, .int l1, .int l2] K x (fun r_4 y_3 => Q r_4 y_3))) ∧ (¬ (0 ≤ l2 ∧ l2 ≤ 5) → (Q (-2) x))))) : mSI mX7_letter [.ref b0, .int l1, .int l2] K x Q := by
  refine s_I (by decide) (by simp [Value.category]) (Nat.le_of_ble_eq_true rfl) ?_
  show mGM mX7_letter 0 [some (.ref b0), some (.int l1), some (.int l2)] [] (hp K x) (PI K Q)
  refine r_aload_n (pc := 0) dX7_letter_0 rfl ?_
  refine r_iload_n (pc := 1) dX7_letter_1 rfl ?_
  refine s_VI (pc := 2) mX7_isCarrier (ci := 7) (a := b0) (As := [.int l1]) dX7_letter_2 lk_X7_109 in_X7_isCarrier mo_X7_isCarrier ⟨by decide, rfl⟩ ⟨by decide, by decide⟩ (Nat.le_of_ble_eq_true rfl) k_b0 (sp_X7_isCarrier k_b0 g_b0_3 k_b0_3 ?_)
  refine r_if_eq (pc := 5) (tgt := 17) dX7_letter_5 (by decide) (fun q => ?_) (fun q => ?_)
  · have q := (b2i_z _).mp q
    have K0 := K0.1 q
    refine r_bipush (pc := 17) (v := (-2)) dX7_letter_17 (by decide) ?_
    exact s_iret rfl dX7_letter_19 K0
  · have q := b2i_nz q
    have K0 := K0.2 q
    refine r_iload_n (pc := 8) dX7_letter_8 rfl ?_
    refine r_iconst (pc := 9) (v := 0) dX7_letter_9 (by decide) ?_
    refine r_iconst (pc := 10) (v := 5) dX7_letter_10 (by decide) ?_
    refine s_SI (pc := 11) mX7_isWithin (As := [.int l2, .int 0, .int 5]) dX7_letter_11 lk_X7_113 st_X7_isWithin mo_X7_isWithin ⟨by decide, by decide⟩ (Nat.le_of_ble_eq_true rfl) (sp_X7_isWithin  ?_)
    refine r_if_ne (pc := 14) (tgt := 20) dX7_letter_14 (by decide) (fun q => ?_) (fun q => ?_)
    · have q := b2i_nz q
      have K0 := K0.1 q
      refine r_aload_n (pc := 20) dX7_letter_20 rfl ?_
      refine s_getR (pc := 21) dX7_letter_21 fl_X7_27 rfl k_b0 g_b0_3 ?_
      refine r_iload_n (pc := 24) dX7_letter_24 rfl ?_
      refine r_iload_n (pc := 25) dX7_letter_25 rfl ?_
      refine s_VI (pc := 26) mX1_letterOf (ci := 1) (a := b0_3) (As := [.int l1, .int l2]) dX7_letter_26 lk_X7_117 in_X1_letterOf mo_X1_letterOf ⟨by decide, rfl⟩ ⟨by decide, by decide⟩ (Nat.le_of_ble_eq_true rfl) k_b0_3 (mSI_mono K0 (fun r_4 y_3 K0 => ?_))
      exact s_iret rfl dX7_letter_29 K0
    · have q := (b2i_z _).mp q
      have K0 := K0.2 q
      refine r_bipush (pc := 17) (v := (-2)) dX7_letter_17 (by decide) ?_
      exact s_iret rfl dX7_letter_19 K0
set_option maxHeartbeats 2000000 in
theorem v_X1_letterOf_0 {K : Sh} {x : Cn} {Q : Int32 → Cn → Prop} {b0 : Nat} {l1 : Int32} {l2 : Int32} {b0_1 : Nat} {n_b0_1 : Nat} (k_b0 : kk K b0 = some (1, 0)) (g_b0_1 : gr x b0 1 = some b0_1) (k_b0_1 : kk K b0_1 = some (20, n_b0_1)) (K0 : vp_in ((l1 * 6) + l2) n_b0_1 ∧ (Q (gi x b0_1 (((l1 * 6) + l2) : Int32).toNatClampNeg) x)) : mSI mX1_letterOf [.ref b0, .int l1, .int l2] K x Q := by
  refine s_I (by decide) (by simp [Value.category]) (Nat.le_of_ble_eq_true rfl) ?_
  show mGM mX1_letterOf 0 [some (.ref b0), some (.int l1), some (.int l2)] [] (hp K x) (PI K Q)
  refine r_aload_n (pc := 0) dX1_letterOf_0 rfl ?_
  refine s_getR (pc := 1) dX1_letterOf_1 fl_X1_15 rfl k_b0 g_b0_1 ?_
  refine r_iload_n (pc := 4) dX1_letterOf_4 rfl ?_
  refine r_bipush (pc := 5) (v := 6) dX1_letterOf_5 (by decide) ?_
  refine r_imul (pc := 7) dX1_letterOf_7 ?_
  refine r_iload_n (pc := 8) dX1_letterOf_8 rfl ?_
  refine r_iadd (pc := 9) dX1_letterOf_9 ?_
  obtain ⟨i_1, K0⟩ := K0
  refine s_iald (pc := 10) dX1_letterOf_10 k_b0_1 i_1 ?_
  exact s_iret rfl dX1_letterOf_11 K0
section
theorem sp_X1_letterOf {x : Cn} {Q : Int32 → Cn → Prop} {nb c i : Nat} (k1 : kk KW nb = some (1, 0)) (g1 : gr x nb 1 = some (nb + 1)) (k2 : kk KW (nb + 1) = some (20, 48)) (hc : c < 8) (hi : i < 6) (q : Q (gi x (nb + 1) (6 * c + i)) x) : mSI mX1_letterOf [.ref nb, .int (nI c), .int (nI i)] KW x Q := by
  refine v_X1_letterOf_0 k1 g1 k2 ?_
  rw [show (6 : Int32) = nI 6 by decide, pk_mul, nI_add, show c * 6 + i = 6 * c + i by omega, nI_clamp (by omega)]
  exact ⟨vp_in_nI (by omega) (by decide), q⟩
theorem sb_span {f l : Nat} (h : f ≤ l) (hl : l < 30) : f_sb (nI f) (nI l) = f_span (nI f) (nI l) := tb_ext (fun i hi => by rw [tb_sb0 f (by omega) l hl h i hi, tb_span0 f (by omega) l hl i hi])
theorem kwN {h g : Nat} (h1 : h ≤ 64) (h2 : g ≤ 96) : f_kw (nI h) (nI g) ↔ (0 < h ∧ 4 * h ≤ 5 * g) := by
  unfold f_kw
  rw [show (0 : Int32) = nI 0 by decide, show (4 : Int32) = nI 4 by decide, show (5 : Int32) = nI 5 by decide, pk_mul, pk_mul, nI_ltI (by omega) (by omega), nI_leI (by omega) (by omega)]
/-- the misses left -/
def mlf (h g o : Nat) : Int32 := if 0 < h ∧ 4 * h ≤ 5 * (g + o) then nI (min o (g + o - (4 * h + 4) / 5)) else -1
def sprT (T : TT) (s : Nat) : Int32 := mlf (cpt (bas T s)) (cpt (so T s 8 ||| so T s 10)) (cpt (so T s 7))
end
set_option maxHeartbeats 2000000 in
theorem v_X8_letter_0 {K : Sh} {x : Cn} {Q : Int32 → Cn → Prop} {b0 : Nat} {l1 : Int32} {l2 : Int32} {b0_1 : Nat} {n_b0_1 : Nat} (k_b0 : kk K b0 = some (8, 0)) (g_b0_1 : gr x b0 1 = some b0_1) (k_b0_1 : kk K b0_1 = some (20, n_b0_1)) (K0 : vp_in 1 n_b0_1 ∧ ((¬ (0 ≤ l1 ∧ l1 ≤ gi x b0_1 1 - 1) → (Q (-2) x)) ∧ ((0 ≤ l1 ∧ l1 ≤ gi x b0_1 1 - 1) → ((¬ (0 ≤ l2 ∧ l2 ≤ 5) → (Q (-2) x)) ∧ ((0 ≤ l2 ∧ l2 ≤ 5) → (vp_in (54 + l1) n_b0_1 ∧ (mSI mX8_letterOf [.int (gi x b0_1 ((54 + l1) : Int32).toNatClampNeg), .int l2] K x (fun r_6 y_5 => Q r_6 y_5)))))))) : mSI mX8_letter [.ref b0, .int l1, .int l2] K x Q := by
  refine s_I (by decide) (by simp [Value.category]) (Nat.le_of_ble_eq_true rfl) ?_
  show mGM mX8_letter 0 [some (.ref b0), some (.int l1), some (.int l2)] [] (hp K x) (PI K Q)
  refine r_aload_n (pc := 0) dX8_letter_0 rfl ?_
  refine r_iload_n (pc := 1) dX8_letter_1 rfl ?_
  obtain ⟨i_1, K0⟩ := K0
  refine s_VI (pc := 2) mX8_isCarrier (ci := 8) (a := b0) (As := [.int l1]) dX8_letter_2 lk_X8_265 in_X8_isCarrier mo_X8_isCarrier ⟨by decide, rfl⟩ ⟨by decide, by decide⟩ (Nat.le_of_ble_eq_true rfl) k_b0 (sp_X8_isCarrier k_b0 g_b0_1 k_b0_1 i_1 ?_)
  refine r_if_eq (pc := 5) (tgt := 36) dX8_letter_5 (by decide) (fun q => ?_) (fun q => ?_)
  · have q := (b2i_z _).mp q
    have K0 := K0.1 q
    refine r_bipush (pc := 36) (v := (-2)) dX8_letter_36 (by decide) ?_
    exact s_iret rfl dX8_letter_38 K0
  · have q := b2i_nz q
    have K0 := K0.2 q
    refine r_iload_n (pc := 8) dX8_letter_8 rfl ?_
    refine r_i2l (pc := 9) dX8_letter_9 ?_
    refine r_lconst (pc := 10) (v := 0) dX8_letter_10 (by decide) ?_
    refine r_ldc2 (pc := 11) (v := 5) dX8_letter_11 cn_X8_268 ?_
    refine s_SI (pc := 14) mX8_in (As := [.long ((l2 : Int32).toInt64), .long 0, .long 5]) dX8_letter_14 lk_X8_45 st_X8_in mo_X8_in ⟨by decide, by decide⟩ (Nat.le_of_ble_eq_true rfl) (sq_X8_in (v := l2) (lo := 0) (hi := 5) rfl (by decide) (by decide) ?_)
    refine r_if_eq (pc := 17) (tgt := 36) dX8_letter_17 (by decide) (fun q => ?_) (fun q => ?_)
    · have q := (b2i_z _).mp q
      have K0 := K0.1 q
      refine r_bipush (pc := 36) (v := (-2)) dX8_letter_36 (by decide) ?_
      exact s_iret rfl dX8_letter_38 K0
    · have q := b2i_nz q
      have K0 := K0.2 q
      refine r_aload_n (pc := 20) dX8_letter_20 rfl ?_
      refine s_getR (pc := 21) dX8_letter_21 fl_X8_9 rfl k_b0 g_b0_1 ?_
      refine r_bipush (pc := 24) (v := 54) dX8_letter_24 (by decide) ?_
      refine r_iload_n (pc := 26) dX8_letter_26 rfl ?_
      refine r_iadd (pc := 27) dX8_letter_27 ?_
      obtain ⟨i_4, K0⟩ := K0
      refine s_iald (pc := 28) dX8_letter_28 k_b0_1 i_4 ?_
      refine r_iload_n (pc := 29) dX8_letter_29 rfl ?_
      refine s_SI (pc := 30) mX8_letterOf (As := [.int (gi x b0_1 ((54 + l1) : Int32).toNatClampNeg), .int l2]) dX8_letter_30 lk_X8_270 st_X8_letterOf mo_X8_letterOf ⟨by decide, by decide⟩ (Nat.le_of_ble_eq_true rfl) (mSI_mono K0 (fun r_6 y_5 K0 => ?_))
      refine r_goto (pc := 33) (tgt := 38) dX8_letter_33 (by decide) ?_
      exact s_iret rfl dX8_letter_38 K0
set_option maxHeartbeats 2000000 in
theorem v_X8_letterOf_0 {K : Sh} {x : Cn} {Q : Int32 → Cn → Prop} {l0 : Int32} {l1 : Int32}   (K0 : GI mX8_letterOf 4 [some (.int l0), some (.int l1), some (.int l0), some (.int l1)] [] K x Q) : mSI mX8_letterOf [.int l0, .int l1] K x Q := by
  refine s_I (by decide) (by simp [Value.category]) (Nat.le_of_ble_eq_true rfl) ?_
  show mGM mX8_letterOf 0 [some (.int l0), some (.int l1), none, none] [] (hp K x) (PI K Q)
  refine r_iload_n (pc := 0) dX8_letterOf_0 rfl ?_
  refine r_istore_n (pc := 1) dX8_letterOf_1 (by decide) ?_
  refine r_iload_n (pc := 2) (L := [some (.int l0), some (.int l1), some (.int l0), none]) dX8_letterOf_2 rfl ?_
  refine r_istore_n (pc := 3) dX8_letterOf_3 (by decide) ?_
  exact r_le (L' := [some (.int l0), some (.int l1), some (.int l0), some (.int l1)]) ⟨rfl, ⟨rfl, ⟨rfl, ⟨rfl, trivial⟩⟩⟩⟩ K0
set_option maxHeartbeats 2000000 in
theorem v_X8_letterOf_4 {K : Sh} {x : Cn} {Q : Int32 → Cn → Prop} {l0 : Int32} {l1 : Int32} {l2 : Int32} {l3 : Int32}   (K0 : (5 ≤ l3 → (Q (l2 - l2 / 27 * 27) x)) ∧ (¬ 5 ≤ l3 → (GI mX8_letterOf 4 [some (.int l0), some (.int l1), some (.int (l2 / 27)), some (.int (l3 + 1))] [] K x Q))) : GI mX8_letterOf 4 [some (.int l0), some (.int l1), some (.int l2), some (.int l3)] [] K x Q := by
  show mGM mX8_letterOf 4 [some (.int l0), some (.int l1), some (.int l2), some (.int l3)] [] (hp K x) (PI K Q)
  refine r_iload_n (pc := 4) dX8_letterOf_4 rfl ?_
  refine r_iconst (pc := 5) (v := 5) dX8_letterOf_5 (by decide) ?_
  refine r_icmp_ge (pc := 6) (tgt := 20) dX8_letterOf_6 (by decide) (fun q => ?_) (fun q => ?_)
  · have K0 := K0.1 q
    refine r_iload_n (pc := 20) dX8_letterOf_20 rfl ?_
    refine r_bipush (pc := 21) (v := 27) dX8_letterOf_21 (by decide) ?_
    refine r_irem (pc := 23) dX8_letterOf_23 (by decide) ?_
    exact s_iret rfl dX8_letterOf_24 K0
  · have K0 := K0.2 q
    refine r_iload_n (pc := 9) dX8_letterOf_9 rfl ?_
    refine r_bipush (pc := 10) (v := 27) dX8_letterOf_10 (by decide) ?_
    refine r_idiv (pc := 12) dX8_letterOf_12 (by decide) ?_
    refine r_istore_n (pc := 13) dX8_letterOf_13 (by decide) ?_
    refine r_iinc (pc := 14) (L := [some (.int l0), some (.int l1), some (.int (l2 / 27)), some (.int l3)]) (v := l3 + 1) dX8_letterOf_14 rfl rfl (by decide) ?_
    refine r_goto (pc := 17) (L := [some (.int l0), some (.int l1), some (.int (l2 / 27)), some (.int (l3 + 1))]) (tgt := 4) dX8_letterOf_17 (by decide) ?_
    exact r_le (L' := [some (.int l0), some (.int l1), some (.int (l2 / 27)), some (.int (l3 + 1))]) ⟨rfl, ⟨rfl, ⟨rfl, ⟨rfl, trivial⟩⟩⟩⟩ K0
section
theorem lp_X8_letterOf {K : Sh} {x : Cn} {Q : Int32 → Cn → Prop} {l0 l1 : Int32} : ∀ (n k v : Nat), k + n = 5 → v < 2 ^ 31 → Q (nI (v / 27 ^ n % 27)) x → GI mX8_letterOf 4 [some (.int l0), some (.int l1), some (.int (nI v)), some (.int (nI k))] [] K x Q := by
  intro n
  induction n with
  | zero =>
    intro k v hk hv q
    have : k = 5 := by omega
    subst this
    refine v_X8_letterOf_4 ⟨fun _ => ?_, fun z => absurd (by decide) z⟩
    rw [show (27 : Int32) = nI 27 by decide, pk_rem hv (by decide) (by decide)]
    simpa using q
  | succ n ih =>
    intro k v hk hv q
    refine v_X8_letterOf_4 ⟨fun z => absurd z (nI_ge (a := k) (b := 5) (by omega) (by decide)), fun _ => ?_⟩
    rw [show (27 : Int32) = nI 27 by decide, pk_div hv (by decide) (by decide), nI_1]
    refine ih (k + 1) (v / 27) (by omega) (Nat.lt_of_le_of_lt (Nat.div_le_self _ _) hv) ?_
    rwa [Nat.div_div_eq_div_mul, show 27 * 27 ^ n = 27 ^ (n + 1) by rw [Nat.pow_succ, Nat.mul_comm]]
theorem sp_X8_letterOf {K : Sh} {x : Cn} {Q : Int32 → Cn → Prop} {v i : Nat} (hv : v < 2 ^ 31) (hi : i < 6) (q : Q (nI (v / 27 ^ (5 - i) % 27)) x) : mSI mX8_letterOf [.int (nI v), .int (nI i)] K x Q := v_X8_letterOf_0 (lp_X8_letterOf (5 - i) i v (by omega) hv q)
end
set_option maxHeartbeats 2000000 in
theorem v_X7_spare_0 {K : Sh} {x : Cn} {Q : Int32 → Cn → Prop} {b0 : Nat} {l1 : Int32} {b0_2 : Nat} {b0_2_7 : Nat} {n_b0_2_7 : Nat} (k_b0 : kk K b0 = some (7, 0)) (g_b0_2 : gr x b0 2 = some b0_2) (k_b0_2 : kk K b0_2 = some (4, 0)) (g_b0_2_7 : gr x b0_2 7 = some b0_2_7) (k_b0_2_7 : kk K b0_2_7 = some (23, n_b0_2_7)) (K0 : ((0 ≤ l1 ∧ l1 < gi x b0_2 3) → (vp_in l1 n_b0_2_7 ∧ (∃ c_3 : Nat, gr x b0_2_7 ((l1 : Int32).toNatClampNeg) = some c_3 ∧ (kk K c_3 = some (5, 0) ∧ (mSI mX5_missesLeft [.ref c_3] K x (fun r_7 y_6 => Q r_7 y_6)))))) ∧ (¬ (0 ≤ l1 ∧ l1 < gi x b0_2 3) → (Q (-2) x))) : mSI mX7_spare [.ref b0, .int l1] K x Q := by
  refine s_I (by decide) (by simp [Value.category]) (Nat.le_of_ble_eq_true rfl) ?_
  show mGM mX7_spare 0 [some (.ref b0), some (.int l1)] [] (hp K x) (PI K Q)
  refine r_aload_n (pc := 0) dX7_spare_0 rfl ?_
  refine r_iload_n (pc := 1) dX7_spare_1 rfl ?_
  refine s_VI (pc := 2) mX7_isSeries (ci := 7) (a := b0) (As := [.int l1]) dX7_spare_2 lk_X7_132 in_X7_isSeries mo_X7_isSeries ⟨by decide, rfl⟩ ⟨by decide, by decide⟩ (Nat.le_of_ble_eq_true rfl) k_b0 (sp_X7_isSeries k_b0 g_b0_2 k_b0_2 ?_)
  refine r_if_ne (pc := 5) (tgt := 11) dX7_spare_5 (by decide) (fun q => ?_) (fun q => ?_)
  · have q := b2i_nz q
    have K0 := K0.1 q
    refine r_aload_n (pc := 11) dX7_spare_11 rfl ?_
    refine s_getR (pc := 12) dX7_spare_12 fl_X7_20 rfl k_b0 g_b0_2 ?_
    refine s_getR (pc := 15) dX7_spare_15 fl_X7_135 rfl k_b0_2 g_b0_2_7 ?_
    refine r_iload_n (pc := 18) dX7_spare_18 rfl ?_
    obtain ⟨i_2, K0⟩ := K0
    obtain ⟨c_3, g_4, K0⟩ := K0
    refine s_aald (pc := 19) dX7_spare_19 (by decide) rfl k_b0_2_7 i_2 g_4 ?_
    obtain ⟨e_5, K0⟩ := K0
    refine s_VI (pc := 20) mX5_missesLeft (ci := 5) (a := c_3) (As := []) dX7_spare_20 lk_X7_242 in_X5_missesLeft mo_X5_missesLeft ⟨by decide, rfl⟩ ⟨by decide, by decide⟩ (Nat.le_of_ble_eq_true rfl) e_5 (mSI_mono K0 (fun r_7 y_6 K0 => ?_))
    exact s_iret rfl dX7_spare_23 K0
  · have q := (b2i_z _).mp q
    have K0 := K0.2 q
    refine r_bipush (pc := 8) (v := (-2)) dX7_spare_8 (by decide) ?_
    exact s_iret rfl dX7_spare_10 K0
set_option maxHeartbeats 2000000 in
theorem v_X5_missesLeft_0 {K : Sh} {x : Cn} {Q : Int32 → Cn → Prop} {b0 : Nat}  (k_b0 : kk K b0 = some (5, 0)) (K0 : (¬ (f_lost x b0) → (Q (if (((nI (cpt (gi x b0 8 ||| gi x b0 10))) + (nI (cpt (f_open x b0)))) - (((4 * (nI (cpt (f_held x b0)))) + 4) / 5)) < (nI (cpt (f_open x b0))) then (((nI (cpt (gi x b0 8 ||| gi x b0 10))) + (nI (cpt (f_open x b0)))) - (((4 * (nI (cpt (f_held x b0)))) + 4) / 5)) else (nI (cpt (f_open x b0)))) x)) ∧ ((f_lost x b0) → (Q (-1) x))) : mSI mX5_missesLeft [.ref b0] K x Q := by
  refine s_I (by decide) (by simp [Value.category]) (Nat.le_of_ble_eq_true rfl) ?_
  show mGM mX5_missesLeft 0 [some (.ref b0), none, none] [] (hp K x) (PI K Q)
  refine r_aload_n (pc := 0) dX5_missesLeft_0 rfl ?_
  refine s_VI (pc := 1) mX5_isLost (ci := 5) (a := b0) (As := []) dX5_missesLeft_1 lk_X5_90 in_X5_isLost mo_X5_isLost ⟨by decide, rfl⟩ ⟨by decide, by decide⟩ (Nat.le_of_ble_eq_true rfl) k_b0 (sp_X5_isLost k_b0 ?_)
  refine r_if_eq (pc := 4) (tgt := 9) dX5_missesLeft_4 (by decide) (fun q => ?_) (fun q => ?_)
  · have q := (b2i_z _).mp q
    have K0 := K0.1 q
    refine r_aload_n (pc := 9) dX5_missesLeft_9 rfl ?_
    refine s_VI (pc := 10) mX5_openBits (ci := 5) (a := b0) (As := []) dX5_missesLeft_10 lk_X5_57 in_X5_openBits mo_X5_openBits ⟨by decide, rfl⟩ ⟨by decide, by decide⟩ (Nat.le_of_ble_eq_true rfl) k_b0 (sp_X5_openBits k_b0 ?_)
    refine s_SI (pc := 13) mJ6_bitCount_0f7a4 (As := [.int (f_open x b0)]) dX5_missesLeft_13 lk_X5_76 st_J6_bitCount_0f7a4 mo_J6_bitCount_0f7a4 ⟨by decide, by decide⟩ (Nat.le_of_ble_eq_true rfl) (sp_bc  ?_)
    refine r_istore_n (pc := 16) dX5_missesLeft_16 (by decide) ?_
    refine r_iconst (pc := 17) (L := [some (.ref b0), some (.int (nI (cpt (f_open x b0)))), none]) (v := 4) dX5_missesLeft_17 (by decide) ?_
    refine r_aload_n (pc := 18) dX5_missesLeft_18 rfl ?_
    refine s_VI (pc := 19) mX5_basis (ci := 5) (a := b0) (As := []) dX5_missesLeft_19 lk_X5_81 in_X5_basis mo_X5_basis ⟨by decide, rfl⟩ ⟨by decide, by decide⟩ (Nat.le_of_ble_eq_true rfl) k_b0 (sp_X5_basis k_b0 ?_)
    refine r_imul (pc := 22) dX5_missesLeft_22 ?_
    refine r_iconst (pc := 23) (v := 4) dX5_missesLeft_23 (by decide) ?_
    refine r_iadd (pc := 24) dX5_missesLeft_24 ?_
    refine r_iconst (pc := 25) (v := 5) dX5_missesLeft_25 (by decide) ?_
    refine r_idiv (pc := 26) dX5_missesLeft_26 (by decide) ?_
    refine r_istore_n (pc := 27) dX5_missesLeft_27 (by decide) ?_
    refine r_iload_n (pc := 28) (L := [some (.ref b0), some (.int (nI (cpt (f_open x b0)))), some (.int (((4 * (nI (cpt (f_held x b0)))) + 4) / 5))]) dX5_missesLeft_28 rfl ?_
    refine r_aload_n (pc := 29) dX5_missesLeft_29 rfl ?_
    refine s_VI (pc := 30) mX5_good (ci := 5) (a := b0) (As := []) dX5_missesLeft_30 lk_X5_84 in_X5_good mo_X5_good ⟨by decide, rfl⟩ ⟨by decide, by decide⟩ (Nat.le_of_ble_eq_true rfl) k_b0 (sp_X5_good k_b0 ?_)
    refine r_iload_n (pc := 33) dX5_missesLeft_33 rfl ?_
    refine r_iadd (pc := 34) dX5_missesLeft_34 ?_
    refine r_iload_n (pc := 35) dX5_missesLeft_35 rfl ?_
    refine r_isub (pc := 36) dX5_missesLeft_36 ?_
    refine r_mmin (pc := 37) dX5_missesLeft_37 lk_X5_94 mw_min ⟨by decide, by decide⟩ (Nat.le_of_ble_eq_true rfl) ?_
    exact s_iret rfl dX5_missesLeft_40 K0
  · have q := b2i_nz q
    have K0 := K0.2 q
    refine r_iconst (pc := 7) (v := (-1)) dX5_missesLeft_7 (by decide) ?_
    exact s_iret rfl dX5_missesLeft_8 K0
section
theorem sp_X5_missesLeft {x : Cn} {Q : Int32 → Cn → Prop} {p : Nat} {T : TT} {C W s : Nat} (h1 : kk KW p = some (5, 0)) (h2 : SER x p T s) (h3 : Wse T C W s) (q : Q (sprT T s) x) : mSI mX5_missesLeft [.ref p] KW x Q := by
  refine v_X5_missesLeft_0 h1 ?_
  unfold f_lost
  rw [h2.held h3, h2.opn h3, h2.1 8 (by decide) (by decide), h2.1 10 (by decide) (by decide), nI_add]
  have b1 := cpt_le (bas T s)
  have b2 := cpt_le (so T s 8 ||| so T s 10)
  have b3 := cpt_le (so T s 7)
  unfold sprT mlf at q
  revert q
  generalize cpt (bas T s) = h at *
  generalize cpt (so T s 8 ||| so T s 10) = g at *
  generalize cpt (so T s 7) = o at *
  intro q
  rw [kwN (by omega) (by omega)]
  by_cases z : 0 < h ∧ 4 * h ≤ 5 * (g + o)
  · rw [if_pos z] at q
    refine ⟨fun _ => ?_, fun w => absurd z w⟩
    rw [show (4 : Int32) = nI 4 by decide, show (5 : Int32) = nI 5 by decide, pk_mul, nI_add, pk_div (by omega) (by decide) (by decide), pk_sub (by omega)]
    by_cases c : g + o - (4 * h + 4) / 5 < o
    · rw [if_pos (nI_lt c (by omega))]
      rwa [Nat.min_eq_right (by omega)] at q
    · rw [if_neg (nI_nlt (by omega) (by omega))]
      rwa [Nat.min_eq_left (by omega)] at q
  · rw [if_neg z] at q
    exact ⟨fun w => absurd z w, fun _ => q⟩
end
set_option maxHeartbeats 2000000 in
theorem v_X8_spare_0 {K : Sh} {x : Cn} {Q : Int32 → Cn → Prop} {b0 : Nat} {l1 : Int32} {b0_1 : Nat} {n_b0_1 : Nat} (k_b0 : kk K b0 = some (8, 0)) (g_b0_1 : gr x b0 1 = some b0_1) (k_b0_1 : kk K b0_1 = some (20, n_b0_1)) (K0 : vp_in 2 n_b0_1 ∧ ((¬ (0 ≤ l1 ∧ l1 ≤ gi x b0_1 2 - 1) → (Q (-2) x)) ∧ ((0 ≤ l1 ∧ l1 ≤ gi x b0_1 2 - 1) → (mSI mX8_spareOf [.ref b0, .int l1] K x (fun r_4 y_3 => Q r_4 y_3))))) : mSI mX8_spare [.ref b0, .int l1] K x Q := by
  refine s_I (by decide) (by simp [Value.category]) (Nat.le_of_ble_eq_true rfl) ?_
  show mGM mX8_spare 0 [some (.ref b0), some (.int l1)] [] (hp K x) (PI K Q)
  refine r_aload_n (pc := 0) dX8_spare_0 rfl ?_
  refine r_iload_n (pc := 1) dX8_spare_1 rfl ?_
  obtain ⟨i_1, K0⟩ := K0
  refine s_VI (pc := 2) mX8_isSeries (ci := 8) (a := b0) (As := [.int l1]) dX8_spare_2 lk_X8_273 in_X8_isSeries mo_X8_isSeries ⟨by decide, rfl⟩ ⟨by decide, by decide⟩ (Nat.le_of_ble_eq_true rfl) k_b0 (sp_X8_isSeries k_b0 g_b0_1 k_b0_1 i_1 ?_)
  refine r_if_eq (pc := 5) (tgt := 16) dX8_spare_5 (by decide) (fun q => ?_) (fun q => ?_)
  · have q := (b2i_z _).mp q
    have K0 := K0.1 q
    refine r_bipush (pc := 16) (v := (-2)) dX8_spare_16 (by decide) ?_
    exact s_iret rfl dX8_spare_18 K0
  · have q := b2i_nz q
    have K0 := K0.2 q
    refine r_aload_n (pc := 8) dX8_spare_8 rfl ?_
    refine r_iload_n (pc := 9) dX8_spare_9 rfl ?_
    refine s_VI (pc := 10) mX8_spareOf (ci := 8) (a := b0) (As := [.int l1]) dX8_spare_10 lk_X8_308 in_X8_spareOf mo_X8_spareOf ⟨by decide, rfl⟩ ⟨by decide, by decide⟩ (Nat.le_of_ble_eq_true rfl) k_b0 (mSI_mono K0 (fun r_4 y_3 K0 => ?_))
    refine r_goto (pc := 13) (tgt := 18) dX8_spare_13 (by decide) ?_
    exact s_iret rfl dX8_spare_18 K0
set_option maxHeartbeats 2000000 in
theorem v_X8_spareOf_0 {K : Sh} {x : Cn} {Q : Int32 → Cn → Prop} {b0 : Nat} {l1 : Int32} {b0_3 : Nat} {n_b0_3 : Nat} (k_b0 : kk K b0 = some (8, 0)) (g_b0_3 : gr x b0 3 = some b0_3) (k_b0_3 : kk K b0_3 = some (20, n_b0_3)) (K0 : (l24 l1 n_b0_3) ∧ (GI mX8_spareOf 11 [some (.ref b0), some (.int l1), some (.int (nI (cpt (so (gi x b0_3) (l1 : Int32).toNatClampNeg 7))))] [] K x Q)) : mSI mX8_spareOf [.ref b0, .int l1] K x Q := by
  refine s_I (by decide) (by simp [Value.category]) (Nat.le_of_ble_eq_true rfl) ?_
  show mGM mX8_spareOf 0 [some (.ref b0), some (.int l1), none] [] (hp K x) (PI K Q)
  refine r_aload_n (pc := 0) dX8_spareOf_0 rfl ?_
  refine r_iload_n (pc := 1) dX8_spareOf_1 rfl ?_
  refine r_bipush (pc := 2) (v := 7) dX8_spareOf_2 (by decide) ?_
  obtain ⟨p_1, K0⟩ := K0
  refine s_VI (pc := 4) mX8_one (ci := 8) (a := b0) (As := [.int l1, .int 7]) dX8_spareOf_4 lk_X8_67 in_X8_one mo_X8_one ⟨by decide, rfl⟩ ⟨by decide, by decide⟩ (Nat.le_of_ble_eq_true rfl) k_b0 (sr_X8_one k_b0 g_b0_3 k_b0_3 p_1 ⟨by decide, by decide⟩ ?_)
  refine s_SI (pc := 7) mX8_bits (As := [.int (so (gi x b0_3) (l1 : Int32).toNatClampNeg 7)]) dX8_spareOf_7 lk_X8_296 st_X8_bits mo_X8_bits ⟨by decide, by decide⟩ (Nat.le_of_ble_eq_true rfl) (sp_X8_bits  ?_)
  refine r_istore_n (pc := 10) dX8_spareOf_10 (by decide) ?_
  exact r_le (L' := [some (.ref b0), some (.int l1), some (.int (nI (cpt (so (gi x b0_3) (l1 : Int32).toNatClampNeg 7))))]) ⟨rfl, ⟨rfl, ⟨rfl, trivial⟩⟩⟩ K0
set_option maxHeartbeats 2000000 in
theorem v_X8_spareOf_11 {K : Sh} {x : Cn} {Q : Int32 → Cn → Prop} {b0 : Nat} {l1 : Int32} {l2 : Int32} {b0_3 : Nat} {n_b0_3 : Nat} (k_b0 : kk K b0 = some (8, 0)) (g_b0_3 : gr x b0 3 = some b0_3) (k_b0_3 : kk K b0_3 = some (20, n_b0_3)) (K0 : (l2 < 0 → (Q l2 x)) ∧ (¬ l2 < 0 → ((l24 l1 n_b0_3) ∧ (mSI mX8_isKept [.ref b0, .int l1, .int ((nI (cpt (so (gi x b0_3) (l1 : Int32).toNatClampNeg 7))) - l2)] K x (fun r_4 y_3 => (¬ r_4 = 0 → (Q l2 y_3)) ∧ (r_4 = 0 → (GI mX8_spareOf 11 [some (.ref b0), some (.int l1), some (.int (l2 + (-1)))] [] K y_3 Q))))))) : GI mX8_spareOf 11 [some (.ref b0), some (.int l1), some (.int l2)] [] K x Q := by
  show mGM mX8_spareOf 11 [some (.ref b0), some (.int l1), some (.int l2)] [] (hp K x) (PI K Q)
  refine r_iload_n (pc := 11) dX8_spareOf_11 rfl ?_
  refine r_if_lt (pc := 12) (tgt := 41) dX8_spareOf_12 (by decide) (fun q => ?_) (fun q => ?_)
  · have K0 := K0.1 q
    refine r_iload_n (pc := 41) dX8_spareOf_41 rfl ?_
    exact s_iret rfl dX8_spareOf_42 K0
  · have K0 := K0.2 q
    refine r_aload_n (pc := 15) dX8_spareOf_15 rfl ?_
    refine r_iload_n (pc := 16) dX8_spareOf_16 rfl ?_
    refine r_aload_n (pc := 17) dX8_spareOf_17 rfl ?_
    refine r_iload_n (pc := 18) dX8_spareOf_18 rfl ?_
    refine r_bipush (pc := 19) (v := 7) dX8_spareOf_19 (by decide) ?_
    obtain ⟨p_2, K0⟩ := K0
    refine s_VI (pc := 21) mX8_one (ci := 8) (a := b0) (As := [.int l1, .int 7]) dX8_spareOf_21 lk_X8_67 in_X8_one mo_X8_one ⟨by decide, rfl⟩ ⟨by decide, by decide⟩ (Nat.le_of_ble_eq_true rfl) k_b0 (sr_X8_one k_b0 g_b0_3 k_b0_3 p_2 ⟨by decide, by decide⟩ ?_)
    refine s_SI (pc := 24) mX8_bits (As := [.int (so (gi x b0_3) (l1 : Int32).toNatClampNeg 7)]) dX8_spareOf_24 lk_X8_296 st_X8_bits mo_X8_bits ⟨by decide, by decide⟩ (Nat.le_of_ble_eq_true rfl) (sp_X8_bits  ?_)
    refine r_iload_n (pc := 27) dX8_spareOf_27 rfl ?_
    refine r_isub (pc := 28) dX8_spareOf_28 ?_
    refine s_VI (pc := 29) mX8_isKept (ci := 8) (a := b0) (As := [.int l1, .int ((nI (cpt (so (gi x b0_3) (l1 : Int32).toNatClampNeg 7))) - l2)]) dX8_spareOf_29 lk_X8_302 in_X8_isKept mo_X8_isKept ⟨by decide, rfl⟩ ⟨by decide, by decide⟩ (Nat.le_of_ble_eq_true rfl) k_b0 (mSI_mono K0 (fun r_4 y_3 K0 => ?_))
    refine r_if_ne (pc := 32) (tgt := 41) dX8_spareOf_32 (by decide) (fun q => ?_) (fun q => ?_)
    · have K0 := K0.1 q
      refine r_iload_n (pc := 41) dX8_spareOf_41 rfl ?_
      exact s_iret rfl dX8_spareOf_42 K0
    · have K0 := K0.2 q
      refine r_iinc (pc := 35) (v := l2 + (-1)) dX8_spareOf_35 rfl rfl (by decide) ?_
      refine r_goto (pc := 38) (L := [some (.ref b0), some (.int l1), some (.int (l2 + (-1)))]) (tgt := 11) dX8_spareOf_38 (by decide) ?_
      exact r_le (L' := [some (.ref b0), some (.int l1), some (.int (l2 + (-1)))]) ⟨rfl, ⟨rfl, ⟨rfl, trivial⟩⟩⟩ K0
section
theorem lp_X8_spareOf {x : Cn} {Q : Int32 → Cn → Prop} {t s : Nat} (M : MRf x t) (ht : kk KW t = some (20, 518)) (hs : s < 24) (q : Q (sprT (gi x t) s) x) : ∀ m : Nat, m ≤ cpt (so (gi x t) s 7) → (∀ j, m < j → j ≤ cpt (so (gi x t) s 7) → ¬ (0 < cpt (bas (gi x t) s) ∧ 4 * cpt (bas (gi x t) s) ≤ 5 * (cpt (so (gi x t) s 8 ||| so (gi x t) s 10) + (cpt (so (gi x t) s 7) - j)))) → GI mX8_spareOf 11 [some (.ref 717), some (.int (nI s)), some (.int (nI m))] [] KW x Q := by
  have b1 := cpt_le (bas (gi x t) s)
  have b2 := cpt_le (so (gi x t) s 8 ||| so (gi x t) s 10)
  have b3 := cpt_le (so (gi x t) s 7)
  intro m
  induction m with
  | zero =>
    intro hm hj
    refine v_X8_spareOf_11 km M.2.2.1 ht ⟨fun z => absurd z (by decide), fun _ => ⟨l24_nI hs rfl, ?_⟩⟩
    rw [nI_clamp (by omega), pk_sub (by omega)]
    refine sp_X8_isKept M ht hs ?_
    unfold sprT mlf at q
    unfold kw
    rw [nI_add]
    by_cases z : f_kw (nI (cpt (bas (gi x t) s))) (nI (cpt (so (gi x t) s 8 ||| so (gi x t) s 10) + (cpt (so (gi x t) s 7) - 0)))
    · rw [b2i_t z]
      refine ⟨fun _ => ?_, fun w => absurd w (by decide)⟩
      rw [kwN (by omega) (by omega)] at z
      rw [if_pos ⟨z.1, by simpa using z.2⟩] at q
      have : cpt (so (gi x t) s 7) = 0 ∨ cpt (so (gi x t) s 8 ||| so (gi x t) s 10) + cpt (so (gi x t) s 7) - (4 * cpt (bas (gi x t) s) + 4) / 5 = 0 := by
        by_cases c : cpt (so (gi x t) s 7) = 0
        · exact Or.inl c
        · have := hj 1 (by omega) (by omega)
          refine Or.inr ?_
          have hz := z.1
          omega
      rcases this with c | c
      · rwa [c, Nat.zero_min] at q
      · rwa [c, Nat.min_zero] at q
    · rw [b2i_f z]
      refine ⟨fun w => absurd rfl w, fun _ => ?_⟩
      rw [kwN (by omega) (by omega)] at z
      rw [if_neg (fun w => z ⟨w.1, by simpa using w.2⟩)] at q
      exact v_X8_spareOf_11 km M.2.2.1 ht ⟨fun _ => q, fun w => absurd (by decide) w⟩
  | succ m ih =>
    intro hm hj
    refine v_X8_spareOf_11 km M.2.2.1 ht ⟨fun z => absurd z (nI_pos (by omega)), fun _ => ⟨l24_nI hs rfl, ?_⟩⟩
    rw [nI_clamp (by omega), pk_sub (by omega)]
    refine sp_X8_isKept M ht hs ?_
    unfold kw
    rw [nI_add]
    by_cases z : f_kw (nI (cpt (bas (gi x t) s))) (nI (cpt (so (gi x t) s 8 ||| so (gi x t) s 10) + (cpt (so (gi x t) s 7) - (m + 1))))
    · rw [b2i_t z]
      refine ⟨fun _ => ?_, fun w => absurd w (by decide)⟩
      rw [kwN (by omega) (by omega)] at z
      unfold sprT mlf at q
      rw [if_pos ⟨z.1, by have := z.2; omega⟩] at q
      have : min (cpt (so (gi x t) s 7)) (cpt (so (gi x t) s 8 ||| so (gi x t) s 10) + cpt (so (gi x t) s 7) - (4 * cpt (bas (gi x t) s) + 4) / 5) = m + 1 := by
        have hz := z.1
        have hz2 := z.2
        by_cases c : cpt (so (gi x t) s 7) = m + 1
        · rw [Nat.min_eq_left (by omega)]; exact c
        · have := hj (m + 2) (by omega) (by omega)
          rw [Nat.min_eq_right (by omega)]
          omega
      rwa [this] at q
    · rw [b2i_f z]
      refine ⟨fun w => absurd rfl w, fun _ => ?_⟩
      rw [kwN (by omega) (by omega)] at z
      rw [pk_m1]
      refine ih (by omega) (fun j h1 h2 => ?_)
      by_cases c : j = m + 1
      · rw [c]; exact z
      · exact hj j (by omega) h2
theorem sp_X8_spareOf {x : Cn} {Q : Int32 → Cn → Prop} {t s : Nat} (M : MRf x t) (ht : kk KW t = some (20, 518)) (hs : s < 24) (q : Q (sprT (gi x t) s) x) : mSI mX8_spareOf [.ref 717, .int (nI s)] KW x Q := by
  refine v_X8_spareOf_0 km M.2.2.1 ht ⟨l24_nI hs rfl, ?_⟩
  rw [nI_clamp (by omega)]
  exact lp_X8_spareOf M ht hs q _ (Nat.le_refl _) (fun j h1 h2 => absurd h1 (by omega))
end
theorem eq_octet (a : Int32) : Both mX7_octet mX8_octet [.int a] := by
  intro x R
  obtain ⟨n, hn, h1, h2, h3⟩ := R.2.2.2.2.1
  have iN := inN' (v := a) (n := n) (by omega)
  have rf : mSI mX8_octet [.ref 717, .int a] KW x (fun r' z => (if 0 ≤ a ∧ a < nI n then gi x 176 a.toNatClampNeg else -1) = r' ∧ Rel z) := by
    refine v_X8_octet_0 km R.2.1.2.2.2.2.2.2.2.2 km725 ?_
    rw [h2, iN]
    refine ⟨fun z => ⟨if_neg z, R⟩, fun z => ?_⟩
    rw [if_pos z]
    obtain ⟨j, hj, rfl⟩ := inN (by omega) z
    rw [nI_clamp (by omega), h3 j hj]
    exact ⟨vp_in_nI (by omega) (by decide), rfl, R⟩
  refine v_X7_octet_0 k0 R.1.c10 (by decide) R.1.c175 k176 ?_
  rw [h1]
  refine ⟨fun z => by rwa [if_neg (fun w => Int32.not_lt.mpr w.1 z)] at rf, fun z => ⟨fun z2 => ?_, fun z2 => by rwa [if_neg (fun w => z2 w.2)] at rf⟩⟩
  rw [if_pos ⟨Int32.not_lt.mp z, z2⟩] at rf
  obtain ⟨j, hj, rfl⟩ := inN (by omega) ⟨Int32.not_lt.mp z, z2⟩
  exact ⟨vp_in_nI (by omega) (by decide), rf⟩
theorem eq_end (a : Int32) : Both mX7_end mX8_end [.int a] := by
  intro x R
  obtain ⟨n, hn, h1, h2, h3⟩ := R.2.2.2.1
  refine v_X7_end_0 k0 ?_
  rw [h1]
  have no : ¬ (0 ≤ a ∧ a ≤ nI n) → mSI mX8_end [.ref 717, .int a] KW x (fun r' z => -1 = r' ∧ Rel z) := by
    intro z
    refine v_X8_end_0 km ?_
    rw [h2]
    exact ⟨fun w => absurd w z, fun _ => ⟨rfl, R⟩⟩
  refine ⟨fun z => no (fun w => Int32.not_lt.mpr w.1 z), fun z => ⟨fun z2 => ?_, fun z2 => no (fun w => z2 w.2)⟩⟩
  refine v_X8_end_0 km ⟨fun _ => ⟨rfl, ?_⟩, fun w => absurd ⟨Int32.not_lt.mp z, by rw [gi_ui, if_neg (by decide), h2]; exact z2⟩ w⟩
  obtain ⟨j, hj, rfl⟩ := nI_of z
  have hjn : j ≤ n := (nI_leI hj (by omega)).mp z2
  obtain ⟨r1, r2, r3, -, r5, W, C, S, A, N, r6, r7, r8⟩ := R
  have e : ∀ b k, ¬ (b = 0 ∧ k = 1) → ¬ (b = 717 ∧ k = 5) → gi (ui (ui x 0 1 (nI j)) 717 5 (nI j)) b k = gi x b k := fun b k g1 g2 => by rw [gi_ui, if_neg g2, gi_ui, if_neg g1]
  have eT : gi (ui (ui x 0 1 (nI j)) 717 5 (nI j)) 718 = gi x 718 := by funext k; exact e 718 k (by omega) (by omega)
  refine ⟨r1.keep rfl, r2.keep rfl, ?_, ⟨j, by omega, rfl, rfl, fun i hi => ?_⟩, ?_, W, C, S, A, N, ?_, ?_, ?_⟩
  · exact r3
  · rw [e 1 i (by omega) (by omega), e 720 i (by omega) (by omega)]
    exact h3 i (by omega)
  · exact r5.keep (e _ _ (by omega) (by omega)) (e _ _ (by omega) (by omega)) (fun i => e _ _ (by omega) (by omega)) (fun i => e _ _ (by omega) (by omega))
  · rw [eT]
    exact r6.keep rfl (fun a k g1 g2 g3 => e a k (by omega) (by omega))
  · rw [eT]
    exact r7.keep (e _ _ (by omega) (by omega)) (fun i => e _ _ (by omega) (by omega)) (fun _ _ => rfl)
  · rw [eT]
    exact r8.keep r1 rfl (e _ _ (by omega) (by omega)) (e _ _ (by omega) (by omega)) (fun a k g1 g2 => e a k (by omega) (by omega)) (fun i => e _ _ (by omega) (by omega)) (fun _ _ => rfl)
theorem eq_letter (a b : Int32) : Both mX7_letter mX8_letter [.int a, .int b] := by
  intro x R
  obtain ⟨W, C, S, A, N, E, ⟨hc, hv⟩, -⟩ := R.sea
  have ht := Rel.t2 E
  have hC : C ≤ 8 := E.nums.2.2.2.2.2.1
  have iC := inN' (v := a) (n := C) (by omega)
  have rf : mSI mX8_letter [.ref 717, .int a, .int b] KW x (fun r' z => (if (0 ≤ a ∧ a < nI C) ∧ (0 ≤ b ∧ b ≤ 5) then gi x 57 (6 * a.toNatClampNeg + b.toNatClampNeg) else -2) = r' ∧ Rel z) := by
    refine v_X8_letter_0 km R.2.1.1 km1 ⟨v0 (k := 1) (by decide) rfl rfl, ?_⟩
    rw [ht.2.1, iC]
    refine ⟨fun z => ⟨if_neg (fun w => z w.1), R⟩, fun z => ⟨fun z2 => ⟨if_neg (fun w => z2 w.2), R⟩, fun z2 => ?_⟩⟩
    rw [if_pos ⟨z, z2⟩]
    obtain ⟨c, hc2, rfl⟩ := inN (by omega) z
    obtain ⟨i, hi, rfl⟩ := nI_of2 (M := 5) (n := 5) (by decide) (Int32.not_lt.mpr z2.1) z2.2
    obtain ⟨v, v1, v2, v3⟩ := hv c hc2
    rw [show (54 : Int32) = nI 54 by decide, nI_add, nI_clamp (by omega), nI_clamp (by omega), nI_clamp (by omega), v2]
    exact ⟨vp_in_nI (by omega) (by decide), sp_X8_letterOf (by omega) (by omega) ⟨v3 i (by omega), R⟩⟩
  refine v_X7_letter_0 k0 R.1.2.2.1 (by decide) ?_
  rw [hc]
  refine ⟨fun z => by rwa [if_neg (fun w => z w.1)] at rf, fun z => ⟨fun z2 => ?_, fun z2 => by rwa [if_neg (fun w => z2 w.2)] at rf⟩⟩
  rw [if_pos ⟨z, z2⟩] at rf
  obtain ⟨c, hc2, rfl⟩ := inN (by omega) z
  obtain ⟨i, hi, rfl⟩ := nI_of2 (M := 5) (n := 5) (by decide) (Int32.not_lt.mpr z2.1) z2.2
  rw [nI_clamp (show c < 2 ^ 31 by omega), nI_clamp (show i < 2 ^ 31 by omega)] at rf
  exact sp_X1_letterOf (nb := 56) (by decide) R.1.2.2.2.2.2.2.2.1 (by decide) (by omega) (by omega) rf
theorem eq_clash (a b : Int32) : Both mX7_clash mX8_clash [.int a, .int b] := by
  intro x R
  obtain ⟨W, C, S, A, N, E, -, -⟩ := R.sea
  have hn := E.nums
  have ht := Rel.t2 E
  have hA : A ≤ 24 := hn.2.2.2.2.2.2.2.1
  have hW : W ≤ 30 := hn.2.2.2.2.1
  have ia := inN' (v := a) (n := A) (by omega)
  have ib := inN' (v := b) (n := A) (by omega)
  let T := gi x 718
  let F : Int32 := if (0 ≤ a ∧ a < nI A) ∧ (0 ≤ b ∧ b < nI A) then (if ao T a.toNatClampNeg 1 = ao T b.toNatClampNeg 1 ∧ ao T a.toNatClampNeg 2 = ao T b.toNatClampNeg 2 then nI (cpt (f_span (ao T a.toNatClampNeg 4) (ao T a.toNatClampNeg 5) &&& f_span (ao T b.toNatClampNeg 4) (ao T b.toNatClampNeg 5))) else 0) else -2
  have rf : mSI mX8_clash [.ref 717, .int a, .int b] KW x (fun r' z => F = r' ∧ Rel z) := by
    refine v_X8_clash_0 km R.2.1.1 km1 R.2.1.2.2.1 km1 ⟨v0 (k := 3) (by decide) rfl rfl, ?_⟩
    rw [ht.2.2.2.1, ia, ib]
    refine ⟨fun z => ⟨if_neg (fun w => z w.1), R⟩, fun z => ⟨fun z2 => ?_, fun z2 => ⟨if_neg (fun w => z2 w.2), R⟩⟩⟩
    obtain ⟨i, hi, ei⟩ := inN (by omega) z
    obtain ⟨j, hj, ej⟩ := inN (by omega) z2
    have eF : F = (if ao T a.toNatClampNeg 1 = ao T b.toNatClampNeg 1 ∧ ao T a.toNatClampNeg 2 = ao T b.toNatClampNeg 2 then nI (cpt (f_span (ao T a.toNatClampNeg 4) (ao T a.toNatClampNeg 5) &&& f_span (ao T b.toNatClampNeg 4) (ao T b.toNatClampNeg 5))) else 0) := if_pos ⟨z, z2⟩
    rw [eF]
    refine ⟨by rw [ei]; exact l24_nI (by omega) rfl, by rw [ej]; exact l24_nI (by omega) rfl, fun w => ⟨if_neg (fun u => w u.1), R⟩, fun w => ⟨fun w2 => ⟨if_neg (fun u => w2 u.2), R⟩, fun w2 => ⟨if_pos ⟨w, w2⟩, R⟩⟩⟩
  refine v_X7_clash_0 k0 R.1.2.1 (ks0 E.1) E.2.1.2.2.2.1 (ks4 E.1) ?_
  rw [hn.2.2.2.1]
  refine ⟨fun z => ?_, fun z => ⟨fun z2 => ?_, fun z2 => ?_⟩⟩
  · have eF : F = -2 := if_neg (fun w => z w.1)
    rwa [eF] at rf
  · have eF : F = (if ao T a.toNatClampNeg 1 = ao T b.toNatClampNeg 1 ∧ ao T a.toNatClampNeg 2 = ao T b.toNatClampNeg 2 then nI (cpt (f_span (ao T a.toNatClampNeg 4) (ao T a.toNatClampNeg 5) &&& f_span (ao T b.toNatClampNeg 4) (ao T b.toNatClampNeg 5))) else 0) := if_pos ⟨z, z2⟩
    rw [eF] at rf
    obtain ⟨i, hi, ei⟩ := inN (by omega) z
    obtain ⟨j, hj, ej⟩ := inN (by omega) z2
    subst ei ej
    rw [nI_clamp (show i < 2 ^ 31 by omega), nI_clamp (show j < 2 ^ 31 by omega)] at rf ⊢
    obtain ⟨p, e1, e2, e3, -, -, -, -, ⟨f, l, f1, f2, f3, f4⟩, -⟩ := E.ask hi
    obtain ⟨p', e1', e2', e3', -, -, -, -, ⟨f', l', f1', f2', f3', f4'⟩, -⟩ := E.ask hj
    refine ⟨vp_in_nI (by omega) (by decide), p, e1, vp_in_nI (by omega) (by decide), p', e1', e2, e2', ?_⟩
    have c1 := e3 1 (by decide)
    have c2 := e3 2 (by decide)
    have c1' := e3' 1 (by decide)
    have c2' := e3' 2 (by decide)
    rw [c1, c2, c1', c2', e3 4 (by decide), e3 5 (by decide), e3' 4 (by decide), e3' 5 (by decide), f3, f4, f3', f4', sb_span (by omega) (by omega), sb_span (by omega) (by omega), ← f3, ← f4, ← f3', ← f4']
    refine ⟨fun w => by rwa [if_neg (fun u => w u.1)] at rf, fun w => ⟨fun w2 => by rwa [if_pos ⟨w, w2⟩] at rf, fun w2 => by rwa [if_neg (fun u => w2 u.2)] at rf⟩⟩
  · have eF : F = -2 := if_neg (fun w => z2 w.2)
    rwa [eF] at rf
theorem eq_spare (a : Int32) : Both mX7_spare mX8_spare [.int a] := by
  intro x R
  obtain ⟨W, C, S, A, N, E, -, -⟩ := R.sea
  have hn := E.nums
  have ht := Rel.t2 E
  have hS : S ≤ 24 := hn.2.2.2.2.2.2.1
  have iS := inN' (v := a) (n := S) (by omega)
  have rf : mSI mX8_spare [.ref 717, .int a] KW x (fun r' z => (if 0 ≤ a ∧ a < nI S then sprT (gi x 718) a.toNatClampNeg else -2) = r' ∧ Rel z) := by
    refine v_X8_spare_0 km R.2.1.1 km1 ⟨v0 (k := 2) (by decide) rfl rfl, ?_⟩
    rw [ht.2.2.1, iS]
    refine ⟨fun z => ⟨if_neg z, R⟩, fun z => ?_⟩
    rw [if_pos z]
    obtain ⟨s, hs, rfl⟩ := inN (by omega) z
    rw [nI_clamp (by omega)]
    exact sp_X8_spareOf R.2.1 km1 (by omega) ⟨rfl, R⟩
  refine v_X7_spare_0 k0 R.1.2.1 (ks0 E.1) E.2.1.2.2.1 (ks3 E.1) ?_
  rw [hn.2.2.1]
  refine ⟨fun z => ?_, fun z => by rwa [if_neg z] at rf⟩
  rw [if_pos z] at rf
  obtain ⟨s, hs, rfl⟩ := inN (by omega) z
  obtain ⟨p, e1, e2, e3, e4, -, e6⟩ := E.ser hs
  rw [nI_clamp (show s < 2 ^ 31 by omega)] at rf ⊢
  exact ⟨vp_in_nI (by omega) (by decide), p, e1, e2, sp_X5_missesLeft e2 e3 e6 rf⟩
end

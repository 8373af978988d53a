def accT {α : Type} (g : Nat → α → α) : Nat → α → α
  | 0, a => a
  | n + 1, a => g n (accT g n a)
theorem lp_acc {α : Type} (g : Nat → α → α) (G : Nat → α → Prop) (S : Nat) (a0 : α) (hend : G S (accT g S a0)) (hstep : ∀ s a, s < S → (∀ b, g s a = b → G (s + 1) b) → G s a) : G 0 a0 := by
  have key : ∀ n s, s + n = S → G s (accT g s a0) := by
    intro n
    induction n with
    | zero =>
      intro s hs
      rw [show s = S by omega]
      exact hend
    | succ n ih =>
      intro s hs
      refine hstep s _ (by omega) (fun b e => ?_)
      rw [← e]
      exact ih (s + 1) (by omega)
  exact key S 0 (by omega)
theorem accT_congr {α : Type} {g f : Nat → α → α} {a0 : α} : ∀ n, (∀ i a, i < n → g i a = f i a) → accT g n a0 = accT f n a0 := by
  intro n
  induction n with
  | zero => intro _; rfl
  | succ n ih =>
    intro h
    simp only [accT]
    rw [ih (fun i a hi => h i a (by omega)), h n _ (by omega)]
/-- a set grows by s where c holds -/
def orS (c : Nat → Prop) [∀ s, Decidable (c s)] : Nat → Int32 → Int32 := fun s a => if c s then a ||| (1 <<< (nI s &&& 31)) else a
def inc (c : Nat → Prop) [∀ s, Decidable (c s)] : Nat → Int32 → Int32 := fun s a => if c s then a + 1 else a
abbrev kw (T : TT) (s : Nat) (f : Int32) : Prop := f_kw (nI (cpt (bas T s))) (nI (cpt (so T s 8 ||| so T s 10)) + f)
def stds (T : TT) (s : Nat) : Int32 := if kw T s 0 then 1 else if kw T s (nI (cpt (so T s 7))) then 0 else 2
set_option maxHeartbeats 2000000 in
theorem v_X8_isKept_0 {K : Sh} {x : Cn} {Q : Int32 → Cn → Prop} {b0 : Nat} {l1 : Int32} {l2 : Int32} {b0_3 : Nat} {n_b0_3 : Nat} (k_b0 : kk K b0 = some (8, 0)) (g_b0_3 : gr x b0 3 = some b0_3) (k_b0_3 : kk K b0_3 = some (20, n_b0_3)) (K0 : (l24 l1 n_b0_3) ∧ (((nI (cpt (bas (gi x b0_3) (l1 : Int32).toNatClampNeg))) ≤ 0 → (Q 0 x)) ∧ (¬ (nI (cpt (bas (gi x b0_3) (l1 : Int32).toNatClampNeg))) ≤ 0 → (((5 * ((nI (cpt (so (gi x b0_3) (l1 : Int32).toNatClampNeg 8 ||| so (gi x b0_3) (l1 : Int32).toNatClampNeg 10))) + l2)) < (4 * (nI (cpt (bas (gi x b0_3) (l1 : Int32).toNatClampNeg)))) → (Q 0 x)) ∧ (¬ (5 * ((nI (cpt (so (gi x b0_3) (l1 : Int32).toNatClampNeg 8 ||| so (gi x b0_3) (l1 : Int32).toNatClampNeg 10))) + l2)) < (4 * (nI (cpt (bas (gi x b0_3) (l1 : Int32).toNatClampNeg)))) → (Q 1 x)))))) : mSI mX8_isKept [.ref b0, .int l1, .int l2] K x Q := by
  refine s_I (by decide) (by simp [Value.category]) (Nat.le_of_ble_eq_true rfl) ?_
  show mGM mX8_isKept 0 [some (.ref b0), some (.int l1), some (.int l2), none] [] (hp K x) (PI K Q)
  refine r_aload_n (pc := 0) dX8_isKept_0 rfl ?_
  refine r_iload_n (pc := 1) dX8_isKept_1 rfl ?_
  obtain ⟨p_1, K0⟩ := K0
  refine s_VI (pc := 2) mX8_basisOf (ci := 8) (a := b0) (As := [.int l1]) dX8_isKept_2 lk_X8_71 in_X8_basisOf mo_X8_basisOf ⟨by decide, rfl⟩ ⟨by decide, by decide⟩ (Nat.le_of_ble_eq_true rfl) k_b0 (sr_X8_basisOf k_b0 g_b0_3 k_b0_3 p_1 ?_)
  refine s_SI (pc := 5) mX8_bits (As := [.int (bas (gi x b0_3) (l1 : Int32).toNatClampNeg)]) dX8_isKept_5 lk_X8_296 st_X8_bits mo_X8_bits ⟨by decide, by decide⟩ (Nat.le_of_ble_eq_true rfl) (sp_X8_bits  ?_)
  refine r_istore_n (pc := 8) dX8_isKept_8 (by decide) ?_
  refine r_iload_n (pc := 9) (L := [some (.ref b0), some (.int l1), some (.int l2), some (.int (nI (cpt (bas (gi x b0_3) (l1 : Int32).toNatClampNeg))))]) dX8_isKept_9 rfl ?_
  refine r_if_le (pc := 10) (tgt := 32) dX8_isKept_10 (by decide) (fun q => ?_) (fun q => ?_)
  · have K0 := K0.1 q
    refine r_iconst (pc := 32) (v := 0) dX8_isKept_32 (by decide) ?_
    exact s_zret rfl (by decide) dX8_isKept_33 K0
  · have K0 := K0.2 q
    refine r_iconst (pc := 13) (v := 5) dX8_isKept_13 (by decide) ?_
    refine r_aload_n (pc := 14) dX8_isKept_14 rfl ?_
    refine r_iload_n (pc := 15) dX8_isKept_15 rfl ?_
    refine s_VI (pc := 16) mX8_goodOf (ci := 8) (a := b0) (As := [.int l1]) dX8_isKept_16 lk_X8_299 in_X8_goodOf mo_X8_goodOf ⟨by decide, rfl⟩ ⟨by decide, by decide⟩ (Nat.le_of_ble_eq_true rfl) k_b0 (sr_X8_goodOf k_b0 g_b0_3 k_b0_3 p_1 ?_)
    refine r_iload_n (pc := 19) dX8_isKept_19 rfl ?_
    refine r_iadd (pc := 20) dX8_isKept_20 ?_
    refine r_imul (pc := 21) dX8_isKept_21 ?_
    refine r_iconst (pc := 22) (v := 4) dX8_isKept_22 (by decide) ?_
    refine r_iload_n (pc := 23) dX8_isKept_23 rfl ?_
    refine r_imul (pc := 24) dX8_isKept_24 ?_
    refine r_icmp_lt (pc := 25) (tgt := 32) dX8_isKept_25 (by decide) (fun q => ?_) (fun q => ?_)
    · have K0 := K0.1 q
      refine r_iconst (pc := 32) (v := 0) dX8_isKept_32 (by decide) ?_
      exact s_zret rfl (by decide) dX8_isKept_33 K0
    · have K0 := K0.2 q
      refine r_iconst (pc := 28) (v := 1) dX8_isKept_28 (by decide) ?_
      refine r_goto (pc := 29) (tgt := 33) dX8_isKept_29 (by decide) ?_
      exact s_zret rfl (by decide) dX8_isKept_33 K0
section
variable {x : Cn} {Q : Int32 → Cn → Prop}
theorem sp_X8_isKept {t s : Nat} {f : Int32} (M : MRf x t) (ht : kk KW t = some (20, 518)) (hs : s < 24) (k : Q (b2i (kw (gi x t) s f)) x) : mSI mX8_isKept [.ref 717, .int (nI s), .int f] KW x Q := by
  refine v_X8_isKept_0 km M.2.2.1 ht ⟨l24_nI hs rfl, ?_⟩
  rw [nI_clamp (show s < 2 ^ 31 by omega)]
  exact ⟨fun h => (b2i_k k).2 (fun z => Int32.not_le.mpr z.1 h), fun h => ⟨fun g => (b2i_k k).2 (fun z => Int32.not_lt.mpr z.2 g), fun g => (b2i_k k).1 ⟨Int32.not_le.mp h, Int32.not_lt.mp g⟩⟩⟩
end
set_option maxHeartbeats 2000000 in
theorem v_X8_standsOf_0 {K : Sh} {x : Cn} {Q : Int32 → Cn → Prop} {b0 : Nat} {l1 : Int32}  (k_b0 : kk K b0 = some (8, 0)) (K0 : mSI mX8_isKept [.ref b0, .int l1, .int 0] K x (fun r_2 y_1 => (r_2 = 0 → (∃ c_4 : Nat, gr y_1 b0 3 = some c_4 ∧ (∃ n_7 : Nat, kk K c_4 = some (20, n_7) ∧ ((l24 l1 n_7) ∧ (mSI mX8_isKept [.ref b0, .int l1, .int (nI (cpt (so (gi y_1 c_4) (l1 : Int32).toNatClampNeg 7)))] K y_1 (fun r_10 y_9 => (r_10 = 0 → (Q 2 y_9)) ∧ (¬ r_10 = 0 → (Q 0 y_9)))))))) ∧ (¬ r_2 = 0 → (Q 1 y_1)))) : mSI mX8_standsOf [.ref b0, .int l1] K x Q := by
  refine s_I (by decide) (by simp [Value.category]) (Nat.le_of_ble_eq_true rfl) ?_
  show mGM mX8_standsOf 0 [some (.ref b0), some (.int l1)] [] (hp K x) (PI K Q)
  refine r_aload_n (pc := 0) dX8_standsOf_0 rfl ?_
  refine r_iload_n (pc := 1) dX8_standsOf_1 rfl ?_
  refine r_iconst (pc := 2) (v := 0) dX8_standsOf_2 (by decide) ?_
  refine s_VI (pc := 3) mX8_isKept (ci := 8) (a := b0) (As := [.int l1, .int 0]) dX8_standsOf_3 lk_X8_302 in_X8_isKept mo_X8_isKept ⟨by decide, rfl⟩ ⟨by decide, by decide⟩ (Nat.le_of_ble_eq_true rfl) k_b0 (mSI_mono K0 (fun r_2 y_1 K0 => ?_))
  refine r_if_eq (pc := 6) (tgt := 13) dX8_standsOf_6 (by decide) (fun q => ?_) (fun q => ?_)
  · have K0 := K0.1 q
    refine r_aload_n (pc := 13) dX8_standsOf_13 rfl ?_
    refine r_iload_n (pc := 14) dX8_standsOf_14 rfl ?_
    refine r_aload_n (pc := 15) dX8_standsOf_15 rfl ?_
    refine r_iload_n (pc := 16) dX8_standsOf_16 rfl ?_
    refine r_bipush (pc := 17) (v := 7) dX8_standsOf_17 (by decide) ?_
    obtain ⟨c_4, g_5, K0⟩ := K0
    obtain ⟨n_7, e_6, K0⟩ := K0
    obtain ⟨p_8, K0⟩ := K0
    refine s_VI (pc := 19) mX8_one (ci := 8) (a := b0) (As := [.int l1, .int 7]) dX8_standsOf_19 lk_X8_67 in_X8_one mo_X8_one ⟨by decide, rfl⟩ ⟨by decide, by decide⟩ (Nat.le_of_ble_eq_true rfl) k_b0 (sr_X8_one k_b0 g_5 e_6 p_8 ⟨by decide, by decide⟩ ?_)
    refine s_SI (pc := 22) mX8_bits (As := [.int (so (gi y_1 c_4) (l1 : Int32).toNatClampNeg 7)]) dX8_standsOf_22 lk_X8_296 st_X8_bits mo_X8_bits ⟨by decide, by decide⟩ (Nat.le_of_ble_eq_true rfl) (sp_X8_bits  ?_)
    refine s_VI (pc := 25) mX8_isKept (ci := 8) (a := b0) (As := [.int l1, .int (nI (cpt (so (gi y_1 c_4) (l1 : Int32).toNatClampNeg 7)))]) dX8_standsOf_25 lk_X8_302 in_X8_isKept mo_X8_isKept ⟨by decide, rfl⟩ ⟨by decide, by decide⟩ (Nat.le_of_ble_eq_true rfl) k_b0 (mSI_mono K0 (fun r_10 y_9 K0 => ?_))
    refine r_if_eq (pc := 28) (tgt := 35) dX8_standsOf_28 (by decide) (fun q => ?_) (fun q => ?_)
    · have K0 := K0.1 q
      refine r_iconst (pc := 35) (v := 2) dX8_standsOf_35 (by decide) ?_
      exact s_iret rfl dX8_standsOf_36 K0
    · have K0 := K0.2 q
      refine r_iconst (pc := 31) (v := 0) dX8_standsOf_31 (by decide) ?_
      refine r_goto (pc := 32) (tgt := 36) dX8_standsOf_32 (by decide) ?_
      exact s_iret rfl dX8_standsOf_36 K0
  · have K0 := K0.2 q
    refine r_iconst (pc := 9) (v := 1) dX8_standsOf_9 (by decide) ?_
    refine r_goto (pc := 10) (tgt := 36) dX8_standsOf_10 (by decide) ?_
    exact s_iret rfl dX8_standsOf_36 K0
section
variable {x : Cn} {Q : Int32 → Cn → Prop}
theorem sp_X8_standsOf {t s : Nat} (M : MRf x t) (ht : kk KW t = some (20, 518)) (hs : s < 24) (k : Q (stds (gi x t) s) x) : mSI mX8_standsOf [.ref 717, .int (nI s)] KW x Q := by
  refine v_X8_standsOf_0 km (sp_X8_isKept M ht hs ⟨fun z => ⟨t, M.2.2.1, 518, ht, l24_nI hs rfl, ?_⟩, fun z => ?_⟩)
  · rw [nI_clamp (show s < 2 ^ 31 by omega)]
    refine sp_X8_isKept M ht hs ⟨fun z2 => ?_, fun z2 => ?_⟩
    · unfold stds at k
      rwa [if_neg ((b2i_z _).mp z), if_neg ((b2i_z _).mp z2)] at k
    · unfold stds at k
      rwa [if_neg ((b2i_z _).mp z), if_pos (b2i_nz z2)] at k
  · unfold stds at k
    rwa [if_pos (b2i_nz z)] at k
end
set_option maxHeartbeats 2000000 in
theorem v_X4_seriesOf_0 {K : Sh} {x : Cn} {Q : Int32 → Cn → Prop} {b0 : Nat} {l1 : Int32} {l2 : Int32}   (K0 : GI mX4_seriesOf 5 [some (.ref b0), some (.int l1), some (.int l2), some (.int 0), some (.int 0)] [] K x Q) : mSI mX4_seriesOf [.ref b0, .int l1, .int l2] K x Q := by
  refine s_I (by decide) (by simp [Value.category]) (Nat.le_of_ble_eq_true rfl) ?_
  show mGM mX4_seriesOf 0 [some (.ref b0), some (.int l1), some (.int l2), none, none] [] (hp K x) (PI K Q)
  refine r_iconst (pc := 0) (v := 0) dX4_seriesOf_0 (by decide) ?_
  refine r_istore_n (pc := 1) dX4_seriesOf_1 (by decide) ?_
  refine r_iconst (pc := 2) (L := [some (.ref b0), some (.int l1), some (.int l2), some (.int 0), none]) (v := 0) dX4_seriesOf_2 (by decide) ?_
  refine r_istore (pc := 3) dX4_seriesOf_3 (by decide) ?_
  exact r_le (L' := [some (.ref b0), some (.int l1), some (.int l2), some (.int 0), some (.int 0)]) ⟨rfl, ⟨rfl, ⟨rfl, ⟨rfl, ⟨rfl, trivial⟩⟩⟩⟩⟩ K0
set_option maxHeartbeats 2000000 in
theorem v_X4_seriesOf_5 {K : Sh} {x : Cn} {Q : Int32 → Cn → Prop} {b0 : Nat} {l1 : Int32} {l2 : Int32} {l3 : Int32} {l4 : Int32} {b0_7 : Nat} {n_b0_7 : Nat} (k_b0 : kk K b0 = some (4, 0)) (g_b0_7 : gr x b0 7 = some b0_7) (k_b0_7 : kk K b0_7 = some (23, n_b0_7)) (K0 : ((gi x b0 3) ≤ l4 → (Q l3 x)) ∧ (¬ (gi x b0 3) ≤ l4 → (vp_in l4 n_b0_7 ∧ (∃ c_3 : Nat, gr x b0_7 ((l4 : Int32).toNatClampNeg) = some c_3 ∧ (kk K c_3 = some (5, 0) ∧ ((¬ (gi x c_3 0 = l1 ∧ (l2 = -1 ∨ gi x c_3 1 = l2)) → (GI mX4_seriesOf 5 [some (.ref b0), some (.int l1), some (.int l2), some (.int l3), some (.int (l4 + 1))] [] K x Q)) ∧ ((gi x c_3 0 = l1 ∧ (l2 = -1 ∨ gi x c_3 1 = l2)) → (GI mX4_seriesOf 5 [some (.ref b0), some (.int l1), some (.int l2), some (.int (l3 + 1)), some (.int (l4 + 1))] [] K x Q)))))))) : GI mX4_seriesOf 5 [some (.ref b0), some (.int l1), some (.int l2), some (.int l3), some (.int l4)] [] K x Q := by
  show mGM mX4_seriesOf 5 [some (.ref b0), some (.int l1), some (.int l2), some (.int l3), some (.int l4)] [] (hp K x) (PI K Q)
  refine r_iload (pc := 5) dX4_seriesOf_5 rfl ?_
  refine r_aload_n (pc := 7) dX4_seriesOf_7 rfl ?_
  refine s_getI (pc := 8) dX4_seriesOf_8 fl_X4_21 rfl k_b0 ?_
  refine r_icmp_ge (pc := 11) (tgt := 38) dX4_seriesOf_11 (by decide) (fun q => ?_) (fun q => ?_)
  · have K0 := K0.1 q
    refine r_iload_n (pc := 38) dX4_seriesOf_38 rfl ?_
    exact s_iret rfl dX4_seriesOf_39 K0
  · have K0 := K0.2 q
    refine r_aload_n (pc := 14) dX4_seriesOf_14 rfl ?_
    refine s_getR (pc := 15) dX4_seriesOf_15 fl_X4_36 rfl k_b0 g_b0_7 ?_
    refine r_iload (pc := 18) dX4_seriesOf_18 rfl ?_
    obtain ⟨i_2, K0⟩ := K0
    obtain ⟨c_3, g_4, K0⟩ := K0
    refine s_aald (pc := 20) dX4_seriesOf_20 (by decide) rfl k_b0_7 i_2 g_4 ?_
    refine r_iload_n (pc := 21) dX4_seriesOf_21 rfl ?_
    refine r_iload_n (pc := 22) dX4_seriesOf_22 rfl ?_
    obtain ⟨e_5, K0⟩ := K0
    refine s_VI (pc := 23) mX5_isOf (ci := 5) (a := c_3) (As := [.int l1, .int l2]) dX4_seriesOf_23 lk_X4_144 in_X5_isOf mo_X5_isOf ⟨by decide, rfl⟩ ⟨by decide, by decide⟩ (Nat.le_of_ble_eq_true rfl) e_5 (sp_X5_isOf e_5 ?_)
    refine r_if_eq (pc := 26) (tgt := 32) dX4_seriesOf_26 (by decide) (fun q => ?_) (fun q => ?_)
    · have q := (b2i_z _).mp q
      have K0 := K0.1 q
      refine r_iinc (pc := 32) (v := l4 + 1) dX4_seriesOf_32 rfl rfl (by decide) ?_
      refine r_goto (pc := 35) (L := [some (.ref b0), some (.int l1), some (.int l2), some (.int l3), some (.int (l4 + 1))]) (tgt := 5) dX4_seriesOf_35 (by decide) ?_
      exact r_le (L' := [some (.ref b0), some (.int l1), some (.int l2), some (.int l3), some (.int (l4 + 1))]) ⟨rfl, ⟨rfl, ⟨rfl, ⟨rfl, ⟨rfl, trivial⟩⟩⟩⟩⟩ K0
    · have q := b2i_nz q
      have K0 := K0.2 q
      refine r_iinc (pc := 29) (v := l3 + 1) dX4_seriesOf_29 rfl rfl (by decide) ?_
      refine r_iinc (pc := 32) (L := [some (.ref b0), some (.int l1), some (.int l2), some (.int (l3 + 1)), some (.int l4)]) (v := l4 + 1) dX4_seriesOf_32 rfl rfl (by decide) ?_
      refine r_goto (pc := 35) (L := [some (.ref b0), some (.int l1), some (.int l2), some (.int (l3 + 1)), some (.int (l4 + 1))]) (tgt := 5) dX4_seriesOf_35 (by decide) ?_
      exact r_le (L' := [some (.ref b0), some (.int l1), some (.int l2), some (.int (l3 + 1)), some (.int (l4 + 1))]) ⟨rfl, ⟨rfl, ⟨rfl, ⟨rfl, ⟨rfl, trivial⟩⟩⟩⟩⟩ K0
section
variable {x : Cn} {Q : Int32 → Cn → Prop}
theorem sp_X4_seriesOf {q : Nat} {T : TT} {W C S A N : Nat} (E : SEA x q T W C S A N) {c d : Int32} (k : Q (accT (inc (fun s => so T s 0 = c ∧ (d = -1 ∨ so T s 1 = d))) S 0) x) : mSI mX4_seriesOf [.ref q, .int c, .int d] KW x Q := by
  have hn := E.nums
  have hS : S ≤ 24 := hn.2.2.2.2.2.2.1
  refine v_X4_seriesOf_0 (lp_acc (inc (fun s => so T s 0 = c ∧ (d = -1 ∨ so T s 1 = d))) (fun s a => GI mX4_seriesOf 5 [some (.ref q), some (.int c), some (.int d), some (.int a), some (.int (nI s))] [] KW x Q) S 0 ?_ (fun s a hs n1 => ?_))
  · exact v_X4_seriesOf_5 (ks0 E.1) E.2.1.2.2.1 (ks3 E.1) ⟨fun _ => k, fun z => absurd (by rw [hn.2.2.1]; exact Int32.le_refl _) z⟩
  · obtain ⟨p, e1, e2, e3, e4, -, e6⟩ := E.ser hs
    refine v_X4_seriesOf_5 (ks0 E.1) E.2.1.2.2.1 (ks3 E.1) ⟨fun z => absurd (by rw [hn.2.2.1] at z; exact z) (nI_ge hs (by omega)), fun _ => ⟨vp_in_nI (by omega) (by decide), p, by rw [nI_clamp (by omega)]; exact e1, e2, ?_⟩⟩
    rw [e3.1 0 (by decide) (by decide), e3.1 1 (by decide) (by decide), nI_1]
    exact ⟨fun z => n1 _ (if_neg z), fun z => n1 _ (if_pos z)⟩
end
set_option maxHeartbeats 2000000 in
theorem v_X8_isEntrant_0 {K : Sh} {x : Cn} {Q : Int32 → Cn → Prop} {b0 : Nat} {l1 : Int32} {l2 : Int32}   (K0 : GI mX8_isEntrant 5 [some (.ref b0), some (.int l1), some (.int l2), some (.int 0), some (.int 0)] [] K x Q) : mSI mX8_isEntrant [.ref b0, .int l1, .int l2] K x Q := by
  refine s_I (by decide) (by simp [Value.category]) (Nat.le_of_ble_eq_true rfl) ?_
  show mGM mX8_isEntrant 0 [some (.ref b0), some (.int l1), some (.int l2), none, none] [] (hp K x) (PI K Q)
  refine r_iconst (pc := 0) (v := 0) dX8_isEntrant_0 (by decide) ?_
  refine r_istore_n (pc := 1) dX8_isEntrant_1 (by decide) ?_
  refine r_iconst (pc := 2) (L := [some (.ref b0), some (.int l1), some (.int l2), some (.int 0), none]) (v := 0) dX8_isEntrant_2 (by decide) ?_
  refine r_istore (pc := 3) dX8_isEntrant_3 (by decide) ?_
  exact r_le (L' := [some (.ref b0), some (.int l1), some (.int l2), some (.int 0), some (.int 0)]) ⟨rfl, ⟨rfl, ⟨rfl, ⟨rfl, ⟨rfl, trivial⟩⟩⟩⟩⟩ K0
set_option maxHeartbeats 2000000 in
theorem v_X8_isEntrant_5 {K : Sh} {x : Cn} {Q : Int32 → Cn → Prop} {b0 : Nat} {l1 : Int32} {l2 : Int32} {l3 : Int32} {l4 : Int32} {b0_3 : Nat} {n_b0_3 : Nat} (k_b0 : kk K b0 = some (8, 0)) (g_b0_3 : gr x b0 3 = some b0_3) (k_b0_3 : kk K b0_3 = some (20, n_b0_3)) (K0 : vp_in 2 n_b0_3 ∧ (((gi x b0_3 2) ≤ l4 → ((2 ≤ l3 → (Q 0 x)) ∧ (¬ 2 ≤ l3 → (Q 1 x)))) ∧ (¬ (gi x b0_3 2) ≤ l4 → ((l24 l4 n_b0_3) ∧ ((¬ (so (gi x b0_3) (l4 : Int32).toNatClampNeg 0) = l1 → (GI mX8_isEntrant 5 [some (.ref b0), some (.int l1), some (.int l2), some (.int (l3 + 0)), some (.int (l4 + 1))] [] K x Q)) ∧ ((so (gi x b0_3) (l4 : Int32).toNatClampNeg 0) = l1 → ((¬ (so (gi x b0_3) (l4 : Int32).toNatClampNeg 1) = l2 → (GI mX8_isEntrant 5 [some (.ref b0), some (.int l1), some (.int l2), some (.int (l3 + 0)), some (.int (l4 + 1))] [] K x Q)) ∧ ((so (gi x b0_3) (l4 : Int32).toNatClampNeg 1) = l2 → (GI mX8_isEntrant 5 [some (.ref b0), some (.int l1), some (.int l2), some (.int (l3 + 1)), some (.int (l4 + 1))] [] K x Q))))))))) : GI mX8_isEntrant 5 [some (.ref b0), some (.int l1), some (.int l2), some (.int l3), some (.int l4)] [] K x Q := by
  show mGM mX8_isEntrant 5 [some (.ref b0), some (.int l1), some (.int l2), some (.int l3), some (.int l4)] [] (hp K x) (PI K Q)
  refine r_iload (pc := 5) dX8_isEntrant_5 rfl ?_
  refine r_aload_n (pc := 7) dX8_isEntrant_7 rfl ?_
  refine s_getR (pc := 8) dX8_isEntrant_8 fl_X8_16 rfl k_b0 g_b0_3 ?_
  refine r_iconst (pc := 11) (v := 2) dX8_isEntrant_11 (by decide) ?_
  obtain ⟨i_1, K0⟩ := K0
  refine s_iald (pc := 12) dX8_isEntrant_12 k_b0_3 i_1 ?_
  refine r_icmp_ge (pc := 13) (tgt := 52) dX8_isEntrant_13 (by decide) (fun q => ?_) (fun q => ?_)
  · have K0 := K0.1 q
    refine r_iload_n (pc := 52) dX8_isEntrant_52 rfl ?_
    refine r_iconst (pc := 53) (v := 2) dX8_isEntrant_53 (by decide) ?_
    refine r_icmp_ge (pc := 54) (tgt := 61) dX8_isEntrant_54 (by decide) (fun q => ?_) (fun q => ?_)
    · have K0 := K0.1 q
      refine r_iconst (pc := 61) (v := 0) dX8_isEntrant_61 (by decide) ?_
      exact s_zret rfl (by decide) dX8_isEntrant_62 K0
    · have K0 := K0.2 q
      refine r_iconst (pc := 57) (v := 1) dX8_isEntrant_57 (by decide) ?_
      refine r_goto (pc := 58) (tgt := 62) dX8_isEntrant_58 (by decide) ?_
      exact s_zret rfl (by decide) dX8_isEntrant_62 K0
  · have K0 := K0.2 q
    refine r_iload_n (pc := 16) dX8_isEntrant_16 rfl ?_
    refine r_aload_n (pc := 17) dX8_isEntrant_17 rfl ?_
    refine r_iload (pc := 18) dX8_isEntrant_18 rfl ?_
    refine r_iconst (pc := 20) (v := 0) dX8_isEntrant_20 (by decide) ?_
    obtain ⟨p_4, K0⟩ := K0
    refine s_VI (pc := 21) mX8_one (ci := 8) (a := b0) (As := [.int l4, .int 0]) dX8_isEntrant_21 lk_X8_67 in_X8_one mo_X8_one ⟨by decide, rfl⟩ ⟨by decide, by decide⟩ (Nat.le_of_ble_eq_true rfl) k_b0 (sr_X8_one k_b0 g_b0_3 k_b0_3 p_4 ⟨by decide, by decide⟩ ?_)
    refine r_iload_n (pc := 24) dX8_isEntrant_24 rfl ?_
    refine r_icmp_ne (pc := 25) (tgt := 43) dX8_isEntrant_25 (by decide) (fun q => ?_) (fun q => ?_)
    · have K0 := K0.1 q
      refine r_iconst (pc := 43) (v := 0) dX8_isEntrant_43 (by decide) ?_
      refine r_iadd (pc := 44) dX8_isEntrant_44 ?_
      refine r_istore_n (pc := 45) dX8_isEntrant_45 (by decide) ?_
      refine r_iinc (pc := 46) (L := [some (.ref b0), some (.int l1), some (.int l2), some (.int (l3 + 0)), some (.int l4)]) (v := l4 + 1) dX8_isEntrant_46 rfl rfl (by decide) ?_
      refine r_goto (pc := 49) (L := [some (.ref b0), some (.int l1), some (.int l2), some (.int (l3 + 0)), some (.int (l4 + 1))]) (tgt := 5) dX8_isEntrant_49 (by decide) ?_
      exact r_le (L' := [some (.ref b0), some (.int l1), some (.int l2), some (.int (l3 + 0)), some (.int (l4 + 1))]) ⟨rfl, ⟨rfl, ⟨rfl, ⟨rfl, ⟨rfl, trivial⟩⟩⟩⟩⟩ K0
    · have K0 := K0.2 q
      refine r_aload_n (pc := 28) dX8_isEntrant_28 rfl ?_
      refine r_iload (pc := 29) dX8_isEntrant_29 rfl ?_
      refine r_iconst (pc := 31) (v := 1) dX8_isEntrant_31 (by decide) ?_
      refine s_VI (pc := 32) mX8_one (ci := 8) (a := b0) (As := [.int l4, .int 1]) dX8_isEntrant_32 lk_X8_67 in_X8_one mo_X8_one ⟨by decide, rfl⟩ ⟨by decide, by decide⟩ (Nat.le_of_ble_eq_true rfl) k_b0 (sr_X8_one k_b0 g_b0_3 k_b0_3 p_4 ⟨by decide, by decide⟩ ?_)
      refine r_iload_n (pc := 35) dX8_isEntrant_35 rfl ?_
      refine r_icmp_ne (pc := 36) (tgt := 43) dX8_isEntrant_36 (by decide) (fun q => ?_) (fun q => ?_)
      · have K0 := K0.1 q
        refine r_iconst (pc := 43) (v := 0) dX8_isEntrant_43 (by decide) ?_
        refine r_iadd (pc := 44) dX8_isEntrant_44 ?_
        refine r_istore_n (pc := 45) dX8_isEntrant_45 (by decide) ?_
        refine r_iinc (pc := 46) (L := [some (.ref b0), some (.int l1), some (.int l2), some (.int (l3 + 0)), some (.int l4)]) (v := l4 + 1) dX8_isEntrant_46 rfl rfl (by decide) ?_
        refine r_goto (pc := 49) (L := [some (.ref b0), some (.int l1), some (.int l2), some (.int (l3 + 0)), some (.int (l4 + 1))]) (tgt := 5) dX8_isEntrant_49 (by decide) ?_
        exact r_le (L' := [some (.ref b0), some (.int l1), some (.int l2), some (.int (l3 + 0)), some (.int (l4 + 1))]) ⟨rfl, ⟨rfl, ⟨rfl, ⟨rfl, ⟨rfl, trivial⟩⟩⟩⟩⟩ K0
      · have K0 := K0.2 q
        refine r_iconst (pc := 39) (v := 1) dX8_isEntrant_39 (by decide) ?_
        refine r_goto (pc := 40) (tgt := 44) dX8_isEntrant_40 (by decide) ?_
        refine r_iadd (pc := 44) dX8_isEntrant_44 ?_
        refine r_istore_n (pc := 45) dX8_isEntrant_45 (by decide) ?_
        refine r_iinc (pc := 46) (L := [some (.ref b0), some (.int l1), some (.int l2), some (.int (l3 + 1)), some (.int l4)]) (v := l4 + 1) dX8_isEntrant_46 rfl rfl (by decide) ?_
        refine r_goto (pc := 49) (L := [some (.ref b0), some (.int l1), some (.int l2), some (.int (l3 + 1)), some (.int (l4 + 1))]) (tgt := 5) dX8_isEntrant_49 (by decide) ?_
        exact r_le (L' := [some (.ref b0), some (.int l1), some (.int l2), some (.int (l3 + 1)), some (.int (l4 + 1))]) ⟨rfl, ⟨rfl, ⟨rfl, ⟨rfl, ⟨rfl, trivial⟩⟩⟩⟩⟩ K0
section
variable {x : Cn} {Q : Int32 → Cn → Prop}
theorem sp_X8_isEntrant {t S : Nat} (M : MRf x t) (ht : kk KW t = some (20, 518)) (h2 : gi x t 2 = nI S) (hS : S ≤ 24) {c d : Int32} (hd : ¬ d = -1) (k : Q (b2i (accT (inc (fun s => so (gi x t) s 0 = c ∧ (d = -1 ∨ so (gi x t) s 1 = d))) S 0 < 2)) x) : mSI mX8_isEntrant [.ref 717, .int c, .int d] KW x Q := by
  refine v_X8_isEntrant_0 (lp_acc (inc (fun s => so (gi x t) s 0 = c ∧ (d = -1 ∨ so (gi x t) s 1 = d))) (fun s a => GI mX8_isEntrant 5 [some (.ref 717), some (.int c), some (.int d), some (.int a), some (.int (nI s))] [] KW x Q) S 0 ?_ (fun s a hs n1 => ?_))
  · exact v_X8_isEntrant_5 km M.2.2.1 ht ⟨v0 (k := 2) (by decide) rfl rfl, fun _ => ⟨fun z => (b2i_k k).2 (Int32.not_lt.mpr z), fun z => (b2i_k k).1 (Int32.not_le.mp z)⟩, fun z => absurd (by rw [h2]; exact Int32.le_refl _) z⟩
  · refine v_X8_isEntrant_5 km M.2.2.1 ht ⟨v0 (k := 2) (by decide) rfl rfl, fun z => absurd (by rw [h2] at z; exact z) (nI_ge hs (by omega)), fun _ => ⟨l24_nI (by omega) rfl, ?_⟩⟩
    rw [nI_clamp (show s < 2 ^ 31 by omega), nI_1, Int32.add_zero]
    exact ⟨fun z => n1 _ (if_neg (fun g => z g.1)), fun z1 => ⟨fun z => n1 _ (if_neg (fun g => g.2.elim hd z)), fun z => n1 _ (if_pos ⟨z1, Or.inr z⟩)⟩⟩
theorem SER.safe {x : Cn} {p : Nat} {T : TT} {C W s : Nat} (h : SER x p T s) (w : Wse T C W s) : f_safe x p ↔ kw T s 0 := by
  unfold f_safe kw
  rw [h.held w, h.1 8 (by decide) (by decide), h.1 10 (by decide) (by decide), Int32.add_zero]
theorem SER.lost {x : Cn} {p : Nat} {T : TT} {C W s : Nat} (h : SER x p T s) (w : Wse T C W s) : f_lost x p ↔ ¬ kw T s (nI (cpt (so T s 7))) := by
  unfold f_lost kw
  rw [h.held w, h.opn w, h.1 8 (by decide) (by decide), h.1 10 (by decide) (by decide)]
theorem kw_mono {T : TT} {s : Nat} (h : kw T s 0) : kw T s (nI (cpt (so T s 7))) := by
  obtain ⟨h1, h2⟩ := h
  refine ⟨h1, ?_⟩
  have c1 := cpt_le (bas T s)
  have c2 := cpt_le (so T s 8 ||| so T s 10)
  have c3 := cpt_le (so T s 7)
  rw [Int32.add_zero] at h2
  rw [show (4 : Int32) = nI 4 by decide, show (5 : Int32) = nI 5 by decide, pk_mul, pk_mul, nI_leI (by omega) (by omega)] at h2
  rw [nI_add, show (4 : Int32) = nI 4 by decide, show (5 : Int32) = nI 5 by decide, pk_mul, pk_mul, nI_leI (by omega) (by omega)]
  omega
end
set_option maxHeartbeats 2000000 in
theorem v_X7_stands_0 {K : Sh} {x : Cn} {Q : Int32 → Cn → Prop} {b0 : Nat} {l1 : Int32} {b0_2 : Nat} {b0_2_7 : Nat} {n_b0_2_7 : Nat} (k_b0 : kk K b0 = some (7, 0)) (g_b0_2 : gr x b0 2 = some b0_2) (k_b0_2 : kk K b0_2 = some (4, 0)) (g_b0_2_7 : gr x b0_2 7 = some b0_2_7) (k_b0_2_7 : kk K b0_2_7 = some (23, n_b0_2_7)) (K0 : ((0 ≤ l1 ∧ l1 < gi x b0_2 3) → (vp_in l1 n_b0_2_7 ∧ (∃ c_3 : Nat, gr x b0_2_7 ((l1 : Int32).toNatClampNeg) = some c_3 ∧ (kk K c_3 = some (5, 0) ∧ ((¬ (f_safe x c_3) → ((¬ (f_lost x c_3) → (Q 0 x)) ∧ ((f_lost x c_3) → (Q 2 x)))) ∧ ((f_safe x c_3) → (Q 1 x))))))) ∧ (¬ (0 ≤ l1 ∧ l1 < gi x b0_2 3) → (Q (-2) x))) : mSI mX7_stands [.ref b0, .int l1] K x Q := by
  refine s_I (by decide) (by simp [Value.category]) (Nat.le_of_ble_eq_true rfl) ?_
  show mGM mX7_stands 0 [some (.ref b0), some (.int l1), none] [] (hp K x) (PI K Q)
  refine r_aload_n (pc := 0) dX7_stands_0 rfl ?_
  refine r_iload_n (pc := 1) dX7_stands_1 rfl ?_
  refine s_VI (pc := 2) mX7_isSeries (ci := 7) (a := b0) (As := [.int l1]) dX7_stands_2 lk_X7_132 in_X7_isSeries mo_X7_isSeries ⟨by decide, rfl⟩ ⟨by decide, by decide⟩ (Nat.le_of_ble_eq_true rfl) k_b0 (sp_X7_isSeries k_b0 g_b0_2 k_b0_2 ?_)
  refine r_if_ne (pc := 5) (tgt := 11) dX7_stands_5 (by decide) (fun q => ?_) (fun q => ?_)
  · have q := b2i_nz q
    have K0 := K0.1 q
    refine r_aload_n (pc := 11) dX7_stands_11 rfl ?_
    refine s_getR (pc := 12) dX7_stands_12 fl_X7_20 rfl k_b0 g_b0_2 ?_
    refine s_getR (pc := 15) dX7_stands_15 fl_X7_135 rfl k_b0_2 g_b0_2_7 ?_
    refine r_iload_n (pc := 18) dX7_stands_18 rfl ?_
    obtain ⟨i_2, K0⟩ := K0
    obtain ⟨c_3, g_4, K0⟩ := K0
    refine s_aald (pc := 19) dX7_stands_19 (by decide) rfl k_b0_2_7 i_2 g_4 ?_
    refine r_astore_n (pc := 20) dX7_stands_20 (by decide) ?_
    refine r_aload_n (pc := 21) (L := [some (.ref b0), some (.int l1), some (.ref c_3)]) dX7_stands_21 rfl ?_
    obtain ⟨e_5, K0⟩ := K0
    refine s_VI (pc := 22) mX5_isSafe (ci := 5) (a := c_3) (As := []) dX7_stands_22 lk_X7_236 in_X5_isSafe mo_X5_isSafe ⟨by decide, rfl⟩ ⟨by decide, by decide⟩ (Nat.le_of_ble_eq_true rfl) e_5 (sp_X5_isSafe e_5 ?_)
    refine r_if_eq (pc := 25) (tgt := 30) dX7_stands_25 (by decide) (fun q => ?_) (fun q => ?_)
    · have q := (b2i_z _).mp q
      have K0 := K0.1 q
      refine r_aload_n (pc := 30) dX7_stands_30 rfl ?_
      refine s_VI (pc := 31) mX5_isLost (ci := 5) (a := c_3) (As := []) dX7_stands_31 lk_X7_239 in_X5_isLost mo_X5_isLost ⟨by decide, rfl⟩ ⟨by decide, by decide⟩ (Nat.le_of_ble_eq_true rfl) e_5 (sp_X5_isLost e_5 ?_)
      refine r_if_eq (pc := 34) (tgt := 41) dX7_stands_34 (by decide) (fun q => ?_) (fun q => ?_)
      · have q := (b2i_z _).mp q
        have K0 := K0.1 q
        refine r_iconst (pc := 41) (v := 0) dX7_stands_41 (by decide) ?_
        exact s_iret rfl dX7_stands_42 K0
      · have q := b2i_nz q
        have K0 := K0.2 q
        refine r_iconst (pc := 37) (v := 2) dX7_stands_37 (by decide) ?_
        refine r_goto (pc := 38) (tgt := 42) dX7_stands_38 (by decide) ?_
        exact s_iret rfl dX7_stands_42 K0
    · have q := b2i_nz q
      have K0 := K0.2 q
      refine r_iconst (pc := 28) (v := 1) dX7_stands_28 (by decide) ?_
      exact s_iret rfl dX7_stands_29 K0
  · have q := (b2i_z _).mp q
    have K0 := K0.2 q
    refine r_bipush (pc := 8) (v := (-2)) dX7_stands_8 (by decide) ?_
    exact s_iret rfl dX7_stands_10 K0
set_option maxHeartbeats 2000000 in
theorem v_X8_stands_0 {K : Sh} {x : Cn} {Q : Int32 → Cn → Prop} {b0 : Nat} {l1 : Int32} {b0_1 : Nat} {n_b0_1 : Nat} (k_b0 : kk K b0 = some (8, 0)) (g_b0_1 : gr x b0 1 = some b0_1) (k_b0_1 : kk K b0_1 = some (20, n_b0_1)) (K0 : vp_in 2 n_b0_1 ∧ ((¬ (0 ≤ l1 ∧ l1 ≤ gi x b0_1 2 - 1) → (Q (-2) x)) ∧ ((0 ≤ l1 ∧ l1 ≤ gi x b0_1 2 - 1) → (mSI mX8_standsOf [.ref b0, .int l1] K x (fun r_4 y_3 => Q r_4 y_3))))) : mSI mX8_stands [.ref b0, .int l1] K x Q := by
  refine s_I (by decide) (by simp [Value.category]) (Nat.le_of_ble_eq_true rfl) ?_
  show mGM mX8_stands 0 [some (.ref b0), some (.int l1)] [] (hp K x) (PI K Q)
  refine r_aload_n (pc := 0) dX8_stands_0 rfl ?_
  refine r_iload_n (pc := 1) dX8_stands_1 rfl ?_
  obtain ⟨i_1, K0⟩ := K0
  refine s_VI (pc := 2) mX8_isSeries (ci := 8) (a := b0) (As := [.int l1]) dX8_stands_2 lk_X8_273 in_X8_isSeries mo_X8_isSeries ⟨by decide, rfl⟩ ⟨by decide, by decide⟩ (Nat.le_of_ble_eq_true rfl) k_b0 (sp_X8_isSeries k_b0 g_b0_1 k_b0_1 i_1 ?_)
  refine r_if_eq (pc := 5) (tgt := 16) dX8_stands_5 (by decide) (fun q => ?_) (fun q => ?_)
  · have q := (b2i_z _).mp q
    have K0 := K0.1 q
    refine r_bipush (pc := 16) (v := (-2)) dX8_stands_16 (by decide) ?_
    exact s_iret rfl dX8_stands_18 K0
  · have q := b2i_nz q
    have K0 := K0.2 q
    refine r_aload_n (pc := 8) dX8_stands_8 rfl ?_
    refine r_iload_n (pc := 9) dX8_stands_9 rfl ?_
    refine s_VI (pc := 10) mX8_standsOf (ci := 8) (a := b0) (As := [.int l1]) dX8_stands_10 lk_X8_305 in_X8_standsOf mo_X8_standsOf ⟨by decide, rfl⟩ ⟨by decide, by decide⟩ (Nat.le_of_ble_eq_true rfl) k_b0 (mSI_mono K0 (fun r_4 y_3 K0 => ?_))
    refine r_goto (pc := 13) (tgt := 18) dX8_stands_13 (by decide) ?_
    exact s_iret rfl dX8_stands_18 K0
set_option maxHeartbeats 2000000 in
theorem v_X7_kept_0 {K : Sh} {x : Cn} {Q : Int32 → Cn → Prop} {b0 : Nat} {l1 : Int32} {b0_2 : Nat} (k_b0 : kk K b0 = some (7, 0)) (g_b0_2 : gr x b0 2 = some b0_2) (k_b0_2 : kk K b0_2 = some (4, 0)) (K0 : (¬ (0 < gi x b0_2 0) → (Q (-2) x)) ∧ ((0 < gi x b0_2 0) → (((0 ≤ l1 ∧ l1 ≤ 1) → (GI mX7_kept 23 [some (.ref b0), some (.int l1), some (.int 0), some (.int 0), none] [] K x Q)) ∧ (¬ (0 ≤ l1 ∧ l1 ≤ 1) → (Q (-2) x))))) : mSI mX7_kept [.ref b0, .int l1] K x Q := by
  refine s_I (by decide) (by simp [Value.category]) (Nat.le_of_ble_eq_true rfl) ?_
  show mGM mX7_kept 0 [some (.ref b0), some (.int l1), none, none, none] [] (hp K x) (PI K Q)
  refine r_aload_n (pc := 0) dX7_kept_0 rfl ?_
  refine s_VI (pc := 1) mX7_hasText (ci := 7) (a := b0) (As := []) dX7_kept_1 lk_X7_121 in_X7_hasText mo_X7_hasText ⟨by decide, rfl⟩ ⟨by decide, by decide⟩ (Nat.le_of_ble_eq_true rfl) k_b0 (sp_X7_hasText k_b0 g_b0_2 k_b0_2 ?_)
  refine r_if_eq (pc := 4) (tgt := 16) dX7_kept_4 (by decide) (fun q => ?_) (fun q => ?_)
  · have q := (b2i_z _).mp q
    have K0 := K0.1 q
    refine r_bipush (pc := 16) (v := (-2)) dX7_kept_16 (by decide) ?_
    exact s_iret rfl dX7_kept_18 K0
  · have q := b2i_nz q
    have K0 := K0.2 q
    refine r_iload_n (pc := 7) dX7_kept_7 rfl ?_
    refine r_iconst (pc := 8) (v := 0) dX7_kept_8 (by decide) ?_
    refine r_iconst (pc := 9) (v := 1) dX7_kept_9 (by decide) ?_
    refine s_SI (pc := 10) mX7_isWithin (As := [.int l1, .int 0, .int 1]) dX7_kept_10 lk_X7_113 st_X7_isWithin mo_X7_isWithin ⟨by decide, by decide⟩ (Nat.le_of_ble_eq_true rfl) (sp_X7_isWithin  ?_)
    refine r_if_ne (pc := 13) (tgt := 19) dX7_kept_13 (by decide) (fun q => ?_) (fun q => ?_)
    · have q := b2i_nz q
      have K0 := K0.1 q
      refine r_iconst (pc := 19) (v := 0) dX7_kept_19 (by decide) ?_
      refine r_istore_n (pc := 20) dX7_kept_20 (by decide) ?_
      refine r_iconst (pc := 21) (L := [some (.ref b0), some (.int l1), some (.int 0), none, none]) (v := 0) dX7_kept_21 (by decide) ?_
      refine r_istore_n (pc := 22) dX7_kept_22 (by decide) ?_
      exact r_le (L' := [some (.ref b0), some (.int l1), some (.int 0), some (.int 0), none]) ⟨rfl, ⟨rfl, ⟨rfl, ⟨rfl, trivial⟩⟩⟩⟩ K0
    · have q := (b2i_z _).mp q
      have K0 := K0.2 q
      refine r_bipush (pc := 16) (v := (-2)) dX7_kept_16 (by decide) ?_
      exact s_iret rfl dX7_kept_18 K0
set_option maxHeartbeats 2000000 in
theorem v_X7_kept_23 {K : Sh} {x : Cn} {Q : Int32 → Cn → Prop} {b0 : Nat} {l1 : Int32} {l2 : Int32} {l3 : Int32} {b0_2 : Nat} {b0_2_7 : Nat} {n_b0_2_7 : Nat} (k_b0 : kk K b0 = some (7, 0)) (g_b0_2 : gr x b0 2 = some b0_2) (k_b0_2 : kk K b0_2 = some (4, 0)) (g_b0_2_7 : gr x b0_2 7 = some b0_2_7) (k_b0_2_7 : kk K b0_2_7 = some (23, n_b0_2_7)) (K0 : ((gi x b0_2 3) ≤ l3 → (Q l2 x)) ∧ (¬ (gi x b0_2 3) ≤ l3 → (vp_in l3 n_b0_2_7 ∧ (∃ c_3 : Nat, gr x b0_2_7 ((l3 : Int32).toNatClampNeg) = some c_3 ∧ ((¬ l1 = 0 → (kk K c_3 = some (5, 0) ∧ ((¬ (f_lost x c_3) → (GI mX7_kept 23 [some (.ref b0), some (.int l1), some (.int l2), some (.int (l3 + 1)), none] [] K x Q)) ∧ ((f_lost x c_3) → (GI mX7_kept 23 [some (.ref b0), some (.int l1), some (.int (l2 ||| (1 <<< (l3 &&& 31)))), some (.int (l3 + 1)), none] [] K x Q))))) ∧ (l1 = 0 → (kk K c_3 = some (5, 0) ∧ ((¬ (f_safe x c_3) → (GI mX7_kept 23 [some (.ref b0), some (.int l1), some (.int l2), some (.int (l3 + 1)), none] [] K x Q)) ∧ ((f_safe x c_3) → (GI mX7_kept 23 [some (.ref b0), some (.int l1), some (.int (l2 ||| (1 <<< (l3 &&& 31)))), some (.int (l3 + 1)), none] [] K x Q)))))))))) : GI mX7_kept 23 [some (.ref b0), some (.int l1), some (.int l2), some (.int l3), none] [] K x Q := by
  show mGM mX7_kept 23 [some (.ref b0), some (.int l1), some (.int l2), some (.int l3), none] [] (hp K x) (PI K Q)
  refine r_iload_n (pc := 23) dX7_kept_23 rfl ?_
  refine r_aload_n (pc := 24) dX7_kept_24 rfl ?_
  refine s_getR (pc := 25) dX7_kept_25 fl_X7_20 rfl k_b0 g_b0_2 ?_
  refine s_getI (pc := 28) dX7_kept_28 fl_X7_97 rfl k_b0_2 ?_
  refine r_icmp_ge (pc := 31) (tgt := 80) dX7_kept_31 (by decide) (fun q => ?_) (fun q => ?_)
  · have K0 := K0.1 q
    refine r_iload_n (pc := 80) dX7_kept_80 rfl ?_
    exact s_iret rfl dX7_kept_81 K0
  · have K0 := K0.2 q
    refine r_aload_n (pc := 34) dX7_kept_34 rfl ?_
    refine s_getR (pc := 35) dX7_kept_35 fl_X7_20 rfl k_b0 g_b0_2 ?_
    refine s_getR (pc := 38) dX7_kept_38 fl_X7_135 rfl k_b0_2 g_b0_2_7 ?_
    refine r_iload_n (pc := 41) dX7_kept_41 rfl ?_
    obtain ⟨i_2, K0⟩ := K0
    obtain ⟨c_3, g_4, K0⟩ := K0
    refine s_aald (pc := 42) dX7_kept_42 (by decide) rfl k_b0_2_7 i_2 g_4 ?_
    refine r_astore (pc := 43) dX7_kept_43 (by decide) ?_
    refine r_iload_n (pc := 45) (L := [some (.ref b0), some (.int l1), some (.int l2), some (.int l3), some (.ref c_3)]) dX7_kept_45 rfl ?_
    refine r_if_ne (pc := 46) (tgt := 60) dX7_kept_46 (by decide) (fun q => ?_) (fun q => ?_)
    · have K0 := K0.1 q
      refine r_aload (pc := 60) dX7_kept_60 rfl ?_
      obtain ⟨e_6, K0⟩ := K0
      refine s_VI (pc := 62) mX5_isLost (ci := 5) (a := c_3) (As := []) dX7_kept_62 lk_X7_239 in_X5_isLost mo_X5_isLost ⟨by decide, rfl⟩ ⟨by decide, by decide⟩ (Nat.le_of_ble_eq_true rfl) e_6 (sp_X5_isLost e_6 ?_)
      refine r_if_eq (pc := 65) (tgt := 74) dX7_kept_65 (by decide) (fun q => ?_) (fun q => ?_)
      · have q := (b2i_z _).mp q
        have K0 := K0.1 q
        refine r_iinc (pc := 74) (v := l3 + 1) dX7_kept_74 rfl rfl (by decide) ?_
        refine r_goto (pc := 77) (L := [some (.ref b0), some (.int l1), some (.int l2), some (.int (l3 + 1)), some (.ref c_3)]) (tgt := 23) dX7_kept_77 (by decide) ?_
        exact r_le (L' := [some (.ref b0), some (.int l1), some (.int l2), some (.int (l3 + 1)), none]) ⟨rfl, ⟨rfl, ⟨rfl, ⟨rfl, trivial⟩⟩⟩⟩ K0
      · have q := b2i_nz q
        have K0 := K0.2 q
        refine r_iload_n (pc := 68) dX7_kept_68 rfl ?_
        refine r_iconst (pc := 69) (v := 1) dX7_kept_69 (by decide) ?_
        refine r_iload_n (pc := 70) dX7_kept_70 rfl ?_
        refine r_ishl (pc := 71) dX7_kept_71 ?_
        refine r_ior (pc := 72) dX7_kept_72 ?_
        refine r_istore_n (pc := 73) dX7_kept_73 (by decide) ?_
        refine r_iinc (pc := 74) (L := [some (.ref b0), some (.int l1), some (.int (l2 ||| (1 <<< (l3 &&& 31)))), some (.int l3), some (.ref c_3)]) (v := l3 + 1) dX7_kept_74 rfl rfl (by decide) ?_
        refine r_goto (pc := 77) (L := [some (.ref b0), some (.int l1), some (.int (l2 ||| (1 <<< (l3 &&& 31)))), some (.int (l3 + 1)), some (.ref c_3)]) (tgt := 23) dX7_kept_77 (by decide) ?_
        exact r_le (L' := [some (.ref b0), some (.int l1), some (.int (l2 ||| (1 <<< (l3 &&& 31)))), some (.int (l3 + 1)), none]) ⟨rfl, ⟨rfl, ⟨rfl, ⟨rfl, trivial⟩⟩⟩⟩ K0
    · have K0 := K0.2 q
      refine r_aload (pc := 49) dX7_kept_49 rfl ?_
      obtain ⟨e_8, K0⟩ := K0
      refine s_VI (pc := 51) mX5_isSafe (ci := 5) (a := c_3) (As := []) dX7_kept_51 lk_X7_236 in_X5_isSafe mo_X5_isSafe ⟨by decide, rfl⟩ ⟨by decide, by decide⟩ (Nat.le_of_ble_eq_true rfl) e_8 (sp_X5_isSafe e_8 ?_)
      refine r_if_eq (pc := 54) (tgt := 74) dX7_kept_54 (by decide) (fun q => ?_) (fun q => ?_)
      · have q := (b2i_z _).mp q
        have K0 := K0.1 q
        refine r_iinc (pc := 74) (v := l3 + 1) dX7_kept_74 rfl rfl (by decide) ?_
        refine r_goto (pc := 77) (L := [some (.ref b0), some (.int l1), some (.int l2), some (.int (l3 + 1)), some (.ref c_3)]) (tgt := 23) dX7_kept_77 (by decide) ?_
        exact r_le (L' := [some (.ref b0), some (.int l1), some (.int l2), some (.int (l3 + 1)), none]) ⟨rfl, ⟨rfl, ⟨rfl, ⟨rfl, trivial⟩⟩⟩⟩ K0
      · have q := b2i_nz q
        have K0 := K0.2 q
        refine r_goto (pc := 57) (tgt := 68) dX7_kept_57 (by decide) ?_
        refine r_iload_n (pc := 68) dX7_kept_68 rfl ?_
        refine r_iconst (pc := 69) (v := 1) dX7_kept_69 (by decide) ?_
        refine r_iload_n (pc := 70) dX7_kept_70 rfl ?_
        refine r_ishl (pc := 71) dX7_kept_71 ?_
        refine r_ior (pc := 72) dX7_kept_72 ?_
        refine r_istore_n (pc := 73) dX7_kept_73 (by decide) ?_
        refine r_iinc (pc := 74) (L := [some (.ref b0), some (.int l1), some (.int (l2 ||| (1 <<< (l3 &&& 31)))), some (.int l3), some (.ref c_3)]) (v := l3 + 1) dX7_kept_74 rfl rfl (by decide) ?_
        refine r_goto (pc := 77) (L := [some (.ref b0), some (.int l1), some (.int (l2 ||| (1 <<< (l3 &&& 31)))), some (.int (l3 + 1)), some (.ref c_3)]) (tgt := 23) dX7_kept_77 (by decide) ?_
        exact r_le (L' := [some (.ref b0), some (.int l1), some (.int (l2 ||| (1 <<< (l3 &&& 31)))), some (.int (l3 + 1)), none]) ⟨rfl, ⟨rfl, ⟨rfl, ⟨rfl, trivial⟩⟩⟩⟩ K0
set_option maxHeartbeats 2000000 in
theorem v_X8_kept_0 {K : Sh} {x : Cn} {Q : Int32 → Cn → Prop} {b0 : Nat} {l1 : Int32} {b0_1 : Nat} {n_b0_1 : Nat} (k_b0 : kk K b0 = some (8, 0)) (g_b0_1 : gr x b0 1 = some b0_1) (k_b0_1 : kk K b0_1 = some (20, n_b0_1)) (K0 : vp_in 0 n_b0_1 ∧ ((¬ (0 < gi x b0_1 0) → (Q (-2) x)) ∧ ((0 < gi x b0_1 0) → (((0 ≤ l1 ∧ l1 ≤ 1) → (GI mX8_kept 24 [some (.ref b0), some (.int l1), some (.int 0), some (.int 0)] [] K x Q)) ∧ (¬ (0 ≤ l1 ∧ l1 ≤ 1) → (Q (-2) x)))))) : mSI mX8_kept [.ref b0, .int l1] K x Q := by
  refine s_I (by decide) (by simp [Value.category]) (Nat.le_of_ble_eq_true rfl) ?_
  show mGM mX8_kept 0 [some (.ref b0), some (.int l1), none, none] [] (hp K x) (PI K Q)
  refine r_aload_n (pc := 0) dX8_kept_0 rfl ?_
  obtain ⟨i_1, K0⟩ := K0
  refine s_VI (pc := 1) mX8_isThere (ci := 8) (a := b0) (As := []) dX8_kept_1 lk_X8_49 in_X8_isThere mo_X8_isThere ⟨by decide, rfl⟩ ⟨by decide, by decide⟩ (Nat.le_of_ble_eq_true rfl) k_b0 (sp_X8_isThere k_b0 g_b0_1 k_b0_1 i_1 ?_)
  refine r_if_eq (pc := 4) (tgt := 17) dX8_kept_4 (by decide) (fun q => ?_) (fun q => ?_)
  · have q := (b2i_z _).mp q
    have K0 := K0.1 q
    refine r_bipush (pc := 17) (v := (-2)) dX8_kept_17 (by decide) ?_
    exact s_iret rfl dX8_kept_19 K0
  · have q := b2i_nz q
    have K0 := K0.2 q
    refine r_iload_n (pc := 7) dX8_kept_7 rfl ?_
    refine r_i2l (pc := 8) dX8_kept_8 ?_
    refine r_lconst (pc := 9) (v := 0) dX8_kept_9 (by decide) ?_
    refine r_lconst (pc := 10) (v := 1) dX8_kept_10 (by decide) ?_
    refine s_SI (pc := 11) mX8_in (As := [.long ((l1 : Int32).toInt64), .long 0, .long 1]) dX8_kept_11 lk_X8_45 st_X8_in mo_X8_in ⟨by decide, by decide⟩ (Nat.le_of_ble_eq_true rfl) (sq_X8_in (v := l1) (lo := 0) (hi := 1) rfl (by decide) (by decide) ?_)
    refine r_if_ne (pc := 14) (tgt := 20) dX8_kept_14 (by decide) (fun q => ?_) (fun q => ?_)
    · have q := b2i_nz q
      have K0 := K0.1 q
      refine r_iconst (pc := 20) (v := 0) dX8_kept_20 (by decide) ?_
      refine r_istore_n (pc := 21) dX8_kept_21 (by decide) ?_
      refine r_iconst (pc := 22) (L := [some (.ref b0), some (.int l1), some (.int 0), none]) (v := 0) dX8_kept_22 (by decide) ?_
      refine r_istore_n (pc := 23) dX8_kept_23 (by decide) ?_
      exact r_le (L' := [some (.ref b0), some (.int l1), some (.int 0), some (.int 0)]) ⟨rfl, ⟨rfl, ⟨rfl, ⟨rfl, trivial⟩⟩⟩⟩ K0
    · have q := (b2i_z _).mp q
      have K0 := K0.2 q
      refine r_bipush (pc := 17) (v := (-2)) dX8_kept_17 (by decide) ?_
      exact s_iret rfl dX8_kept_19 K0
set_option maxHeartbeats 2000000 in
theorem v_X8_kept_24 {K : Sh} {x : Cn} {Q : Int32 → Cn → Prop} {b0 : Nat} {l1 : Int32} {l2 : Int32} {l3 : Int32} {b0_1 : Nat} {n_b0_1 : Nat} (k_b0 : kk K b0 = some (8, 0)) (g_b0_1 : gr x b0 1 = some b0_1) (k_b0_1 : kk K b0_1 = some (20, n_b0_1)) (K0 : vp_in 2 n_b0_1 ∧ (((gi x b0_1 2) ≤ l3 → (Q l2 x)) ∧ (¬ (gi x b0_1 2) ≤ l3 → (mSI mX8_standsOf [.ref b0, .int l3] K x (fun r_4 y_3 => (¬ r_4 = (l1 + 1) → (GI mX8_kept 24 [some (.ref b0), some (.int l1), some (.int (l2 ||| 0)), some (.int (l3 + 1))] [] K y_3 Q)) ∧ (r_4 = (l1 + 1) → (GI mX8_kept 24 [some (.ref b0), some (.int l1), some (.int (l2 ||| (1 <<< (l3 &&& 31)))), some (.int (l3 + 1))] [] K y_3 Q))))))) : GI mX8_kept 24 [some (.ref b0), some (.int l1), some (.int l2), some (.int l3)] [] K x Q := by
  show mGM mX8_kept 24 [some (.ref b0), some (.int l1), some (.int l2), some (.int l3)] [] (hp K x) (PI K Q)
  refine r_iload_n (pc := 24) dX8_kept_24 rfl ?_
  refine r_aload_n (pc := 25) dX8_kept_25 rfl ?_
  refine s_getR (pc := 26) dX8_kept_26 fl_X8_9 rfl k_b0 g_b0_1 ?_
  refine r_iconst (pc := 29) (v := 2) dX8_kept_29 (by decide) ?_
  obtain ⟨i_1, K0⟩ := K0
  refine s_iald (pc := 30) dX8_kept_30 k_b0_1 i_1 ?_
  refine r_icmp_ge (pc := 31) (tgt := 61) dX8_kept_31 (by decide) (fun q => ?_) (fun q => ?_)
  · have K0 := K0.1 q
    refine r_iload_n (pc := 61) dX8_kept_61 rfl ?_
    exact s_iret rfl dX8_kept_62 K0
  · have K0 := K0.2 q
    refine r_iload_n (pc := 34) dX8_kept_34 rfl ?_
    refine r_aload_n (pc := 35) dX8_kept_35 rfl ?_
    refine r_iload_n (pc := 36) dX8_kept_36 rfl ?_
    refine s_VI (pc := 37) mX8_standsOf (ci := 8) (a := b0) (As := [.int l3]) dX8_kept_37 lk_X8_305 in_X8_standsOf mo_X8_standsOf ⟨by decide, rfl⟩ ⟨by decide, by decide⟩ (Nat.le_of_ble_eq_true rfl) k_b0 (mSI_mono K0 (fun r_4 y_3 K0 => ?_))
    refine r_iload_n (pc := 40) dX8_kept_40 rfl ?_
    refine r_iconst (pc := 41) (v := 1) dX8_kept_41 (by decide) ?_
    refine r_iadd (pc := 42) dX8_kept_42 ?_
    refine r_icmp_ne (pc := 43) (tgt := 52) dX8_kept_43 (by decide) (fun q => ?_) (fun q => ?_)
    · have K0 := K0.1 q
      refine r_iconst (pc := 52) (v := 0) dX8_kept_52 (by decide) ?_
      refine r_ior (pc := 53) dX8_kept_53 ?_
      refine r_istore_n (pc := 54) dX8_kept_54 (by decide) ?_
      refine r_iinc (pc := 55) (L := [some (.ref b0), some (.int l1), some (.int (l2 ||| 0)), some (.int l3)]) (v := l3 + 1) dX8_kept_55 rfl rfl (by decide) ?_
      refine r_goto (pc := 58) (L := [some (.ref b0), some (.int l1), some (.int (l2 ||| 0)), some (.int (l3 + 1))]) (tgt := 24) dX8_kept_58 (by decide) ?_
      exact r_le (L' := [some (.ref b0), some (.int l1), some (.int (l2 ||| 0)), some (.int (l3 + 1))]) ⟨rfl, ⟨rfl, ⟨rfl, ⟨rfl, trivial⟩⟩⟩⟩ K0
    · have K0 := K0.2 q
      refine r_iconst (pc := 46) (v := 1) dX8_kept_46 (by decide) ?_
      refine r_iload_n (pc := 47) dX8_kept_47 rfl ?_
      refine r_ishl (pc := 48) dX8_kept_48 ?_
      refine r_goto (pc := 49) (tgt := 53) dX8_kept_49 (by decide) ?_
      refine r_ior (pc := 53) dX8_kept_53 ?_
      refine r_istore_n (pc := 54) dX8_kept_54 (by decide) ?_
      refine r_iinc (pc := 55) (L := [some (.ref b0), some (.int l1), some (.int (l2 ||| (1 <<< (l3 &&& 31)))), some (.int l3)]) (v := l3 + 1) dX8_kept_55 rfl rfl (by decide) ?_
      refine r_goto (pc := 58) (L := [some (.ref b0), some (.int l1), some (.int (l2 ||| (1 <<< (l3 &&& 31)))), some (.int (l3 + 1))]) (tgt := 24) dX8_kept_58 (by decide) ?_
      exact r_le (L' := [some (.ref b0), some (.int l1), some (.int (l2 ||| (1 <<< (l3 &&& 31)))), some (.int (l3 + 1))]) ⟨rfl, ⟨rfl, ⟨rfl, ⟨rfl, trivial⟩⟩⟩⟩ K0
set_option maxHeartbeats 2000000 in
theorem v_X7_entrant_0 {K : Sh} {x : Cn} {Q : Int32 → Cn → Prop} {b0 : Nat} {l1 : Int32} {l2 : Int32} {b0_3 : Nat} {b0_2 : Nat} (k_b0 : kk K b0 = some (7, 0)) (g_b0_3 : gr x b0 3 = some b0_3) (k_b0_3 : kk K b0_3 = some (1, 0)) (g_b0_2 : gr x b0 2 = some b0_2) (k_b0_2 : kk K b0_2 = some (4, 0)) (K0 : (¬ (0 ≤ l1 ∧ l1 < gi x b0_3 0) → (Q (-2) x)) ∧ ((0 ≤ l1 ∧ l1 < gi x b0_3 0) → (((0 < gi x b0_2 0 ∧ 0 ≤ l2 ∧ l2 < 7) → (mSI mX4_seriesOf [.ref b0_2, .int l1, .int l2] K x (fun r_4 y_3 => (2 ≤ r_4 → (Q 0 y_3)) ∧ (¬ 2 ≤ r_4 → (Q 1 y_3))))) ∧ (¬ (0 < gi x b0_2 0 ∧ 0 ≤ l2 ∧ l2 < 7) → (Q (-2) x))))) : mSI mX7_entrant [.ref b0, .int l1, .int l2] K x Q := by
  refine s_I (by decide) (by simp [Value.category]) (Nat.le_of_ble_eq_true rfl) ?_
  show mGM mX7_entrant 0 [some (.ref b0), some (.int l1), some (.int l2)] [] (hp K x) (PI K Q)
  refine r_aload_n (pc := 0) dX7_entrant_0 rfl ?_
  refine r_iload_n (pc := 1) dX7_entrant_1 rfl ?_
  refine s_VI (pc := 2) mX7_isCarrier (ci := 7) (a := b0) (As := [.int l1]) dX7_entrant_2 lk_X7_109 in_X7_isCarrier mo_X7_isCarrier ⟨by decide, rfl⟩ ⟨by decide, by decide⟩ (Nat.le_of_ble_eq_true rfl) k_b0 (sp_X7_isCarrier k_b0 g_b0_3 k_b0_3 ?_)
  refine r_if_eq (pc := 5) (tgt := 16) dX7_entrant_5 (by decide) (fun q => ?_) (fun q => ?_)
  · have q := (b2i_z _).mp q
    have K0 := K0.1 q
    refine r_bipush (pc := 16) (v := (-2)) dX7_entrant_16 (by decide) ?_
    exact s_iret rfl dX7_entrant_18 K0
  · have q := b2i_nz q
    have K0 := K0.2 q
    refine r_aload_n (pc := 8) dX7_entrant_8 rfl ?_
    refine r_iload_n (pc := 9) dX7_entrant_9 rfl ?_
    refine s_VI (pc := 10) mX7_isDay (ci := 7) (a := b0) (As := [.int l2]) dX7_entrant_10 lk_X7_245 in_X7_isDay mo_X7_isDay ⟨by decide, rfl⟩ ⟨by decide, by decide⟩ (Nat.le_of_ble_eq_true rfl) k_b0 (sp_X7_isDay k_b0 g_b0_2 k_b0_2 ?_)
    refine r_if_ne (pc := 13) (tgt := 19) dX7_entrant_13 (by decide) (fun q => ?_) (fun q => ?_)
    · have q := b2i_nz q
      have K0 := K0.1 q
      refine r_aload_n (pc := 19) dX7_entrant_19 rfl ?_
      refine s_getR (pc := 20) dX7_entrant_20 fl_X7_20 rfl k_b0 g_b0_2 ?_
      refine r_iload_n (pc := 23) dX7_entrant_23 rfl ?_
      refine r_iload_n (pc := 24) dX7_entrant_24 rfl ?_
      refine s_VI (pc := 25) mX4_seriesOf (ci := 4) (a := b0_2) (As := [.int l1, .int l2]) dX7_entrant_25 lk_X7_252 in_X4_seriesOf mo_X4_seriesOf ⟨by decide, rfl⟩ ⟨by decide, by decide⟩ (Nat.le_of_ble_eq_true rfl) k_b0_2 (mSI_mono K0 (fun r_4 y_3 K0 => ?_))
      refine r_iconst (pc := 28) (v := 2) dX7_entrant_28 (by decide) ?_
      refine r_icmp_ge (pc := 29) (tgt := 36) dX7_entrant_29 (by decide) (fun q => ?_) (fun q => ?_)
      · have K0 := K0.1 q
        refine r_iconst (pc := 36) (v := 0) dX7_entrant_36 (by decide) ?_
        exact s_iret rfl dX7_entrant_37 K0
      · have K0 := K0.2 q
        refine r_iconst (pc := 32) (v := 1) dX7_entrant_32 (by decide) ?_
        refine r_goto (pc := 33) (tgt := 37) dX7_entrant_33 (by decide) ?_
        exact s_iret rfl dX7_entrant_37 K0
    · have q := (b2i_z _).mp q
      have K0 := K0.2 q
      refine r_bipush (pc := 16) (v := (-2)) dX7_entrant_16 (by decide) ?_
      exact s_iret rfl dX7_entrant_18 K0
set_option maxHeartbeats 2000000 in
theorem v_X8_entrant_0 {K : Sh} {x : Cn} {Q : Int32 → Cn → Prop} {b0 : Nat} {l1 : Int32} {l2 : Int32} {b0_1 : Nat} {n_b0_1 : Nat} (k_b0 : kk K b0 = some (8, 0)) (g_b0_1 : gr x b0 1 = some b0_1) (k_b0_1 : kk K b0_1 = some (20, n_b0_1)) (K0 : vp_in 1 n_b0_1 ∧ ((¬ (0 ≤ l1 ∧ l1 ≤ gi x b0_1 1 - 1) → (Q (-2) x)) ∧ ((0 ≤ l1 ∧ l1 ≤ gi x b0_1 1 - 1) → (vp_in 0 n_b0_1 ∧ (((0 < gi x b0_1 0 ∧ 0 ≤ l2 ∧ l2 ≤ 6) → (mSI mX8_isEntrant [.ref b0, .int l1, .int l2] K x (fun r_6 y_5 => (r_6 = 0 → (Q 0 y_5)) ∧ (¬ r_6 = 0 → (Q 1 y_5))))) ∧ (¬ (0 < gi x b0_1 0 ∧ 0 ≤ l2 ∧ l2 ≤ 6) → (Q (-2) x))))))) : mSI mX8_entrant [.ref b0, .int l1, .int l2] K x Q := by
  refine s_I (by decide) (by simp [Value.category]) (Nat.le_of_ble_eq_true rfl) ?_
  show mGM mX8_entrant 0 [some (.ref b0), some (.int l1), some (.int l2)] [] (hp K x) (PI K Q)
  refine r_aload_n (pc := 0) dX8_entrant_0 rfl ?_
  refine r_iload_n (pc := 1) dX8_entrant_1 rfl ?_
  obtain ⟨i_1, K0⟩ := K0
  refine s_VI (pc := 2) mX8_isCarrier (ci := 8) (a := b0) (As := [.int l1]) dX8_entrant_2 lk_X8_265 in_X8_isCarrier mo_X8_isCarrier ⟨by decide, rfl⟩ ⟨by decide, by decide⟩ (Nat.le_of_ble_eq_true rfl) k_b0 (sp_X8_isCarrier k_b0 g_b0_1 k_b0_1 i_1 ?_)
  refine r_if_eq (pc := 5) (tgt := 16) dX8_entrant_5 (by decide) (fun q => ?_) (fun q => ?_)
  · have q := (b2i_z _).mp q
    have K0 := K0.1 q
    refine r_bipush (pc := 16) (v := (-2)) dX8_entrant_16 (by decide) ?_
    exact s_iret rfl dX8_entrant_18 K0
  · have q := b2i_nz q
    have K0 := K0.2 q
    refine r_aload_n (pc := 8) dX8_entrant_8 rfl ?_
    refine r_iload_n (pc := 9) dX8_entrant_9 rfl ?_
    obtain ⟨i_3, K0⟩ := K0
    refine s_VI (pc := 10) mX8_isDay (ci := 8) (a := b0) (As := [.int l2]) dX8_entrant_10 lk_X8_61 in_X8_isDay mo_X8_isDay ⟨by decide, rfl⟩ ⟨by decide, by decide⟩ (Nat.le_of_ble_eq_true rfl) k_b0 (sp_X8_isDay k_b0 g_b0_1 k_b0_1 i_3 ?_)
    refine r_if_ne (pc := 13) (tgt := 19) dX8_entrant_13 (by decide) (fun q => ?_) (fun q => ?_)
    · have q := b2i_nz q
      have K0 := K0.1 q
      refine r_aload_n (pc := 19) dX8_entrant_19 rfl ?_
      refine r_iload_n (pc := 20) dX8_entrant_20 rfl ?_
      refine r_iload_n (pc := 21) dX8_entrant_21 rfl ?_
      refine s_VI (pc := 22) mX8_isEntrant (ci := 8) (a := b0) (As := [.int l1, .int l2]) dX8_entrant_22 lk_X8_313 in_X8_isEntrant mo_X8_isEntrant ⟨by decide, rfl⟩ ⟨by decide, by decide⟩ (Nat.le_of_ble_eq_true rfl) k_b0 (mSI_mono K0 (fun r_6 y_5 K0 => ?_))
      refine r_if_eq (pc := 25) (tgt := 32) dX8_entrant_25 (by decide) (fun q => ?_) (fun q => ?_)
      · have K0 := K0.1 q
        refine r_iconst (pc := 32) (v := 0) dX8_entrant_32 (by decide) ?_
        exact s_iret rfl dX8_entrant_33 K0
      · have K0 := K0.2 q
        refine r_iconst (pc := 28) (v := 1) dX8_entrant_28 (by decide) ?_
        refine r_goto (pc := 29) (tgt := 33) dX8_entrant_29 (by decide) ?_
        exact s_iret rfl dX8_entrant_33 K0
    · have q := (b2i_z _).mp q
      have K0 := K0.2 q
      refine r_bipush (pc := 16) (v := (-2)) dX8_entrant_16 (by decide) ?_
      exact s_iret rfl dX8_entrant_18 K0
theorem eq_stands (a : Int32) : Both mX7_stands mX8_stands [.int a] := by
  intro x R
  obtain ⟨W, C, S, A, N, E, -, -⟩ := R.sea
  have hn := E.nums
  have ht := Rel.t2 E
  have hS : S ≤ 24 := hn.2.2.2.2.2.2.1
  have iS := inN' (v := a) (n := S) (by omega)
  have rf : mSI mX8_stands [.ref 717, .int a] KW x (fun r' z => (if 0 ≤ a ∧ a < nI S then stds (gi x 718) a.toNatClampNeg else -2) = r' ∧ Rel z) := by
    refine v_X8_stands_0 km R.2.1.1 km1 ⟨v0 (k := 2) (by decide) rfl rfl, ?_⟩
    rw [ht.2.2.1, iS]
    refine ⟨fun z => ⟨if_neg z, R⟩, fun z => ?_⟩
    rw [if_pos z]
    obtain ⟨s, hs, rfl⟩ := inN (by omega) z
    rw [nI_clamp (by omega)]
    exact sp_X8_standsOf R.2.1 km1 (by omega) ⟨rfl, R⟩
  refine v_X7_stands_0 k0 R.1.2.1 (ks0 E.1) E.2.1.2.2.1 (ks3 E.1) ?_
  rw [hn.2.2.1]
  refine ⟨fun z => ?_, fun z => by rwa [if_neg z] at rf⟩
  rw [if_pos z] at rf
  obtain ⟨s, hs, rfl⟩ := inN (by omega) z
  obtain ⟨p, e1, e2, e3, e4, -, e6⟩ := E.ser hs
  rw [nI_clamp (show s < 2 ^ 31 by omega)] at rf ⊢
  refine ⟨vp_in_nI (by omega) (by decide), p, e1, e2, ?_⟩
  have g1 := e3.safe e6
  have g2 := e3.lost e6
  refine ⟨fun w => ⟨fun w2 => ?_, fun w2 => ?_⟩, fun w => ?_⟩
  · unfold stds at rf
    rwa [if_neg (fun u => w (g1.mpr u)), if_pos (Classical.byContradiction (fun u => w2 (g2.mpr u)))] at rf
  · unfold stds at rf
    rwa [if_neg (fun u => w (g1.mpr u)), if_neg (g2.mp w2)] at rf
  · unfold stds at rf
    rwa [if_pos (g1.mp w)] at rf
theorem eq_kept (a : Int32) : Both mX7_kept mX8_kept [.int a] := by
  intro x R
  obtain ⟨W, C, S, A, N, E, -, -⟩ := R.sea
  have hn := E.nums
  have ht := Rel.t2 E
  have hS : S ≤ 24 := hn.2.2.2.2.2.2.1
  have rf : mSI mX8_kept [.ref 717, .int a] KW x (fun r' z => (if 0 < nI W ∧ (0 ≤ a ∧ a ≤ 1) then accT (orS (fun s => stds (gi x 718) s = a + 1)) S 0 else -2) = r' ∧ Rel z) := by
    refine v_X8_kept_0 km R.2.1.1 km1 ⟨v0 (k := 0) (by decide) rfl rfl, ?_⟩
    rw [ht.1]
    refine ⟨fun z => ⟨if_neg (fun w => z w.1), R⟩, fun z => ⟨fun z2 => ?_, fun z2 => ⟨if_neg (fun w => z2 w.2), R⟩⟩⟩
    rw [if_pos ⟨z, z2⟩]
    refine lp_acc (orS (fun s => stds (gi x 718) s = a + 1)) (fun s b => GI mX8_kept 24 [some (.ref 717), some (.int a), some (.int b), some (.int (nI s))] [] KW x _) S 0 ?_ (fun s b hs n1 => ?_)
    · exact v_X8_kept_24 km R.2.1.1 km1 ⟨v0 (k := 2) (by decide) rfl rfl, fun _ => ⟨rfl, R⟩, fun z => absurd (by rw [ht.2.2.1]; exact Int32.le_refl _) z⟩
    · refine v_X8_kept_24 km R.2.1.1 km1 ⟨v0 (k := 2) (by decide) rfl rfl, fun z => absurd (by rw [ht.2.2.1] at z; exact z) (nI_ge hs (by omega)), fun _ => sp_X8_standsOf R.2.1 km1 (by omega) ?_⟩
      rw [nI_1, Int32.or_zero]
      exact ⟨fun z => n1 _ (if_neg z), fun z => n1 _ (if_pos z)⟩
  refine v_X7_kept_0 k0 R.1.2.1 (ks0 E.1) ?_
  rw [hn.1]
  refine ⟨fun z => by rwa [if_neg (fun w => z w.1)] at rf, fun z => ⟨fun z2 => ?_, fun z2 => by rwa [if_neg (fun w => z2 w.2)] at rf⟩⟩
  rw [if_pos ⟨z, z2⟩] at rf
  refine lp_acc (orS (fun s => stds (gi x 718) s = a + 1)) (fun s b => GI mX7_kept 23 [some (.ref 0), some (.int a), some (.int b), some (.int (nI s)), none] [] KW x _) S 0 ?_ (fun s b hs n1 => ?_)
  · exact v_X7_kept_23 k0 R.1.2.1 (ks0 E.1) E.2.1.2.2.1 (ks3 E.1) ⟨fun _ => rf, fun z => absurd (by rw [hn.2.2.1]; exact Int32.le_refl _) z⟩
  · obtain ⟨p, e1, e2, e3, e4, -, e6⟩ := E.ser hs
    have g1 := e3.safe e6
    have g2 := e3.lost e6
    have hm := kw_mono (T := gi x 718) (s := s)
    refine v_X7_kept_23 k0 R.1.2.1 (ks0 E.1) E.2.1.2.2.1 (ks3 E.1) ⟨fun z => absurd (by rw [hn.2.2.1] at z; exact z) (nI_ge hs (by omega)), fun _ => ⟨vp_in_nI (by omega) (by decide), p, by rw [nI_clamp (by omega)]; exact e1, ?_⟩⟩
    rw [nI_1]
    obtain ⟨k, hk, rfl⟩ := nI_of2 (M := 1) (n := 1) (by decide) (Int32.not_lt.mpr z2.1) z2.2
    have hk' : k = 0 ∨ k = 1 := by omega
    rcases hk' with rfl | rfl
    · refine ⟨fun w => absurd (by decide) w, fun _ => ⟨e2, fun w => n1 _ (if_neg (fun u => ?_)), fun w => n1 _ (if_pos ?_)⟩⟩
      · have u : stds (gi x 718) s = nI 0 + 1 := u
        unfold stds at u
        rw [if_neg (fun v => w (g1.mpr v))] at u
        split at u <;> exact absurd u (by decide)
      · show stds (gi x 718) s = nI 0 + 1
        unfold stds
        rw [if_pos (g1.mp w)]
        decide
    · refine ⟨fun _ => ⟨e2, fun w => n1 _ (if_neg (fun u => ?_)), fun w => n1 _ (if_pos ?_)⟩, fun w => absurd w (by decide)⟩
      · have hkw : kw (gi x 718) s (nI (cpt (so (gi x 718) s 7))) := Classical.byContradiction (fun v => w (g2.mpr v))
        have u : stds (gi x 718) s = nI 1 + 1 := u
        unfold stds at u
        rw [if_pos hkw] at u
        split at u <;> exact absurd u (by decide)
      · show stds (gi x 718) s = nI 1 + 1
        unfold stds
        rw [if_neg (fun v => g2.mp w (hm v)), if_neg (g2.mp w)]
        decide
theorem eq_entrant (a b : Int32) : Both mX7_entrant mX8_entrant [.int a, .int b] := by
  intro x R
  obtain ⟨W, C, S, A, N, E, ⟨hc, -⟩, -⟩ := R.sea
  have hn := E.nums
  have ht := Rel.t2 E
  have hS : S ≤ 24 := hn.2.2.2.2.2.2.1
  have hC : C ≤ 8 := hn.2.2.2.2.2.1
  have iC := inN' (v := a) (n := C) (by omega)
  have hb : ∀ {b : Int32}, (0 ≤ b ∧ b < 7) → ¬ b = -1 := fun z e => absurd (e ▸ z.1) (by decide)
  let nn : Int32 := accT (inc (fun s => so (gi x 718) s 0 = a ∧ (b = -1 ∨ so (gi x 718) s 1 = b))) S 0
  have rf : mSI mX8_entrant [.ref 717, .int a, .int b] KW x (fun r' z => (if (0 ≤ a ∧ a < nI C) ∧ (0 < nI W ∧ 0 ≤ b ∧ b < 7) then (if nn < 2 then 1 else 0) else -2) = r' ∧ Rel z) := by
    refine v_X8_entrant_0 km R.2.1.1 km1 ⟨v0 (k := 1) (by decide) rfl rfl, ?_⟩
    rw [ht.2.1, iC, ht.1, d7]
    refine ⟨fun z => ⟨if_neg (fun w => z w.1), R⟩, fun z => ⟨v0 (k := 0) (by decide) rfl rfl, fun z2 => ?_, fun z2 => ⟨if_neg (fun w => z2 w.2), R⟩⟩⟩
    rw [if_pos ⟨z, z2⟩]
    refine sp_X8_isEntrant R.2.1 km1 ht.2.2.1 hS (hb z2.2) ⟨fun z3 => ⟨if_neg ((b2i_z _).mp z3), R⟩, fun z3 => ⟨if_pos (b2i_nz z3), R⟩⟩
  refine v_X7_entrant_0 k0 R.1.2.2.1 (by decide) R.1.2.1 (ks0 E.1) ?_
  rw [hc, hn.1]
  refine ⟨fun z => by rwa [if_neg (fun w => z w.1)] at rf, fun z => ⟨fun z2 => ?_, fun z2 => by rwa [if_neg (fun w => z2 w.2)] at rf⟩⟩
  rw [if_pos ⟨z, z2⟩] at rf
  refine sp_X4_seriesOf E ⟨fun z3 => ?_, fun z3 => ?_⟩
  · rwa [if_neg (Int32.not_lt.mpr z3)] at rf
  · rwa [if_pos (Int32.not_le.mp z3)] at rf


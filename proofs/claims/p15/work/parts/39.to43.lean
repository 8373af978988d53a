/-! 39.pairs.lean.txt -/
section
abbrev pcr (T : TT) (wi : Int32) (s t : Nat) : Prop := so T t 0 = so T s 0 ∧ so T t 1 = so T s 1 ∧ so T t 3 = 1 ∧ (0 ≤ so T t 2 - so T s 2 ∧ so T t 2 - so T s 2 ≤ wi) ∧ ¬ (bas T t &&& bas T s) = 0
abbrev ppo (T : TT) (a b : Int32) (s : Nat) : Prop := so T s 0 = a ∧ so T s 1 = b ∧ so T s 3 = 0
theorem inc_off {c : Nat → Prop} [∀ s, Decidable (c s)] (a : Int32) : ∀ n, accT (inc c) n a = a + accT (inc c) n 0 := by
  intro n
  induction n with
  | zero => exact (Int32.add_zero a).symm
  | succ n ih =>
    simp only [accT]
    rw [ih]
    unfold inc
    by_cases h : c n
    · rw [if_pos h, if_pos h, Int32.add_assoc]
    · rw [if_neg h, if_neg h]
theorem inc_no {c : Nat → Prop} [∀ s, Decidable (c s)] (a : Int32) (h : ∀ s, ¬ c s) : ∀ n, accT (inc c) n a = a := by
  intro n
  induction n with
  | zero => rfl
  | succ n ih =>
    simp only [accT]
    rw [ih]
    exact if_neg (h n)
theorem inc_cg {c d : Nat → Prop} [∀ s, Decidable (c s)] [∀ s, Decidable (d s)] (a : Int32) (h : ∀ s, c s ↔ d s) (n : Nat) : accT (inc c) n a = accT (inc d) n a := accT_congr n (fun i b _ => by
  unfold inc
  by_cases z : c i
  · rw [if_pos z, if_pos ((h i).mp z)]
  · rw [if_neg z, if_neg (fun w => z ((h i).mpr w))])
def stP (T : TT) (S : Nat) (a b wi : Int32) : Nat → Int32 → Int32 := addS (ppo T a b) (fun s => accT (inc (pcr T wi s)) S 0)
set_option maxHeartbeats 2000000 in
theorem v_X7_departuresBehind_0 {K : Sh} {x : Cn} {Q : Int32 → Cn → Prop} {b0 : Nat} {b1 : Nat} {l2 : Int32}   (K0 : GI mX7_departuresBehind 5 [some (.ref b0), some (.ref b1), some (.int l2), some (.int 0), some (.int 0), none] [] K x Q) : mSI mX7_departuresBehind [.ref b0, .ref b1, .int l2] K x Q := by
  refine s_I (by decide) (by simp [Value.category]) (Nat.le_of_ble_eq_true rfl) ?_
  show mGM mX7_departuresBehind 0 [some (.ref b0), some (.ref b1), some (.int l2), none, none, none] [] (hp K x) (PI K Q)
  refine r_iconst (pc := 0) (v := 0) dX7_departuresBehind_0 (by decide) ?_
  refine r_istore_n (pc := 1) dX7_departuresBehind_1 (by decide) ?_
  refine r_iconst (pc := 2) (L := [some (.ref b0), some (.ref b1), some (.int l2), some (.int 0), none, none]) (v := 0) dX7_departuresBehind_2 (by decide) ?_
  refine r_istore (pc := 3) dX7_departuresBehind_3 (by decide) ?_
  exact r_le (L' := [some (.ref b0), some (.ref b1), some (.int l2), some (.int 0), some (.int 0), none]) ⟨rfl, ⟨rfl, ⟨rfl, ⟨rfl, ⟨rfl, trivial⟩⟩⟩⟩⟩ K0
set_option maxHeartbeats 2000000 in
theorem v_X7_departuresBehind_5 {K : Sh} {x : Cn} {Q : Int32 → Cn → Prop} {b0 : Nat} {b1 : Nat} {l2 : Int32} {l3 : Int32} {l4 : Int32} {b0_2 : Nat} {b0_2_7 : Nat} {n_b0_2_7 : Nat} (k_b0 : kk K b0 = some (7, 0)) (g_b0_2 : gr x b0 2 = some b0_2) (k_b0_2 : kk K b0_2 = some (4, 0)) (g_b0_2_7 : gr x b0_2 7 = some b0_2_7) (k_b0_2_7 : kk K b0_2_7 = some (23, n_b0_2_7)) (k_b1 : kk K b1 = some (5, 0)) (K0 : ((gi x b0_2 3) ≤ l4 → (Q l3 x)) ∧ (¬ (gi x b0_2 3) ≤ l4 → (vp_in l4 n_b0_2_7 ∧ (∃ c_3 : Nat, gr x b0_2_7 ((l4 : Int32).toNatClampNeg) = some c_3 ∧ (kk K c_3 = some (5, 0) ∧ ((¬ (gi x c_3 0 = (gi x b1 0) ∧ ((gi x b1 1) = -1 ∨ gi x c_3 1 = (gi x b1 1))) → (GI mX7_departuresBehind 5 [some (.ref b0), some (.ref b1), some (.int l2), some (.int l3), some (.int (l4 + 1)), none] [] K x Q)) ∧ ((gi x c_3 0 = (gi x b1 0) ∧ ((gi x b1 1) = -1 ∨ gi x c_3 1 = (gi x b1 1))) → ((¬ (gi x c_3 3) = 1 → (GI mX7_departuresBehind 5 [some (.ref b0), some (.ref b1), some (.int l2), some (.int l3), some (.int (l4 + 1)), none] [] K x Q)) ∧ ((gi x c_3 3) = 1 → ((¬ (0 ≤ ((gi x c_3 2) - (gi x b1 2)) ∧ ((gi x c_3 2) - (gi x b1 2)) ≤ l2) → (GI mX7_departuresBehind 5 [some (.ref b0), some (.ref b1), some (.int l2), some (.int l3), some (.int (l4 + 1)), none] [] K x Q)) ∧ ((0 ≤ ((gi x c_3 2) - (gi x b1 2)) ∧ ((gi x c_3 2) - (gi x b1 2)) ≤ l2) → ((((f_held x c_3) &&& (f_held x b1)) = 0 → (GI mX7_departuresBehind 5 [some (.ref b0), some (.ref b1), some (.int l2), some (.int l3), some (.int (l4 + 1)), none] [] K x Q)) ∧ (¬ ((f_held x c_3) &&& (f_held x b1)) = 0 → (GI mX7_departuresBehind 5 [some (.ref b0), some (.ref b1), some (.int l2), some (.int (l3 + 1)), some (.int (l4 + 1)), none] [] K x Q)))))))))))))) : GI mX7_departuresBehind 5 [some (.ref b0), some (.ref b1), some (.int l2), some (.int l3), some (.int l4), none] [] K x Q := by
  show mGM mX7_departuresBehind 5 [some (.ref b0), some (.ref b1), some (.int l2), some (.int l3), some (.int l4), none] [] (hp K x) (PI K Q)
  refine r_iload (pc := 5) dX7_departuresBehind_5 rfl ?_
  refine r_aload_n (pc := 7) dX7_departuresBehind_7 rfl ?_
  refine s_getR (pc := 8) dX7_departuresBehind_8 fl_X7_20 rfl k_b0 g_b0_2 ?_
  refine s_getI (pc := 11) dX7_departuresBehind_11 fl_X7_97 rfl k_b0_2 ?_
  refine r_icmp_ge (pc := 14) (tgt := 94) dX7_departuresBehind_14 (by decide) (fun q => ?_) (fun q => ?_)
  · have K0 := K0.1 q
    refine r_iload_n (pc := 94) dX7_departuresBehind_94 rfl ?_
    exact s_iret rfl dX7_departuresBehind_95 K0
  · have K0 := K0.2 q
    refine r_aload_n (pc := 17) dX7_departuresBehind_17 rfl ?_
    refine s_getR (pc := 18) dX7_departuresBehind_18 fl_X7_20 rfl k_b0 g_b0_2 ?_
    refine s_getR (pc := 21) dX7_departuresBehind_21 fl_X7_135 rfl k_b0_2 g_b0_2_7 ?_
    refine r_iload (pc := 24) dX7_departuresBehind_24 rfl ?_
    obtain ⟨i_2, K0⟩ := K0
    obtain ⟨c_3, g_4, K0⟩ := K0
    refine s_aald (pc := 26) dX7_departuresBehind_26 (by decide) rfl k_b0_2_7 i_2 g_4 ?_
    refine r_astore (pc := 27) dX7_departuresBehind_27 (by decide) ?_
    refine r_aload (pc := 29) (L := [some (.ref b0), some (.ref b1), some (.int l2), some (.int l3), some (.int l4), some (.ref c_3)]) dX7_departuresBehind_29 rfl ?_
    refine r_aload_n (pc := 31) dX7_departuresBehind_31 rfl ?_
    refine s_getI (pc := 32) dX7_departuresBehind_32 fl_X7_139 rfl k_b1 ?_
    refine r_aload_n (pc := 35) dX7_departuresBehind_35 rfl ?_
    refine s_getI (pc := 36) dX7_departuresBehind_36 fl_X7_144 rfl k_b1 ?_
    obtain ⟨e_5, K0⟩ := K0
    refine s_VI (pc := 39) mX5_isOf (ci := 5) (a := c_3) (As := [.int (gi x b1 0), .int (gi x b1 1)]) dX7_departuresBehind_39 lk_X7_248 in_X5_isOf mo_X5_isOf ⟨by decide, rfl⟩ ⟨by decide, by decide⟩ (Nat.le_of_ble_eq_true rfl) e_5 (sp_X5_isOf e_5 ?_)
    refine r_if_eq (pc := 42) (tgt := 88) dX7_departuresBehind_42 (by decide) (fun q => ?_) (fun q => ?_)
    · have q := (b2i_z _).mp q
      have K0 := K0.1 q
      refine r_iinc (pc := 88) (v := l4 + 1) dX7_departuresBehind_88 rfl rfl (by decide) ?_
      refine r_goto (pc := 91) (L := [some (.ref b0), some (.ref b1), some (.int l2), some (.int l3), some (.int (l4 + 1)), some (.ref c_3)]) (tgt := 5) dX7_departuresBehind_91 (by decide) ?_
      exact r_le (L' := [some (.ref b0), some (.ref b1), some (.int l2), some (.int l3), some (.int (l4 + 1)), none]) ⟨rfl, ⟨rfl, ⟨rfl, ⟨rfl, ⟨rfl, trivial⟩⟩⟩⟩⟩ K0
    · have q := b2i_nz q
      have K0 := K0.2 q
      refine r_aload (pc := 45) dX7_departuresBehind_45 rfl ?_
      refine s_getI (pc := 47) dX7_departuresBehind_47 fl_X7_150 rfl e_5 ?_
      refine r_iconst (pc := 50) (v := 1) dX7_departuresBehind_50 (by decide) ?_
      refine r_icmp_ne (pc := 51) (tgt := 88) dX7_departuresBehind_51 (by decide) (fun q => ?_) (fun q => ?_)
      · have K0 := K0.1 q
        refine r_iinc (pc := 88) (v := l4 + 1) dX7_departuresBehind_88 rfl rfl (by decide) ?_
        refine r_goto (pc := 91) (L := [some (.ref b0), some (.ref b1), some (.int l2), some (.int l3), some (.int (l4 + 1)), some (.ref c_3)]) (tgt := 5) dX7_departuresBehind_91 (by decide) ?_
        exact r_le (L' := [some (.ref b0), some (.ref b1), some (.int l2), some (.int l3), some (.int (l4 + 1)), none]) ⟨rfl, ⟨rfl, ⟨rfl, ⟨rfl, ⟨rfl, trivial⟩⟩⟩⟩⟩ K0
      · have K0 := K0.2 q
        refine r_aload (pc := 54) dX7_departuresBehind_54 rfl ?_
        refine s_getI (pc := 56) dX7_departuresBehind_56 fl_X7_147 rfl e_5 ?_
        refine r_aload_n (pc := 59) dX7_departuresBehind_59 rfl ?_
        refine s_getI (pc := 60) dX7_departuresBehind_60 fl_X7_147 rfl k_b1 ?_
        refine r_isub (pc := 63) dX7_departuresBehind_63 ?_
        refine r_iconst (pc := 64) (v := 0) dX7_departuresBehind_64 (by decide) ?_
        refine r_iload_n (pc := 65) dX7_departuresBehind_65 rfl ?_
        refine s_SI (pc := 66) mX7_isWithin (As := [.int ((gi x c_3 2) - (gi x b1 2)), .int 0, .int l2]) dX7_departuresBehind_66 lk_X7_113 st_X7_isWithin mo_X7_isWithin ⟨by decide, by decide⟩ (Nat.le_of_ble_eq_true rfl) (sp_X7_isWithin  ?_)
        refine r_if_eq (pc := 69) (tgt := 88) dX7_departuresBehind_69 (by decide) (fun q => ?_) (fun q => ?_)
        · have q := (b2i_z _).mp q
          have K0 := K0.1 q
          refine r_iinc (pc := 88) (v := l4 + 1) dX7_departuresBehind_88 rfl rfl (by decide) ?_
          refine r_goto (pc := 91) (L := [some (.ref b0), some (.ref b1), some (.int l2), some (.int l3), some (.int (l4 + 1)), some (.ref c_3)]) (tgt := 5) dX7_departuresBehind_91 (by decide) ?_
          exact r_le (L' := [some (.ref b0), some (.ref b1), some (.int l2), some (.int l3), some (.int (l4 + 1)), none]) ⟨rfl, ⟨rfl, ⟨rfl, ⟨rfl, ⟨rfl, trivial⟩⟩⟩⟩⟩ K0
        · have q := b2i_nz q
          have K0 := K0.2 q
          refine r_aload (pc := 72) dX7_departuresBehind_72 rfl ?_
          refine s_VI (pc := 74) mX5_heldBits (ci := 5) (a := c_3) (As := []) dX7_departuresBehind_74 lk_X7_272 in_X5_heldBits mo_X5_heldBits ⟨by decide, rfl⟩ ⟨by decide, by decide⟩ (Nat.le_of_ble_eq_true rfl) e_5 (sp_X5_heldBits e_5 ?_)
          refine r_aload_n (pc := 77) dX7_departuresBehind_77 rfl ?_
          refine s_VI (pc := 78) mX5_heldBits (ci := 5) (a := b1) (As := []) dX7_departuresBehind_78 lk_X7_272 in_X5_heldBits mo_X5_heldBits ⟨by decide, rfl⟩ ⟨by decide, by decide⟩ (Nat.le_of_ble_eq_true rfl) k_b1 (sp_X5_heldBits k_b1 ?_)
          refine r_iand (pc := 81) dX7_departuresBehind_81 ?_
          refine r_if_eq (pc := 82) (tgt := 88) dX7_departuresBehind_82 (by decide) (fun q => ?_) (fun q => ?_)
          · have K0 := K0.1 q
            refine r_iinc (pc := 88) (v := l4 + 1) dX7_departuresBehind_88 rfl rfl (by decide) ?_
            refine r_goto (pc := 91) (L := [some (.ref b0), some (.ref b1), some (.int l2), some (.int l3), some (.int (l4 + 1)), some (.ref c_3)]) (tgt := 5) dX7_departuresBehind_91 (by decide) ?_
            exact r_le (L' := [some (.ref b0), some (.ref b1), some (.int l2), some (.int l3), some (.int (l4 + 1)), none]) ⟨rfl, ⟨rfl, ⟨rfl, ⟨rfl, ⟨rfl, trivial⟩⟩⟩⟩⟩ K0
          · have K0 := K0.2 q
            refine r_iinc (pc := 85) (v := l3 + 1) dX7_departuresBehind_85 rfl rfl (by decide) ?_
            refine r_iinc (pc := 88) (L := [some (.ref b0), some (.ref b1), some (.int l2), some (.int (l3 + 1)), some (.int l4), some (.ref c_3)]) (v := l4 + 1) dX7_departuresBehind_88 rfl rfl (by decide) ?_
            refine r_goto (pc := 91) (L := [some (.ref b0), some (.ref b1), some (.int l2), some (.int (l3 + 1)), some (.int (l4 + 1)), some (.ref c_3)]) (tgt := 5) dX7_departuresBehind_91 (by decide) ?_
            exact r_le (L' := [some (.ref b0), some (.ref b1), some (.int l2), some (.int (l3 + 1)), some (.int (l4 + 1)), none]) ⟨rfl, ⟨rfl, ⟨rfl, ⟨rfl, ⟨rfl, trivial⟩⟩⟩⟩⟩ K0
section
theorem sp_X7_departuresBehind {x : Cn} {Q : Int32 → Cn → Prop} {T : TT} {W C S A N s p : Nat} {wi : Int32} (c1 : CRf x) (E : SEA x 2 T W C S A N) (hs : s < S) (hp : kk KW p = some (5, 0)) (hq : SER x p T s) (k : Q (accT (inc (pcr T wi s)) S 0) x) : mSI mX7_departuresBehind [.ref 0, .ref p, .int wi] KW x Q := by
  have hn := E.nums
  have hS : S ≤ 24 := hn.2.2.2.2.2.2.1
  obtain ⟨p', -, -, -, -, -, e9⟩ := E.ser hs
  have hh := hq.held e9
  have hd : ¬ so T s 1 = -1 := by
    obtain ⟨-, ⟨d, hd, ed⟩, -⟩ := e9
    rw [ed]
    intro z
    have := nI_pos (n := d) (by omega)
    rw [z] at this
    exact this (by decide)
  refine v_X7_departuresBehind_0 (lp_acc (inc (pcr T wi s)) (fun t c => GI mX7_departuresBehind 5 [some (.ref 0), some (.ref p), some (.int wi), some (.int c), some (.int (nI t)), none] [] KW x Q) S 0 ?_ (fun t c ht n1 => ?_))
  · exact v_X7_departuresBehind_5 k0 c1.2.1 (ks0 E.1) E.2.1.2.2.1 (ks3 E.1) hp ⟨fun _ => k, fun z => absurd (by rw [hn.2.2.1]; exact Int32.le_refl _) z⟩
  · obtain ⟨p2, e1, e2, e3, e4, -, e6⟩ := E.ser ht
    refine v_X7_departuresBehind_5 k0 c1.2.1 (ks0 E.1) E.2.1.2.2.1 (ks3 E.1) hp ⟨fun z => absurd (by rw [hn.2.2.1] at z; exact z) (nI_ge ht (by omega)), fun _ => ⟨vp_in_nI (by omega) (by decide), p2, by rw [nI_clamp (by omega)]; exact e1, e2, ?_⟩⟩
    rw [e3.1 0 (by decide) (by decide), e3.1 1 (by decide) (by decide), e3.1 2 (by decide) (by decide), e3.1 3 (by decide) (by decide), hq.1 0 (by decide) (by decide), hq.1 1 (by decide) (by decide), hq.1 2 (by decide) (by decide), e4, hh, nI_1]
    exact ⟨fun z => n1 _ (if_neg (fun w => z ⟨w.1, Or.inr w.2.1⟩)), fun z1 => ⟨fun z => n1 _ (if_neg (fun w => z w.2.2.1)), fun z2 => ⟨fun z => n1 _ (if_neg (fun w => z w.2.2.2.1)), fun z3 => ⟨fun z => n1 _ (if_neg (fun w => w.2.2.2.2 z)), fun z4 => n1 _ (if_pos ⟨z1.1, z1.2.resolve_left hd, z2, z3, z4⟩)⟩⟩⟩⟩
end
set_option maxHeartbeats 2000000 in
theorem v_X7_pairs_0 {K : Sh} {x : Cn} {Q : Int32 → Cn → Prop} {b0 : Nat} {l1 : Int32} {l2 : Int32} {l3 : Int32} {b0_3 : Nat} {b0_2 : Nat} (k_b0 : kk K b0 = some (7, 0)) (g_b0_3 : gr x b0 3 = some b0_3) (k_b0_3 : kk K b0_3 = some (1, 0)) (g_b0_2 : gr x b0 2 = some b0_2) (k_b0_2 : kk K b0_2 = some (4, 0)) (K0 : (¬ (0 ≤ l1 ∧ l1 < gi x b0_3 0) → (Q (-2) x)) ∧ ((0 ≤ l1 ∧ l1 < gi x b0_3 0) → ((¬ (0 < gi x b0_2 0 ∧ 0 ≤ l2 ∧ l2 < 7) → (Q (-2) x)) ∧ ((0 < gi x b0_2 0 ∧ 0 ≤ l2 ∧ l2 < 7) → (((0 ≤ l3 ∧ l3 ≤ 23) → (GI mX7_pairs 35 [some (.ref b0), some (.int l1), some (.int l2), some (.int l3), some (.int 0), some (.int 0), none] [] K x Q)) ∧ (¬ (0 ≤ l3 ∧ l3 ≤ 23) → (Q (-2) x))))))) : mSI mX7_pairs [.ref b0, .int l1, .int l2, .int l3] K x Q := by
  refine s_I (by decide) (by simp [Value.category]) (Nat.le_of_ble_eq_true rfl) ?_
  show mGM mX7_pairs 0 [some (.ref b0), some (.int l1), some (.int l2), some (.int l3), none, none, none] [] (hp K x) (PI K Q)
  refine r_aload_n (pc := 0) dX7_pairs_0 rfl ?_
  refine r_iload_n (pc := 1) dX7_pairs_1 rfl ?_
  refine s_VI (pc := 2) mX7_isCarrier (ci := 7) (a := b0) (As := [.int l1]) dX7_pairs_2 lk_X7_109 in_X7_isCarrier mo_X7_isCarrier ⟨by decide, rfl⟩ ⟨by decide, by decide⟩ (Nat.le_of_ble_eq_true rfl) k_b0 (sp_X7_isCarrier k_b0 g_b0_3 k_b0_3 ?_)
  refine r_if_eq (pc := 5) (tgt := 26) dX7_pairs_5 (by decide) (fun q => ?_) (fun q => ?_)
  · have q := (b2i_z _).mp q
    have K0 := K0.1 q
    refine r_bipush (pc := 26) (v := (-2)) dX7_pairs_26 (by decide) ?_
    exact s_iret rfl dX7_pairs_28 K0
  · have q := b2i_nz q
    have K0 := K0.2 q
    refine r_aload_n (pc := 8) dX7_pairs_8 rfl ?_
    refine r_iload_n (pc := 9) dX7_pairs_9 rfl ?_
    refine s_VI (pc := 10) mX7_isDay (ci := 7) (a := b0) (As := [.int l2]) dX7_pairs_10 lk_X7_245 in_X7_isDay mo_X7_isDay ⟨by decide, rfl⟩ ⟨by decide, by decide⟩ (Nat.le_of_ble_eq_true rfl) k_b0 (sp_X7_isDay k_b0 g_b0_2 k_b0_2 ?_)
    refine r_if_eq (pc := 13) (tgt := 26) dX7_pairs_13 (by decide) (fun q => ?_) (fun q => ?_)
    · have q := (b2i_z _).mp q
      have K0 := K0.1 q
      refine r_bipush (pc := 26) (v := (-2)) dX7_pairs_26 (by decide) ?_
      exact s_iret rfl dX7_pairs_28 K0
    · have q := b2i_nz q
      have K0 := K0.2 q
      refine r_iload_n (pc := 16) dX7_pairs_16 rfl ?_
      refine r_iconst (pc := 17) (v := 0) dX7_pairs_17 (by decide) ?_
      refine r_bipush (pc := 18) (v := 23) dX7_pairs_18 (by decide) ?_
      refine s_SI (pc := 20) mX7_isWithin (As := [.int l3, .int 0, .int 23]) dX7_pairs_20 lk_X7_113 st_X7_isWithin mo_X7_isWithin ⟨by decide, by decide⟩ (Nat.le_of_ble_eq_true rfl) (sp_X7_isWithin  ?_)
      refine r_if_ne (pc := 23) (tgt := 29) dX7_pairs_23 (by decide) (fun q => ?_) (fun q => ?_)
      · have q := b2i_nz q
        have K0 := K0.1 q
        refine r_iconst (pc := 29) (v := 0) dX7_pairs_29 (by decide) ?_
        refine r_istore (pc := 30) dX7_pairs_30 (by decide) ?_
        refine r_iconst (pc := 32) (L := [some (.ref b0), some (.int l1), some (.int l2), some (.int l3), some (.int 0), none, none]) (v := 0) dX7_pairs_32 (by decide) ?_
        refine r_istore (pc := 33) dX7_pairs_33 (by decide) ?_
        exact r_le (L' := [some (.ref b0), some (.int l1), some (.int l2), some (.int l3), some (.int 0), some (.int 0), none]) ⟨rfl, ⟨rfl, ⟨rfl, ⟨rfl, ⟨rfl, ⟨rfl, trivial⟩⟩⟩⟩⟩⟩ K0
      · have q := (b2i_z _).mp q
        have K0 := K0.2 q
        refine r_bipush (pc := 26) (v := (-2)) dX7_pairs_26 (by decide) ?_
        exact s_iret rfl dX7_pairs_28 K0
set_option maxHeartbeats 2000000 in
theorem v_X7_pairs_35 {K : Sh} {x : Cn} {Q : Int32 → Cn → Prop} {b0 : Nat} {l1 : Int32} {l2 : Int32} {l3 : Int32} {l4 : Int32} {l5 : Int32} {b0_2 : Nat} {b0_2_7 : Nat} {n_b0_2_7 : Nat} (k_b0 : kk K b0 = some (7, 0)) (g_b0_2 : gr x b0 2 = some b0_2) (k_b0_2 : kk K b0_2 = some (4, 0)) (g_b0_2_7 : gr x b0_2 7 = some b0_2_7) (k_b0_2_7 : kk K b0_2_7 = some (23, n_b0_2_7)) (K0 : ((gi x b0_2 3) ≤ l5 → (Q l4 x)) ∧ (¬ (gi x b0_2 3) ≤ l5 → (vp_in l5 n_b0_2_7 ∧ (∃ c_3 : Nat, gr x b0_2_7 ((l5 : Int32).toNatClampNeg) = some c_3 ∧ (kk K c_3 = some (5, 0) ∧ ((¬ (gi x c_3 0 = l1 ∧ (l2 = -1 ∨ gi x c_3 1 = l2)) → (GI mX7_pairs 35 [some (.ref b0), some (.int l1), some (.int l2), some (.int l3), some (.int l4), some (.int (l5 + 1)), none] [] K x Q)) ∧ ((gi x c_3 0 = l1 ∧ (l2 = -1 ∨ gi x c_3 1 = l2)) → ((¬ (gi x c_3 3) = 0 → (GI mX7_pairs 35 [some (.ref b0), some (.int l1), some (.int l2), some (.int l3), some (.int l4), some (.int (l5 + 1)), none] [] K x Q)) ∧ ((gi x c_3 3) = 0 → (mSI mX7_departuresBehind [.ref b0, .ref c_3, .int l3] K x (fun r_9 y_8 => GI mX7_pairs 35 [some (.ref b0), some (.int l1), some (.int l2), some (.int l3), some (.int (l4 + r_9)), some (.int (l5 + 1)), none] [] K y_8 Q))))))))))) : GI mX7_pairs 35 [some (.ref b0), some (.int l1), some (.int l2), some (.int l3), some (.int l4), some (.int l5), none] [] K x Q := by
  show mGM mX7_pairs 35 [some (.ref b0), some (.int l1), some (.int l2), some (.int l3), some (.int l4), some (.int l5), none] [] (hp K x) (PI K Q)
  refine r_iload (pc := 35) dX7_pairs_35 rfl ?_
  refine r_aload_n (pc := 37) dX7_pairs_37 rfl ?_
  refine s_getR (pc := 38) dX7_pairs_38 fl_X7_20 rfl k_b0 g_b0_2 ?_
  refine s_getI (pc := 41) dX7_pairs_41 fl_X7_97 rfl k_b0_2 ?_
  refine r_icmp_ge (pc := 44) (tgt := 95) dX7_pairs_44 (by decide) (fun q => ?_) (fun q => ?_)
  · have K0 := K0.1 q
    refine r_iload (pc := 95) dX7_pairs_95 rfl ?_
    exact s_iret rfl dX7_pairs_97 K0
  · have K0 := K0.2 q
    refine r_aload_n (pc := 47) dX7_pairs_47 rfl ?_
    refine s_getR (pc := 48) dX7_pairs_48 fl_X7_20 rfl k_b0 g_b0_2 ?_
    refine s_getR (pc := 51) dX7_pairs_51 fl_X7_135 rfl k_b0_2 g_b0_2_7 ?_
    refine r_iload (pc := 54) dX7_pairs_54 rfl ?_
    obtain ⟨i_2, K0⟩ := K0
    obtain ⟨c_3, g_4, K0⟩ := K0
    refine s_aald (pc := 56) dX7_pairs_56 (by decide) rfl k_b0_2_7 i_2 g_4 ?_
    refine r_astore (pc := 57) dX7_pairs_57 (by decide) ?_
    refine r_aload (pc := 59) (L := [some (.ref b0), some (.int l1), some (.int l2), some (.int l3), some (.int l4), some (.int l5), some (.ref c_3)]) dX7_pairs_59 rfl ?_
    refine r_iload_n (pc := 61) dX7_pairs_61 rfl ?_
    refine r_iload_n (pc := 62) dX7_pairs_62 rfl ?_
    obtain ⟨e_5, K0⟩ := K0
    refine s_VI (pc := 63) mX5_isOf (ci := 5) (a := c_3) (As := [.int l1, .int l2]) dX7_pairs_63 lk_X7_248 in_X5_isOf mo_X5_isOf ⟨by decide, rfl⟩ ⟨by decide, by decide⟩ (Nat.le_of_ble_eq_true rfl) e_5 (sp_X5_isOf e_5 ?_)
    refine r_if_eq (pc := 66) (tgt := 89) dX7_pairs_66 (by decide) (fun q => ?_) (fun q => ?_)
    · have q := (b2i_z _).mp q
      have K0 := K0.1 q
      refine r_iinc (pc := 89) (v := l5 + 1) dX7_pairs_89 rfl rfl (by decide) ?_
      refine r_goto (pc := 92) (L := [some (.ref b0), some (.int l1), some (.int l2), some (.int l3), some (.int l4), some (.int (l5 + 1)), some (.ref c_3)]) (tgt := 35) dX7_pairs_92 (by decide) ?_
      exact r_le (L' := [some (.ref b0), some (.int l1), some (.int l2), some (.int l3), some (.int l4), some (.int (l5 + 1)), none]) ⟨rfl, ⟨rfl, ⟨rfl, ⟨rfl, ⟨rfl, ⟨rfl, trivial⟩⟩⟩⟩⟩⟩ K0
    · have q := b2i_nz q
      have K0 := K0.2 q
      refine r_aload (pc := 69) dX7_pairs_69 rfl ?_
      refine s_getI (pc := 71) dX7_pairs_71 fl_X7_150 rfl e_5 ?_
      refine r_if_ne (pc := 74) (tgt := 89) dX7_pairs_74 (by decide) (fun q => ?_) (fun q => ?_)
      · have K0 := K0.1 q
        refine r_iinc (pc := 89) (v := l5 + 1) dX7_pairs_89 rfl rfl (by decide) ?_
        refine r_goto (pc := 92) (L := [some (.ref b0), some (.int l1), some (.int l2), some (.int l3), some (.int l4), some (.int (l5 + 1)), some (.ref c_3)]) (tgt := 35) dX7_pairs_92 (by decide) ?_
        exact r_le (L' := [some (.ref b0), some (.int l1), some (.int l2), some (.int l3), some (.int l4), some (.int (l5 + 1)), none]) ⟨rfl, ⟨rfl, ⟨rfl, ⟨rfl, ⟨rfl, ⟨rfl, trivial⟩⟩⟩⟩⟩⟩ K0
      · have K0 := K0.2 q
        refine r_iload (pc := 77) dX7_pairs_77 rfl ?_
        refine r_aload_n (pc := 79) dX7_pairs_79 rfl ?_
        refine r_aload (pc := 80) dX7_pairs_80 rfl ?_
        refine r_iload_n (pc := 82) dX7_pairs_82 rfl ?_
        refine s_VI (pc := 83) mX7_departuresBehind (ci := 7) (a := b0) (As := [.ref c_3, .int l3]) dX7_pairs_83 lk_X7_275 in_X7_departuresBehind mo_X7_departuresBehind ⟨by decide, rfl⟩ ⟨by decide, by decide⟩ (Nat.le_of_ble_eq_true rfl) k_b0 (mSI_mono K0 (fun r_9 y_8 K0 => ?_))
        refine r_iadd (pc := 86) dX7_pairs_86 ?_
        refine r_istore (pc := 87) dX7_pairs_87 (by decide) ?_
        refine r_iinc (pc := 89) (L := [some (.ref b0), some (.int l1), some (.int l2), some (.int l3), some (.int (l4 + r_9)), some (.int l5), some (.ref c_3)]) (v := l5 + 1) dX7_pairs_89 rfl rfl (by decide) ?_
        refine r_goto (pc := 92) (L := [some (.ref b0), some (.int l1), some (.int l2), some (.int l3), some (.int (l4 + r_9)), some (.int (l5 + 1)), some (.ref c_3)]) (tgt := 35) dX7_pairs_92 (by decide) ?_
        exact r_le (L' := [some (.ref b0), some (.int l1), some (.int l2), some (.int l3), some (.int (l4 + r_9)), some (.int (l5 + 1)), none]) ⟨rfl, ⟨rfl, ⟨rfl, ⟨rfl, ⟨rfl, ⟨rfl, trivial⟩⟩⟩⟩⟩⟩ K0
set_option maxHeartbeats 2000000 in
theorem v_X8_pairs_0 {K : Sh} {x : Cn} {Q : Int32 → Cn → Prop} {b0 : Nat} {l1 : Int32} {l2 : Int32} {l3 : Int32} {b0_1 : Nat} {n_b0_1 : Nat} (k_b0 : kk K b0 = some (8, 0)) (g_b0_1 : gr x b0 1 = some b0_1) (k_b0_1 : kk K b0_1 = some (20, n_b0_1)) (K0 : vp_in 1 n_b0_1 ∧ ((¬ (0 ≤ l1 ∧ l1 ≤ gi x b0_1 1 - 1) → (Q (-2) x)) ∧ ((0 ≤ l1 ∧ l1 ≤ gi x b0_1 1 - 1) → (vp_in 0 n_b0_1 ∧ ((¬ (0 < gi x b0_1 0 ∧ 0 ≤ l2 ∧ l2 ≤ 6) → (Q (-2) x)) ∧ ((0 < gi x b0_1 0 ∧ 0 ≤ l2 ∧ l2 ≤ 6) → (((0 ≤ l3 ∧ l3 ≤ 23) → (GI mX8_pairs 37 [some (.ref b0), some (.int l1), some (.int l2), some (.int l3), some (.int 0), some (.int 0), none, none, none] [] K x Q)) ∧ (¬ (0 ≤ l3 ∧ l3 ≤ 23) → (Q (-2) x))))))))) : mSI mX8_pairs [.ref b0, .int l1, .int l2, .int l3] K x Q := by
  refine s_I (by decide) (by simp [Value.category]) (Nat.le_of_ble_eq_true rfl) ?_
  show mGM mX8_pairs 0 [some (.ref b0), some (.int l1), some (.int l2), some (.int l3), none, none, none, none, none] [] (hp K x) (PI K Q)
  refine r_aload_n (pc := 0) dX8_pairs_0 rfl ?_
  refine r_iload_n (pc := 1) dX8_pairs_1 rfl ?_
  obtain ⟨i_1, K0⟩ := K0
  refine s_VI (pc := 2) mX8_isCarrier (ci := 8) (a := b0) (As := [.int l1]) dX8_pairs_2 lk_X8_265 in_X8_isCarrier mo_X8_isCarrier ⟨by decide, rfl⟩ ⟨by decide, by decide⟩ (Nat.le_of_ble_eq_true rfl) k_b0 (sp_X8_isCarrier k_b0 g_b0_1 k_b0_1 i_1 ?_)
  refine r_if_eq (pc := 5) (tgt := 28) dX8_pairs_5 (by decide) (fun q => ?_) (fun q => ?_)
  · have q := (b2i_z _).mp q
    have K0 := K0.1 q
    refine r_bipush (pc := 28) (v := (-2)) dX8_pairs_28 (by decide) ?_
    exact s_iret rfl dX8_pairs_30 K0
  · have q := b2i_nz q
    have K0 := K0.2 q
    refine r_aload_n (pc := 8) dX8_pairs_8 rfl ?_
    refine r_iload_n (pc := 9) dX8_pairs_9 rfl ?_
    obtain ⟨i_3, K0⟩ := K0
    refine s_VI (pc := 10) mX8_isDay (ci := 8) (a := b0) (As := [.int l2]) dX8_pairs_10 lk_X8_61 in_X8_isDay mo_X8_isDay ⟨by decide, rfl⟩ ⟨by decide, by decide⟩ (Nat.le_of_ble_eq_true rfl) k_b0 (sp_X8_isDay k_b0 g_b0_1 k_b0_1 i_3 ?_)
    refine r_if_eq (pc := 13) (tgt := 28) dX8_pairs_13 (by decide) (fun q => ?_) (fun q => ?_)
    · have q := (b2i_z _).mp q
      have K0 := K0.1 q
      refine r_bipush (pc := 28) (v := (-2)) dX8_pairs_28 (by decide) ?_
      exact s_iret rfl dX8_pairs_30 K0
    · have q := b2i_nz q
      have K0 := K0.2 q
      refine r_iload_n (pc := 16) dX8_pairs_16 rfl ?_
      refine r_i2l (pc := 17) dX8_pairs_17 ?_
      refine r_lconst (pc := 18) (v := 0) dX8_pairs_18 (by decide) ?_
      refine r_ldc2 (pc := 19) (v := 23) dX8_pairs_19 cn_X8_55 ?_
      refine s_SI (pc := 22) mX8_in (As := [.long ((l3 : Int32).toInt64), .long 0, .long 23]) dX8_pairs_22 lk_X8_45 st_X8_in mo_X8_in ⟨by decide, by decide⟩ (Nat.le_of_ble_eq_true rfl) (sq_X8_in (v := l3) (lo := 0) (hi := 23) rfl (by decide) (by decide) ?_)
      refine r_if_ne (pc := 25) (tgt := 31) dX8_pairs_25 (by decide) (fun q => ?_) (fun q => ?_)
      · have q := b2i_nz q
        have K0 := K0.1 q
        refine r_iconst (pc := 31) (v := 0) dX8_pairs_31 (by decide) ?_
        refine r_istore (pc := 32) dX8_pairs_32 (by decide) ?_
        refine r_iconst (pc := 34) (L := [some (.ref b0), some (.int l1), some (.int l2), some (.int l3), some (.int 0), none, none, none, none]) (v := 0) dX8_pairs_34 (by decide) ?_
        refine r_istore (pc := 35) dX8_pairs_35 (by decide) ?_
        exact r_le (L' := [some (.ref b0), some (.int l1), some (.int l2), some (.int l3), some (.int 0), some (.int 0), none, none, none]) ⟨rfl, ⟨rfl, ⟨rfl, ⟨rfl, ⟨rfl, ⟨rfl, trivial⟩⟩⟩⟩⟩⟩ K0
      · have q := (b2i_z _).mp q
        have K0 := K0.2 q
        refine r_bipush (pc := 28) (v := (-2)) dX8_pairs_28 (by decide) ?_
        exact s_iret rfl dX8_pairs_30 K0
set_option maxHeartbeats 2000000 in
theorem v_X8_pairs_37 {K : Sh} {x : Cn} {Q : Int32 → Cn → Prop} {b0 : Nat} {l1 : Int32} {l2 : Int32} {l3 : Int32} {l4 : Int32} {l5 : Int32} {b0_1 : Nat} {n_b0_1 : Nat} (k_b0 : kk K b0 = some (8, 0)) (g_b0_1 : gr x b0 1 = some b0_1) (k_b0_1 : kk K b0_1 = some (20, n_b0_1)) (K0 : vp_in 2 n_b0_1 ∧ (((gi x b0_1 2) ≤ l5 → (Q l4 x)) ∧ (¬ (gi x b0_1 2) ≤ l5 → (GI mX8_pairs 51 [some (.ref b0), some (.int l1), some (.int l2), some (.int l3), some (.int l4), some (.int l5), some (.int 0), none, none] [] K x Q)))) : GI mX8_pairs 37 [some (.ref b0), some (.int l1), some (.int l2), some (.int l3), some (.int l4), some (.int l5), none, none, none] [] K x Q := by
  show mGM mX8_pairs 37 [some (.ref b0), some (.int l1), some (.int l2), some (.int l3), some (.int l4), some (.int l5), none, none, none] [] (hp K x) (PI K Q)
  refine r_iload (pc := 37) dX8_pairs_37 rfl ?_
  refine r_aload_n (pc := 39) dX8_pairs_39 rfl ?_
  refine s_getR (pc := 40) dX8_pairs_40 fl_X8_9 rfl k_b0 g_b0_1 ?_
  refine r_iconst (pc := 43) (v := 2) dX8_pairs_43 (by decide) ?_
  obtain ⟨i_1, K0⟩ := K0
  refine s_iald (pc := 44) dX8_pairs_44 k_b0_1 i_1 ?_
  refine r_icmp_ge (pc := 45) (tgt := 214) dX8_pairs_45 (by decide) (fun q => ?_) (fun q => ?_)
  · have K0 := K0.1 q
    refine r_iload (pc := 214) dX8_pairs_214 rfl ?_
    exact s_iret rfl dX8_pairs_216 K0
  · have K0 := K0.2 q
    refine r_iconst (pc := 48) (v := 0) dX8_pairs_48 (by decide) ?_
    refine r_istore (pc := 49) dX8_pairs_49 (by decide) ?_
    exact r_le (L' := [some (.ref b0), some (.int l1), some (.int l2), some (.int l3), some (.int l4), some (.int l5), some (.int 0), none, none]) ⟨rfl, ⟨rfl, ⟨rfl, ⟨rfl, ⟨rfl, ⟨rfl, ⟨rfl, trivial⟩⟩⟩⟩⟩⟩⟩ K0
set_option maxHeartbeats 2000000 in
theorem v_X8_pairs_51 {K : Sh} {x : Cn} {Q : Int32 → Cn → Prop} {b0 : Nat} {l1 : Int32} {l2 : Int32} {l3 : Int32} {l4 : Int32} {l5 : Int32} {l6 : Int32} {b0_1 : Nat} {n_b0_1 : Nat} {b0_3 : Nat} {n_b0_3 : Nat} (k_b0 : kk K b0 = some (8, 0)) (g_b0_1 : gr x b0 1 = some b0_1) (k_b0_1 : kk K b0_1 = some (20, n_b0_1)) (g_b0_3 : gr x b0 3 = some b0_3) (k_b0_3 : kk K b0_3 = some (20, n_b0_3)) (K0 : vp_in 2 n_b0_1 ∧ (((gi x b0_1 2) ≤ l6 → (GI mX8_pairs 37 [some (.ref b0), some (.int l1), some (.int l2), some (.int l3), some (.int l4), some (.int (l5 + 1)), none, none, none] [] K x Q)) ∧ (¬ (gi x b0_1 2) ≤ l6 → ((l24 l5 n_b0_3) ∧ ((¬ (so (gi x b0_3) (l5 : Int32).toNatClampNeg 0) = l1 → (GI mX8_pairs 110 [some (.ref b0), some (.int l1), some (.int l2), some (.int l3), some (.int l4), some (.int l5), some (.int l6), none, none] [] K x Q)) ∧ ((so (gi x b0_3) (l5 : Int32).toNatClampNeg 0) = l1 → ((l24 l6 n_b0_3) ∧ ((¬ (so (gi x b0_3) (l6 : Int32).toNatClampNeg 0) = l1 → (GI mX8_pairs 110 [some (.ref b0), some (.int l1), some (.int l2), some (.int l3), some (.int l4), some (.int l5), some (.int l6), none, none] [] K x Q)) ∧ ((so (gi x b0_3) (l6 : Int32).toNatClampNeg 0) = l1 → ((¬ (so (gi x b0_3) (l5 : Int32).toNatClampNeg 1) = l2 → (GI mX8_pairs 110 [some (.ref b0), some (.int l1), some (.int l2), some (.int l3), some (.int l4), some (.int l5), some (.int l6), none, none] [] K x Q)) ∧ ((so (gi x b0_3) (l5 : Int32).toNatClampNeg 1) = l2 → ((¬ (so (gi x b0_3) (l6 : Int32).toNatClampNeg 1) = l2 → (GI mX8_pairs 110 [some (.ref b0), some (.int l1), some (.int l2), some (.int l3), some (.int l4), some (.int l5), some (.int l6), none, none] [] K x Q)) ∧ ((so (gi x b0_3) (l6 : Int32).toNatClampNeg 1) = l2 → ((¬ (so (gi x b0_3) (l5 : Int32).toNatClampNeg 3) = 0 → (GI mX8_pairs 163 [some (.ref b0), some (.int l1), some (.int l2), some (.int l3), some (.int l4), some (.int l5), some (.int l6), some (.int 1), none] [] K x Q)) ∧ ((so (gi x b0_3) (l5 : Int32).toNatClampNeg 3) = 0 → ((¬ (so (gi x b0_3) (l6 : Int32).toNatClampNeg 3) = 1 → (GI mX8_pairs 163 [some (.ref b0), some (.int l1), some (.int l2), some (.int l3), some (.int l4), some (.int l5), some (.int l6), some (.int 1), none] [] K x Q)) ∧ ((so (gi x b0_3) (l6 : Int32).toNatClampNeg 3) = 1 → ((¬ (0 ≤ ((so (gi x b0_3) (l6 : Int32).toNatClampNeg 2) - (so (gi x b0_3) (l5 : Int32).toNatClampNeg 2)) ∧ ((so (gi x b0_3) (l6 : Int32).toNatClampNeg 2) - (so (gi x b0_3) (l5 : Int32).toNatClampNeg 2)) ≤ l3) → (GI mX8_pairs 163 [some (.ref b0), some (.int l1), some (.int l2), some (.int l3), some (.int l4), some (.int l5), some (.int l6), some (.int 1), none] [] K x Q)) ∧ ((0 ≤ ((so (gi x b0_3) (l6 : Int32).toNatClampNeg 2) - (so (gi x b0_3) (l5 : Int32).toNatClampNeg 2)) ∧ ((so (gi x b0_3) (l6 : Int32).toNatClampNeg 2) - (so (gi x b0_3) (l5 : Int32).toNatClampNeg 2)) ≤ l3) → ((((bas (gi x b0_3) (l5 : Int32).toNatClampNeg) &&& (bas (gi x b0_3) (l6 : Int32).toNatClampNeg)) = 0 → (GI mX8_pairs 51 [some (.ref b0), some (.int l1), some (.int l2), some (.int l3), some (.int (l4 + 0)), some (.int l5), some (.int (l6 + 1)), none, none] [] K x Q)) ∧ (¬ ((bas (gi x b0_3) (l5 : Int32).toNatClampNeg) &&& (bas (gi x b0_3) (l6 : Int32).toNatClampNeg)) = 0 → (GI mX8_pairs 51 [some (.ref b0), some (.int l1), some (.int l2), some (.int l3), some (.int (l4 + 1)), some (.int l5), some (.int (l6 + 1)), none, none] [] K x Q)))))))))))))))))))))) : GI mX8_pairs 51 [some (.ref b0), some (.int l1), some (.int l2), some (.int l3), some (.int l4), some (.int l5), some (.int l6), none, none] [] K x Q := by
  show mGM mX8_pairs 51 [some (.ref b0), some (.int l1), some (.int l2), some (.int l3), some (.int l4), some (.int l5), some (.int l6), none, none] [] (hp K x) (PI K Q)
  refine r_iload (pc := 51) dX8_pairs_51 rfl ?_
  refine r_aload_n (pc := 53) dX8_pairs_53 rfl ?_
  refine s_getR (pc := 54) dX8_pairs_54 fl_X8_9 rfl k_b0 g_b0_1 ?_
  refine r_iconst (pc := 57) (v := 2) dX8_pairs_57 (by decide) ?_
  obtain ⟨i_1, K0⟩ := K0
  refine s_iald (pc := 58) dX8_pairs_58 k_b0_1 i_1 ?_
  refine r_icmp_ge (pc := 59) (tgt := 208) dX8_pairs_59 (by decide) (fun q => ?_) (fun q => ?_)
  · have K0 := K0.1 q
    refine r_iinc (pc := 208) (v := l5 + 1) dX8_pairs_208 rfl rfl (by decide) ?_
    refine r_goto (pc := 211) (L := [some (.ref b0), some (.int l1), some (.int l2), some (.int l3), some (.int l4), some (.int (l5 + 1)), some (.int l6), none, none]) (tgt := 37) dX8_pairs_211 (by decide) ?_
    exact r_le (L' := [some (.ref b0), some (.int l1), some (.int l2), some (.int l3), some (.int l4), some (.int (l5 + 1)), none, none, none]) ⟨rfl, ⟨rfl, ⟨rfl, ⟨rfl, ⟨rfl, ⟨rfl, trivial⟩⟩⟩⟩⟩⟩ K0
  · have K0 := K0.2 q
    refine r_aload_n (pc := 62) dX8_pairs_62 rfl ?_
    refine r_iload (pc := 63) dX8_pairs_63 rfl ?_
    refine r_iconst (pc := 65) (v := 0) dX8_pairs_65 (by decide) ?_
    obtain ⟨p_3, K0⟩ := K0
    refine s_VI (pc := 66) mX8_one (ci := 8) (a := b0) (As := [.int l5, .int 0]) dX8_pairs_66 lk_X8_67 in_X8_one mo_X8_one ⟨by decide, rfl⟩ ⟨by decide, by decide⟩ (Nat.le_of_ble_eq_true rfl) k_b0 (sr_X8_one k_b0 g_b0_3 k_b0_3 p_3 ⟨by decide, by decide⟩ ?_)
    refine r_iload_n (pc := 69) dX8_pairs_69 rfl ?_
    refine r_icmp_ne (pc := 70) (tgt := 110) dX8_pairs_70 (by decide) (fun q => ?_) (fun q => ?_)
    · have K0 := K0.1 q
      exact r_le (L' := [some (.ref b0), some (.int l1), some (.int l2), some (.int l3), some (.int l4), some (.int l5), some (.int l6), none, none]) ⟨rfl, ⟨rfl, ⟨rfl, ⟨rfl, ⟨rfl, ⟨rfl, ⟨rfl, trivial⟩⟩⟩⟩⟩⟩⟩ K0
    · have K0 := K0.2 q
      refine r_aload_n (pc := 73) dX8_pairs_73 rfl ?_
      refine r_iload (pc := 74) dX8_pairs_74 rfl ?_
      refine r_iconst (pc := 76) (v := 0) dX8_pairs_76 (by decide) ?_
      obtain ⟨p_5, K0⟩ := K0
      refine s_VI (pc := 77) mX8_one (ci := 8) (a := b0) (As := [.int l6, .int 0]) dX8_pairs_77 lk_X8_67 in_X8_one mo_X8_one ⟨by decide, rfl⟩ ⟨by decide, by decide⟩ (Nat.le_of_ble_eq_true rfl) k_b0 (sr_X8_one k_b0 g_b0_3 k_b0_3 p_5 ⟨by decide, by decide⟩ ?_)
      refine r_iload_n (pc := 80) dX8_pairs_80 rfl ?_
      refine r_icmp_ne (pc := 81) (tgt := 110) dX8_pairs_81 (by decide) (fun q => ?_) (fun q => ?_)
      · have K0 := K0.1 q
        exact r_le (L' := [some (.ref b0), some (.int l1), some (.int l2), some (.int l3), some (.int l4), some (.int l5), some (.int l6), none, none]) ⟨rfl, ⟨rfl, ⟨rfl, ⟨rfl, ⟨rfl, ⟨rfl, ⟨rfl, trivial⟩⟩⟩⟩⟩⟩⟩ K0
      · have K0 := K0.2 q
        refine r_aload_n (pc := 84) dX8_pairs_84 rfl ?_
        refine r_iload (pc := 85) dX8_pairs_85 rfl ?_
        refine r_iconst (pc := 87) (v := 1) dX8_pairs_87 (by decide) ?_
        refine s_VI (pc := 88) mX8_one (ci := 8) (a := b0) (As := [.int l5, .int 1]) dX8_pairs_88 lk_X8_67 in_X8_one mo_X8_one ⟨by decide, rfl⟩ ⟨by decide, by decide⟩ (Nat.le_of_ble_eq_true rfl) k_b0 (sr_X8_one k_b0 g_b0_3 k_b0_3 p_3 ⟨by decide, by decide⟩ ?_)
        refine r_iload_n (pc := 91) dX8_pairs_91 rfl ?_
        refine r_icmp_ne (pc := 92) (tgt := 110) dX8_pairs_92 (by decide) (fun q => ?_) (fun q => ?_)
        · have K0 := K0.1 q
          exact r_le (L' := [some (.ref b0), some (.int l1), some (.int l2), some (.int l3), some (.int l4), some (.int l5), some (.int l6), none, none]) ⟨rfl, ⟨rfl, ⟨rfl, ⟨rfl, ⟨rfl, ⟨rfl, ⟨rfl, trivial⟩⟩⟩⟩⟩⟩⟩ K0
        · have K0 := K0.2 q
          refine r_aload_n (pc := 95) dX8_pairs_95 rfl ?_
          refine r_iload (pc := 96) dX8_pairs_96 rfl ?_
          refine r_iconst (pc := 98) (v := 1) dX8_pairs_98 (by decide) ?_
          refine s_VI (pc := 99) mX8_one (ci := 8) (a := b0) (As := [.int l6, .int 1]) dX8_pairs_99 lk_X8_67 in_X8_one mo_X8_one ⟨by decide, rfl⟩ ⟨by decide, by decide⟩ (Nat.le_of_ble_eq_true rfl) k_b0 (sr_X8_one k_b0 g_b0_3 k_b0_3 p_5 ⟨by decide, by decide⟩ ?_)
          refine r_iload_n (pc := 102) dX8_pairs_102 rfl ?_
          refine r_icmp_ne (pc := 103) (tgt := 110) dX8_pairs_103 (by decide) (fun q => ?_) (fun q => ?_)
          · have K0 := K0.1 q
            exact r_le (L' := [some (.ref b0), some (.int l1), some (.int l2), some (.int l3), some (.int l4), some (.int l5), some (.int l6), none, none]) ⟨rfl, ⟨rfl, ⟨rfl, ⟨rfl, ⟨rfl, ⟨rfl, ⟨rfl, trivial⟩⟩⟩⟩⟩⟩⟩ K0
          · have K0 := K0.2 q
            refine r_iconst (pc := 106) (v := 1) dX8_pairs_106 (by decide) ?_
            refine r_goto (pc := 107) (tgt := 111) dX8_pairs_107 (by decide) ?_
            refine r_istore (pc := 111) dX8_pairs_111 (by decide) ?_
            refine r_aload_n (pc := 113) (L := [some (.ref b0), some (.int l1), some (.int l2), some (.int l3), some (.int l4), some (.int l5), some (.int l6), some (.int 1), none]) dX8_pairs_113 rfl ?_
            refine r_iload (pc := 114) dX8_pairs_114 rfl ?_
            refine r_iconst (pc := 116) (v := 3) dX8_pairs_116 (by decide) ?_
            refine s_VI (pc := 117) mX8_one (ci := 8) (a := b0) (As := [.int l5, .int 3]) dX8_pairs_117 lk_X8_67 in_X8_one mo_X8_one ⟨by decide, rfl⟩ ⟨by decide, by decide⟩ (Nat.le_of_ble_eq_true rfl) k_b0 (sr_X8_one k_b0 g_b0_3 k_b0_3 p_3 ⟨by decide, by decide⟩ ?_)
            refine r_if_ne (pc := 120) (tgt := 163) dX8_pairs_120 (by decide) (fun q => ?_) (fun q => ?_)
            · have K0 := K0.1 q
              exact r_le (L' := [some (.ref b0), some (.int l1), some (.int l2), some (.int l3), some (.int l4), some (.int l5), some (.int l6), some (.int 1), none]) ⟨rfl, ⟨rfl, ⟨rfl, ⟨rfl, ⟨rfl, ⟨rfl, ⟨rfl, ⟨rfl, trivial⟩⟩⟩⟩⟩⟩⟩⟩ K0
            · have K0 := K0.2 q
              refine r_aload_n (pc := 123) dX8_pairs_123 rfl ?_
              refine r_iload (pc := 124) dX8_pairs_124 rfl ?_
              refine r_iconst (pc := 126) (v := 3) dX8_pairs_126 (by decide) ?_
              refine s_VI (pc := 127) mX8_one (ci := 8) (a := b0) (As := [.int l6, .int 3]) dX8_pairs_127 lk_X8_67 in_X8_one mo_X8_one ⟨by decide, rfl⟩ ⟨by decide, by decide⟩ (Nat.le_of_ble_eq_true rfl) k_b0 (sr_X8_one k_b0 g_b0_3 k_b0_3 p_5 ⟨by decide, by decide⟩ ?_)
              refine r_iconst (pc := 130) (v := 1) dX8_pairs_130 (by decide) ?_
              refine r_icmp_ne (pc := 131) (tgt := 163) dX8_pairs_131 (by decide) (fun q => ?_) (fun q => ?_)
              · have K0 := K0.1 q
                exact r_le (L' := [some (.ref b0), some (.int l1), some (.int l2), some (.int l3), some (.int l4), some (.int l5), some (.int l6), some (.int 1), none]) ⟨rfl, ⟨rfl, ⟨rfl, ⟨rfl, ⟨rfl, ⟨rfl, ⟨rfl, ⟨rfl, trivial⟩⟩⟩⟩⟩⟩⟩⟩ K0
              · have K0 := K0.2 q
                refine r_aload_n (pc := 134) dX8_pairs_134 rfl ?_
                refine r_iload (pc := 135) dX8_pairs_135 rfl ?_
                refine r_iconst (pc := 137) (v := 2) dX8_pairs_137 (by decide) ?_
                refine s_VI (pc := 138) mX8_one (ci := 8) (a := b0) (As := [.int l6, .int 2]) dX8_pairs_138 lk_X8_67 in_X8_one mo_X8_one ⟨by decide, rfl⟩ ⟨by decide, by decide⟩ (Nat.le_of_ble_eq_true rfl) k_b0 (sr_X8_one k_b0 g_b0_3 k_b0_3 p_5 ⟨by decide, by decide⟩ ?_)
                refine r_aload_n (pc := 141) dX8_pairs_141 rfl ?_
                refine r_iload (pc := 142) dX8_pairs_142 rfl ?_
                refine r_iconst (pc := 144) (v := 2) dX8_pairs_144 (by decide) ?_
                refine s_VI (pc := 145) mX8_one (ci := 8) (a := b0) (As := [.int l5, .int 2]) dX8_pairs_145 lk_X8_67 in_X8_one mo_X8_one ⟨by decide, rfl⟩ ⟨by decide, by decide⟩ (Nat.le_of_ble_eq_true rfl) k_b0 (sr_X8_one k_b0 g_b0_3 k_b0_3 p_3 ⟨by decide, by decide⟩ ?_)
                refine r_isub (pc := 148) dX8_pairs_148 ?_
                refine r_i2l (pc := 149) dX8_pairs_149 ?_
                refine r_lconst (pc := 150) (v := 0) dX8_pairs_150 (by decide) ?_
                refine r_iload_n (pc := 151) dX8_pairs_151 rfl ?_
                refine r_i2l (pc := 152) dX8_pairs_152 ?_
                refine s_SI (pc := 153) mX8_in (As := [.long ((((so (gi x b0_3) (l6 : Int32).toNatClampNeg 2) - (so (gi x b0_3) (l5 : Int32).toNatClampNeg 2)) : Int32).toInt64), .long 0, .long ((l3 : Int32).toInt64)]) dX8_pairs_153 lk_X8_45 st_X8_in mo_X8_in ⟨by decide, by decide⟩ (Nat.le_of_ble_eq_true rfl) (sq_X8_in (v := ((so (gi x b0_3) (l6 : Int32).toNatClampNeg 2) - (so (gi x b0_3) (l5 : Int32).toNatClampNeg 2))) (lo := 0) (hi := l3) rfl (by decide) rfl ?_)
                refine r_if_eq (pc := 156) (tgt := 163) dX8_pairs_156 (by decide) (fun q => ?_) (fun q => ?_)
                · have q := (b2i_z _).mp q
                  have K0 := K0.1 q
                  exact r_le (L' := [some (.ref b0), some (.int l1), some (.int l2), some (.int l3), some (.int l4), some (.int l5), some (.int l6), some (.int 1), none]) ⟨rfl, ⟨rfl, ⟨rfl, ⟨rfl, ⟨rfl, ⟨rfl, ⟨rfl, ⟨rfl, trivial⟩⟩⟩⟩⟩⟩⟩⟩ K0
                · have q := b2i_nz q
                  have K0 := K0.2 q
                  refine r_iconst (pc := 159) (v := 1) dX8_pairs_159 (by decide) ?_
                  refine r_goto (pc := 160) (tgt := 164) dX8_pairs_160 (by decide) ?_
                  refine r_istore (pc := 164) dX8_pairs_164 (by decide) ?_
                  refine r_iload (pc := 166) (L := [some (.ref b0), some (.int l1), some (.int l2), some (.int l3), some (.int l4), some (.int l5), some (.int l6), some (.int 1), some (.int 1)]) dX8_pairs_166 rfl ?_
                  refine r_iload (pc := 168) dX8_pairs_168 rfl ?_
                  refine r_if_eq (pc := 170) (tgt := 198) dX8_pairs_170 (by decide) (fun q => by first | exact absurd q (by decide) | exact absurd (by decide) q) (fun _ => ?_)
                  refine r_iload (pc := 173) dX8_pairs_173 rfl ?_
                  refine r_if_eq (pc := 175) (tgt := 198) dX8_pairs_175 (by decide) (fun q => by first | exact absurd q (by decide) | exact absurd (by decide) q) (fun _ => ?_)
                  refine r_aload_n (pc := 178) dX8_pairs_178 rfl ?_
                  refine r_iload (pc := 179) dX8_pairs_179 rfl ?_
                  refine s_VI (pc := 181) mX8_basisOf (ci := 8) (a := b0) (As := [.int l5]) dX8_pairs_181 lk_X8_71 in_X8_basisOf mo_X8_basisOf ⟨by decide, rfl⟩ ⟨by decide, by decide⟩ (Nat.le_of_ble_eq_true rfl) k_b0 (sr_X8_basisOf k_b0 g_b0_3 k_b0_3 p_3 ?_)
                  refine r_aload_n (pc := 184) dX8_pairs_184 rfl ?_
                  refine r_iload (pc := 185) dX8_pairs_185 rfl ?_
                  refine s_VI (pc := 187) mX8_basisOf (ci := 8) (a := b0) (As := [.int l6]) dX8_pairs_187 lk_X8_71 in_X8_basisOf mo_X8_basisOf ⟨by decide, rfl⟩ ⟨by decide, by decide⟩ (Nat.le_of_ble_eq_true rfl) k_b0 (sr_X8_basisOf k_b0 g_b0_3 k_b0_3 p_5 ?_)
                  refine r_iand (pc := 190) dX8_pairs_190 ?_
                  refine r_if_eq (pc := 191) (tgt := 198) dX8_pairs_191 (by decide) (fun q => ?_) (fun q => ?_)
                  · have K0 := K0.1 q
                    refine r_iconst (pc := 198) (v := 0) dX8_pairs_198 (by decide) ?_
                    refine r_iadd (pc := 199) dX8_pairs_199 ?_
                    refine r_istore (pc := 200) dX8_pairs_200 (by decide) ?_
                    refine r_iinc (pc := 202) (L := [some (.ref b0), some (.int l1), some (.int l2), some (.int l3), some (.int (l4 + 0)), some (.int l5), some (.int l6), some (.int 1), some (.int 1)]) (v := l6 + 1) dX8_pairs_202 rfl rfl (by decide) ?_
                    refine r_goto (pc := 205) (L := [some (.ref b0), some (.int l1), some (.int l2), some (.int l3), some (.int (l4 + 0)), some (.int l5), some (.int (l6 + 1)), some (.int 1), some (.int 1)]) (tgt := 51) dX8_pairs_205 (by decide) ?_
                    exact r_le (L' := [some (.ref b0), some (.int l1), some (.int l2), some (.int l3), some (.int (l4 + 0)), some (.int l5), some (.int (l6 + 1)), none, none]) ⟨rfl, ⟨rfl, ⟨rfl, ⟨rfl, ⟨rfl, ⟨rfl, ⟨rfl, trivial⟩⟩⟩⟩⟩⟩⟩ K0
                  · have K0 := K0.2 q
                    refine r_iconst (pc := 194) (v := 1) dX8_pairs_194 (by decide) ?_
                    refine r_goto (pc := 195) (tgt := 199) dX8_pairs_195 (by decide) ?_
                    refine r_iadd (pc := 199) dX8_pairs_199 ?_
                    refine r_istore (pc := 200) dX8_pairs_200 (by decide) ?_
                    refine r_iinc (pc := 202) (L := [some (.ref b0), some (.int l1), some (.int l2), some (.int l3), some (.int (l4 + 1)), some (.int l5), some (.int l6), some (.int 1), some (.int 1)]) (v := l6 + 1) dX8_pairs_202 rfl rfl (by decide) ?_
                    refine r_goto (pc := 205) (L := [some (.ref b0), some (.int l1), some (.int l2), some (.int l3), some (.int (l4 + 1)), some (.int l5), some (.int (l6 + 1)), some (.int 1), some (.int 1)]) (tgt := 51) dX8_pairs_205 (by decide) ?_
                    exact r_le (L' := [some (.ref b0), some (.int l1), some (.int l2), some (.int l3), some (.int (l4 + 1)), some (.int l5), some (.int (l6 + 1)), none, none]) ⟨rfl, ⟨rfl, ⟨rfl, ⟨rfl, ⟨rfl, ⟨rfl, ⟨rfl, trivial⟩⟩⟩⟩⟩⟩⟩ K0
set_option maxHeartbeats 2000000 in
theorem v_X8_pairs_110 {K : Sh} {x : Cn} {Q : Int32 → Cn → Prop} {b0 : Nat} {l1 : Int32} {l2 : Int32} {l3 : Int32} {l4 : Int32} {l5 : Int32} {l6 : Int32} {b0_3 : Nat} {n_b0_3 : Nat} (k_b0 : kk K b0 = some (8, 0)) (g_b0_3 : gr x b0 3 = some b0_3) (k_b0_3 : kk K b0_3 = some (20, n_b0_3)) (K0 : (l24 l5 n_b0_3) ∧ ((¬ (so (gi x b0_3) (l5 : Int32).toNatClampNeg 3) = 0 → (GI mX8_pairs 163 [some (.ref b0), some (.int l1), some (.int l2), some (.int l3), some (.int l4), some (.int l5), some (.int l6), some (.int 0), none] [] K x Q)) ∧ ((so (gi x b0_3) (l5 : Int32).toNatClampNeg 3) = 0 → ((l24 l6 n_b0_3) ∧ ((¬ (so (gi x b0_3) (l6 : Int32).toNatClampNeg 3) = 1 → (GI mX8_pairs 163 [some (.ref b0), some (.int l1), some (.int l2), some (.int l3), some (.int l4), some (.int l5), some (.int l6), some (.int 0), none] [] K x Q)) ∧ ((so (gi x b0_3) (l6 : Int32).toNatClampNeg 3) = 1 → ((¬ (0 ≤ ((so (gi x b0_3) (l6 : Int32).toNatClampNeg 2) - (so (gi x b0_3) (l5 : Int32).toNatClampNeg 2)) ∧ ((so (gi x b0_3) (l6 : Int32).toNatClampNeg 2) - (so (gi x b0_3) (l5 : Int32).toNatClampNeg 2)) ≤ l3) → (GI mX8_pairs 163 [some (.ref b0), some (.int l1), some (.int l2), some (.int l3), some (.int l4), some (.int l5), some (.int l6), some (.int 0), none] [] K x Q)) ∧ ((0 ≤ ((so (gi x b0_3) (l6 : Int32).toNatClampNeg 2) - (so (gi x b0_3) (l5 : Int32).toNatClampNeg 2)) ∧ ((so (gi x b0_3) (l6 : Int32).toNatClampNeg 2) - (so (gi x b0_3) (l5 : Int32).toNatClampNeg 2)) ≤ l3) → (GI mX8_pairs 51 [some (.ref b0), some (.int l1), some (.int l2), some (.int l3), some (.int (l4 + 0)), some (.int l5), some (.int (l6 + 1)), none, none] [] K x Q))))))))) : GI mX8_pairs 110 [some (.ref b0), some (.int l1), some (.int l2), some (.int l3), some (.int l4), some (.int l5), some (.int l6), none, none] [] K x Q := by
  show mGM mX8_pairs 110 [some (.ref b0), some (.int l1), some (.int l2), some (.int l3), some (.int l4), some (.int l5), some (.int l6), none, none] [] (hp K x) (PI K Q)
  refine r_iconst (pc := 110) (v := 0) dX8_pairs_110 (by decide) ?_
  refine r_istore (pc := 111) dX8_pairs_111 (by decide) ?_
  refine r_aload_n (pc := 113) (L := [some (.ref b0), some (.int l1), some (.int l2), some (.int l3), some (.int l4), some (.int l5), some (.int l6), some (.int 0), none]) dX8_pairs_113 rfl ?_
  refine r_iload (pc := 114) dX8_pairs_114 rfl ?_
  refine r_iconst (pc := 116) (v := 3) dX8_pairs_116 (by decide) ?_
  obtain ⟨p_1, K0⟩ := K0
  refine s_VI (pc := 117) mX8_one (ci := 8) (a := b0) (As := [.int l5, .int 3]) dX8_pairs_117 lk_X8_67 in_X8_one mo_X8_one ⟨by decide, rfl⟩ ⟨by decide, by decide⟩ (Nat.le_of_ble_eq_true rfl) k_b0 (sr_X8_one k_b0 g_b0_3 k_b0_3 p_1 ⟨by decide, by decide⟩ ?_)
  refine r_if_ne (pc := 120) (tgt := 163) dX8_pairs_120 (by decide) (fun q => ?_) (fun q => ?_)
  · have K0 := K0.1 q
    exact r_le (L' := [some (.ref b0), some (.int l1), some (.int l2), some (.int l3), some (.int l4), some (.int l5), some (.int l6), some (.int 0), none]) ⟨rfl, ⟨rfl, ⟨rfl, ⟨rfl, ⟨rfl, ⟨rfl, ⟨rfl, ⟨rfl, trivial⟩⟩⟩⟩⟩⟩⟩⟩ K0
  · have K0 := K0.2 q
    refine r_aload_n (pc := 123) dX8_pairs_123 rfl ?_
    refine r_iload (pc := 124) dX8_pairs_124 rfl ?_
    refine r_iconst (pc := 126) (v := 3) dX8_pairs_126 (by decide) ?_
    obtain ⟨p_3, K0⟩ := K0
    refine s_VI (pc := 127) mX8_one (ci := 8) (a := b0) (As := [.int l6, .int 3]) dX8_pairs_127 lk_X8_67 in_X8_one mo_X8_one ⟨by decide, rfl⟩ ⟨by decide, by decide⟩ (Nat.le_of_ble_eq_true rfl) k_b0 (sr_X8_one k_b0 g_b0_3 k_b0_3 p_3 ⟨by decide, by decide⟩ ?_)
    refine r_iconst (pc := 130) (v := 1) dX8_pairs_130 (by decide) ?_
    refine r_icmp_ne (pc := 131) (tgt := 163) dX8_pairs_131 (by decide) (fun q => ?_) (fun q => ?_)
    · have K0 := K0.1 q
      exact r_le (L' := [some (.ref b0), some (.int l1), some (.int l2), some (.int l3), some (.int l4), some (.int l5), some (.int l6), some (.int 0), none]) ⟨rfl, ⟨rfl, ⟨rfl, ⟨rfl, ⟨rfl, ⟨rfl, ⟨rfl, ⟨rfl, trivial⟩⟩⟩⟩⟩⟩⟩⟩ K0
    · have K0 := K0.2 q
      refine r_aload_n (pc := 134) dX8_pairs_134 rfl ?_
      refine r_iload (pc := 135) dX8_pairs_135 rfl ?_
      refine r_iconst (pc := 137) (v := 2) dX8_pairs_137 (by decide) ?_
      refine s_VI (pc := 138) mX8_one (ci := 8) (a := b0) (As := [.int l6, .int 2]) dX8_pairs_138 lk_X8_67 in_X8_one mo_X8_one ⟨by decide, rfl⟩ ⟨by decide, by decide⟩ (Nat.le_of_ble_eq_true rfl) k_b0 (sr_X8_one k_b0 g_b0_3 k_b0_3 p_3 ⟨by decide, by decide⟩ ?_)
      refine r_aload_n (pc := 141) dX8_pairs_141 rfl ?_
      refine r_iload (pc := 142) dX8_pairs_142 rfl ?_
      refine r_iconst (pc := 144) (v := 2) dX8_pairs_144 (by decide) ?_
      refine s_VI (pc := 145) mX8_one (ci := 8) (a := b0) (As := [.int l5, .int 2]) dX8_pairs_145 lk_X8_67 in_X8_one mo_X8_one ⟨by decide, rfl⟩ ⟨by decide, by decide⟩ (Nat.le_of_ble_eq_true rfl) k_b0 (sr_X8_one k_b0 g_b0_3 k_b0_3 p_1 ⟨by decide, by decide⟩ ?_)
      refine r_isub (pc := 148) dX8_pairs_148 ?_
      refine r_i2l (pc := 149) dX8_pairs_149 ?_
      refine r_lconst (pc := 150) (v := 0) dX8_pairs_150 (by decide) ?_
      refine r_iload_n (pc := 151) dX8_pairs_151 rfl ?_
      refine r_i2l (pc := 152) dX8_pairs_152 ?_
      refine s_SI (pc := 153) mX8_in (As := [.long ((((so (gi x b0_3) (l6 : Int32).toNatClampNeg 2) - (so (gi x b0_3) (l5 : Int32).toNatClampNeg 2)) : Int32).toInt64), .long 0, .long ((l3 : Int32).toInt64)]) dX8_pairs_153 lk_X8_45 st_X8_in mo_X8_in ⟨by decide, by decide⟩ (Nat.le_of_ble_eq_true rfl) (sq_X8_in (v := ((so (gi x b0_3) (l6 : Int32).toNatClampNeg 2) - (so (gi x b0_3) (l5 : Int32).toNatClampNeg 2))) (lo := 0) (hi := l3) rfl (by decide) rfl ?_)
      refine r_if_eq (pc := 156) (tgt := 163) dX8_pairs_156 (by decide) (fun q => ?_) (fun q => ?_)
      · have q := (b2i_z _).mp q
        have K0 := K0.1 q
        exact r_le (L' := [some (.ref b0), some (.int l1), some (.int l2), some (.int l3), some (.int l4), some (.int l5), some (.int l6), some (.int 0), none]) ⟨rfl, ⟨rfl, ⟨rfl, ⟨rfl, ⟨rfl, ⟨rfl, ⟨rfl, ⟨rfl, trivial⟩⟩⟩⟩⟩⟩⟩⟩ K0
      · have q := b2i_nz q
        have K0 := K0.2 q
        refine r_iconst (pc := 159) (v := 1) dX8_pairs_159 (by decide) ?_
        refine r_goto (pc := 160) (tgt := 164) dX8_pairs_160 (by decide) ?_
        refine r_istore (pc := 164) dX8_pairs_164 (by decide) ?_
        refine r_iload (pc := 166) (L := [some (.ref b0), some (.int l1), some (.int l2), some (.int l3), some (.int l4), some (.int l5), some (.int l6), some (.int 0), some (.int 1)]) dX8_pairs_166 rfl ?_
        refine r_iload (pc := 168) dX8_pairs_168 rfl ?_
        refine r_if_eq (pc := 170) (tgt := 198) dX8_pairs_170 (by decide) (fun _ => ?_) (fun q => by first | exact absurd q (by decide) | exact absurd (by decide) q)
        refine r_iconst (pc := 198) (v := 0) dX8_pairs_198 (by decide) ?_
        refine r_iadd (pc := 199) dX8_pairs_199 ?_
        refine r_istore (pc := 200) dX8_pairs_200 (by decide) ?_
        refine r_iinc (pc := 202) (L := [some (.ref b0), some (.int l1), some (.int l2), some (.int l3), some (.int (l4 + 0)), some (.int l5), some (.int l6), some (.int 0), some (.int 1)]) (v := l6 + 1) dX8_pairs_202 rfl rfl (by decide) ?_
        refine r_goto (pc := 205) (L := [some (.ref b0), some (.int l1), some (.int l2), some (.int l3), some (.int (l4 + 0)), some (.int l5), some (.int (l6 + 1)), some (.int 0), some (.int 1)]) (tgt := 51) dX8_pairs_205 (by decide) ?_
        exact r_le (L' := [some (.ref b0), some (.int l1), some (.int l2), some (.int l3), some (.int (l4 + 0)), some (.int l5), some (.int (l6 + 1)), none, none]) ⟨rfl, ⟨rfl, ⟨rfl, ⟨rfl, ⟨rfl, ⟨rfl, ⟨rfl, trivial⟩⟩⟩⟩⟩⟩⟩ K0
set_option maxHeartbeats 2000000 in
theorem v_X8_pairs_163 {K : Sh} {x : Cn} {Q : Int32 → Cn → Prop} {b0 : Nat} {l1 : Int32} {l2 : Int32} {l3 : Int32} {l4 : Int32} {l5 : Int32} {l6 : Int32} {l7 : Int32}   (K0 : (l7 = 0 → (GI mX8_pairs 51 [some (.ref b0), some (.int l1), some (.int l2), some (.int l3), some (.int (l4 + 0)), some (.int l5), some (.int (l6 + 1)), none, none] [] K x Q)) ∧ (¬ l7 = 0 → (GI mX8_pairs 51 [some (.ref b0), some (.int l1), some (.int l2), some (.int l3), some (.int (l4 + 0)), some (.int l5), some (.int (l6 + 1)), none, none] [] K x Q))) : GI mX8_pairs 163 [some (.ref b0), some (.int l1), some (.int l2), some (.int l3), some (.int l4), some (.int l5), some (.int l6), some (.int l7), none] [] K x Q := by
  show mGM mX8_pairs 163 [some (.ref b0), some (.int l1), some (.int l2), some (.int l3), some (.int l4), some (.int l5), some (.int l6), some (.int l7), none] [] (hp K x) (PI K Q)
  refine r_iconst (pc := 163) (v := 0) dX8_pairs_163 (by decide) ?_
  refine r_istore (pc := 164) dX8_pairs_164 (by decide) ?_
  refine r_iload (pc := 166) (L := [some (.ref b0), some (.int l1), some (.int l2), some (.int l3), some (.int l4), some (.int l5), some (.int l6), some (.int l7), some (.int 0)]) dX8_pairs_166 rfl ?_
  refine r_iload (pc := 168) dX8_pairs_168 rfl ?_
  refine r_if_eq (pc := 170) (tgt := 198) dX8_pairs_170 (by decide) (fun q => ?_) (fun q => ?_)
  · have K0 := K0.1 q
    refine r_iconst (pc := 198) (v := 0) dX8_pairs_198 (by decide) ?_
    refine r_iadd (pc := 199) dX8_pairs_199 ?_
    refine r_istore (pc := 200) dX8_pairs_200 (by decide) ?_
    refine r_iinc (pc := 202) (L := [some (.ref b0), some (.int l1), some (.int l2), some (.int l3), some (.int (l4 + 0)), some (.int l5), some (.int l6), some (.int l7), some (.int 0)]) (v := l6 + 1) dX8_pairs_202 rfl rfl (by decide) ?_
    refine r_goto (pc := 205) (L := [some (.ref b0), some (.int l1), some (.int l2), some (.int l3), some (.int (l4 + 0)), some (.int l5), some (.int (l6 + 1)), some (.int l7), some (.int 0)]) (tgt := 51) dX8_pairs_205 (by decide) ?_
    exact r_le (L' := [some (.ref b0), some (.int l1), some (.int l2), some (.int l3), some (.int (l4 + 0)), some (.int l5), some (.int (l6 + 1)), none, none]) ⟨rfl, ⟨rfl, ⟨rfl, ⟨rfl, ⟨rfl, ⟨rfl, ⟨rfl, trivial⟩⟩⟩⟩⟩⟩⟩ K0
  · have K0 := K0.2 q
    refine r_iload (pc := 173) dX8_pairs_173 rfl ?_
    refine r_if_eq (pc := 175) (tgt := 198) dX8_pairs_175 (by decide) (fun _ => ?_) (fun q => by first | exact absurd q (by decide) | exact absurd (by decide) q)
    refine r_iconst (pc := 198) (v := 0) dX8_pairs_198 (by decide) ?_
    refine r_iadd (pc := 199) dX8_pairs_199 ?_
    refine r_istore (pc := 200) dX8_pairs_200 (by decide) ?_
    refine r_iinc (pc := 202) (L := [some (.ref b0), some (.int l1), some (.int l2), some (.int l3), some (.int (l4 + 0)), some (.int l5), some (.int l6), some (.int l7), some (.int 0)]) (v := l6 + 1) dX8_pairs_202 rfl rfl (by decide) ?_
    refine r_goto (pc := 205) (L := [some (.ref b0), some (.int l1), some (.int l2), some (.int l3), some (.int (l4 + 0)), some (.int l5), some (.int (l6 + 1)), some (.int l7), some (.int 0)]) (tgt := 51) dX8_pairs_205 (by decide) ?_
    exact r_le (L' := [some (.ref b0), some (.int l1), some (.int l2), some (.int l3), some (.int (l4 + 0)), some (.int l5), some (.int (l6 + 1)), none, none]) ⟨rfl, ⟨rfl, ⟨rfl, ⟨rfl, ⟨rfl, ⟨rfl, ⟨rfl, trivial⟩⟩⟩⟩⟩⟩⟩ K0
theorem eq_pairs (a b c : Int32) : Both mX7_pairs mX8_pairs [.int a, .int b, .int c] := by
  intro x R
  obtain ⟨W, C, S, A, N, E, ⟨hc, -⟩, -⟩ := R.sea
  have hn := E.nums
  have ht := Rel.t2 E
  have hS : S ≤ 24 := hn.2.2.2.2.2.2.1
  have hC : C ≤ 8 := hn.2.2.2.2.2.1
  have iC := inN' (v := a) (n := C) (by omega)
  have rf : mSI mX8_pairs [.ref 717, .int a, .int b, .int c] KW x (fun r' z => (if (0 ≤ a ∧ a < nI C) ∧ (0 < nI W ∧ 0 ≤ b ∧ b < 7) ∧ (0 ≤ c ∧ c ≤ 23) then accT (stP (gi x 718) S a b c) S 0 else -2) = r' ∧ Rel z) := by
    refine v_X8_pairs_0 km R.2.1.1 km1 ⟨v0 (k := 1) (by decide) rfl rfl, ?_⟩
    rw [ht.2.1, iC, ht.1, d7]
    refine ⟨fun z => ⟨if_neg (fun w => z w.1), R⟩, fun z => ⟨v0 (k := 0) (by decide) rfl rfl, fun z2 => ⟨if_neg (fun w => z2 w.2.1), R⟩, fun z2 => ⟨fun z3 => ?_, fun z3 => ⟨if_neg (fun w => z3 w.2.2), R⟩⟩⟩⟩
    rw [if_pos ⟨z, z2, z3⟩]
    refine lp_acc (stP (gi x 718) S a b c) (fun s n => GI mX8_pairs 37 [some (.ref 717), some (.int a), some (.int b), some (.int c), some (.int n), some (.int (nI s)), none, none, none] [] KW x _) S 0 ?_ (fun s n hs n1 => ?_)
    · exact v_X8_pairs_37 km R.2.1.1 km1 ⟨v0 (k := 2) (by decide) rfl rfl, fun _ => ⟨rfl, R⟩, fun z => absurd (by rw [ht.2.2.1]; exact Int32.le_refl _) z⟩
    · refine v_X8_pairs_37 km R.2.1.1 km1 ⟨v0 (k := 2) (by decide) rfl rfl, fun z => absurd (by rw [ht.2.2.1] at z; exact z) (nI_ge hs (by omega)), fun _ => ?_⟩
      refine lp_acc (inc (fun t => ppo (gi x 718) a b s ∧ pcr (gi x 718) c s t)) (fun t n => GI mX8_pairs 51 [some (.ref 717), some (.int a), some (.int b), some (.int c), some (.int n), some (.int (nI s)), some (.int (nI t)), none, none] [] KW x _) S n ?_ (fun t n ht2 m1 => ?_)
      · refine v_X8_pairs_51 km R.2.1.1 km1 R.2.1.2.2.1 km1 ⟨v0 (k := 2) (by decide) rfl rfl, fun _ => ?_, fun z => absurd (by rw [ht.2.2.1]; exact Int32.le_refl _) z⟩
        rw [nI_1]
        refine n1 _ ?_
        unfold stP addS
        by_cases h : ppo (gi x 718) a b s
        · rw [if_pos h, inc_cg (d := pcr (gi x 718) c s) n (fun t => ⟨fun z => z.2, fun z => ⟨h, z⟩⟩)]
          exact (inc_off n S).symm
        · rw [if_neg h]
          exact (inc_no n (fun t z => h z.1) S).symm
      · have l1 : l24 (nI s) 518 := l24_nI (by omega) rfl
        have l2 : l24 (nI t) 518 := l24_nI (by omega) rfl
        have m2 : ¬ (ppo (gi x 718) a b s ∧ pcr (gi x 718) c s t) → GI mX8_pairs 51 [some (.ref 717), some (.int a), some (.int b), some (.int c), some (.int (n + 0)), some (.int (nI s)), some (.int (nI t + 1)), none, none] [] KW x (fun r' z => accT (stP (gi x 718) S a b c) S 0 = r' ∧ Rel z) := fun z => by rw [Int32.add_zero, nI_1]; exact m1 _ (if_neg z)
        have m163 : ∀ v : Int32, ¬ (ppo (gi x 718) a b s ∧ pcr (gi x 718) c s t) → GI mX8_pairs 163 [some (.ref 717), some (.int a), some (.int b), some (.int c), some (.int n), some (.int (nI s)), some (.int (nI t)), some (.int v), none] [] KW x (fun r' z => accT (stP (gi x 718) S a b c) S 0 = r' ∧ Rel z) := fun v z => v_X8_pairs_163 ⟨fun _ => m2 z, fun _ => m2 z⟩
        have m110 : ¬ (ppo (gi x 718) a b s ∧ pcr (gi x 718) c s t) → GI mX8_pairs 110 [some (.ref 717), some (.int a), some (.int b), some (.int c), some (.int n), some (.int (nI s)), some (.int (nI t)), none, none] [] KW x (fun r' z => accT (stP (gi x 718) S a b c) S 0 = r' ∧ Rel z) := fun z => v_X8_pairs_110 km R.2.1.2.2.1 km1 ⟨l1, fun _ => m163 _ z, fun _ => ⟨l2, fun _ => m163 _ z, fun _ => ⟨fun _ => m163 _ z, fun _ => m2 z⟩⟩⟩
        refine v_X8_pairs_51 km R.2.1.1 km1 R.2.1.2.2.1 km1 ⟨v0 (k := 2) (by decide) rfl rfl, fun z => absurd (by rw [ht.2.2.1] at z; exact z) (nI_ge ht2 (by omega)), fun _ => ⟨l1, ?_⟩⟩
        rw [nI_clamp (show s < 2 ^ 31 by omega), nI_clamp (show t < 2 ^ 31 by omega)]
        refine ⟨fun z => m110 (fun w => z w.1.1), fun z1 => ⟨l2, fun z => m110 (fun w => z (w.2.1.trans w.1.1)), fun z2 => ⟨fun z => m110 (fun w => z w.1.2.1), fun z3 => ⟨fun z => m110 (fun w => z (w.2.2.1.trans w.1.2.1)), fun z4 => ⟨fun z => m163 _ (fun w => z w.1.2.2), fun z5 => ⟨fun z => m163 _ (fun w => z w.2.2.2.1), fun z6 => ⟨fun z => m163 _ (fun w => z w.2.2.2.2.1), fun z7 => ⟨fun z => m2 (fun w => w.2.2.2.2.2 (by rw [Int32.and_comm]; exact z)), fun z8 => ?_⟩⟩⟩⟩⟩⟩⟩⟩
        rw [nI_1]
        exact m1 _ (if_pos ⟨⟨z1, z3, z5⟩, z2.trans z1.symm, z4.trans z3.symm, z6, z7, fun z => z8 (by rw [Int32.and_comm]; exact z)⟩)
  refine v_X7_pairs_0 k0 R.1.2.2.1 (by decide) R.1.2.1 (ks0 E.1) ?_
  rw [hc, hn.1]
  refine ⟨fun z => by rwa [if_neg (fun w => z w.1)] at rf, fun z => ⟨fun z2 => by rwa [if_neg (fun w => z2 w.2.1)] at rf, fun z2 => ⟨fun z3 => ?_, fun z3 => by rwa [if_neg (fun w => z3 w.2.2)] at rf⟩⟩⟩
  rw [if_pos ⟨z, z2, z3⟩] at rf
  have hb : ¬ b = -1 := by
    intro e
    rw [e] at z2
    exact absurd z2.2.1 (by decide)
  refine lp_acc (stP (gi x 718) S a b c) (fun s n => GI mX7_pairs 35 [some (.ref 0), some (.int a), some (.int b), some (.int c), some (.int n), some (.int (nI s)), none] [] KW x _) S 0 ?_ (fun s n hs n1 => ?_)
  · exact v_X7_pairs_35 k0 R.1.2.1 (ks0 E.1) E.2.1.2.2.1 (ks3 E.1) ⟨fun _ => rf, fun z => absurd (by rw [hn.2.2.1]; exact Int32.le_refl _) z⟩
  · obtain ⟨p, e1, e2, e3, e4, -, e6⟩ := E.ser hs
    refine v_X7_pairs_35 k0 R.1.2.1 (ks0 E.1) E.2.1.2.2.1 (ks3 E.1) ⟨fun z => absurd (by rw [hn.2.2.1] at z; exact z) (nI_ge hs (by omega)), fun _ => ⟨vp_in_nI (by omega) (by decide), p, by rw [nI_clamp (by omega)]; exact e1, e2, ?_⟩⟩
    rw [e3.1 0 (by decide) (by decide), e3.1 1 (by decide) (by decide), e3.1 3 (by decide) (by decide), nI_1]
    refine ⟨fun z => n1 _ (if_neg (fun w => z ⟨w.1, Or.inr w.2.1⟩)), fun z4 => ⟨fun z => n1 _ (if_neg (fun w => z w.2.2)), fun z5 => ?_⟩⟩
    exact sp_X7_departuresBehind R.1 E hs e2 e3 (n1 _ (if_pos ⟨z4.1, z4.2.resolve_left hb, z5⟩))
end
/-! 40.fits.lean.txt -/
section
theorem ldB_nW0 {T : TT} {w : Nat} {d h b wo : Int32} (hwo : ∀ s, s < 24 → (tb wo s = true ↔ nI s = b)) : ∀ S, S ≤ 24 → ldB T S w d h 0 b = nI (nW T S w d h 0 wo) := by
  intro S
  induction S with
  | zero => intro _; rfl
  | succ S ih =>
    intro hS
    have i1 := ih (by omega)
    have hw := hwo S (by omega)
    unfold nW at i1 ⊢
    simp only [cnt]
    by_cases z : cB T S w d h 0 b
    · rw [ldB_t z, i1, if_pos (by unfold cW; simp [z.2.1, z.2.2.1, z.2.2.2.2, show tb wo S = false from Bool.eq_false_iff.mpr (fun e => z.1 (hw.mp e))]), nI_1]
    · rw [ldB_f z, i1, if_neg, Nat.add_zero]
      intro g
      unfold cW at g
      simp only [Bool.and_eq_true, decide_eq_true_eq] at g
      exact z ⟨fun e => g.1.2.2.1 (hw.mpr e), g.1.1, g.1.2.1, Or.inl (by decide), g.2⟩
theorem ldB_nW1 {T : TT} {w : Nat} {d h b wo : Int32} (hwo : ∀ s, s < 24 → (tb wo s = true ↔ nI s = b)) : ∀ S, S ≤ 24 → ldB T S w d h 1 b = nI (nW T S w d h 1 wo) := by
  intro S
  induction S with
  | zero => intro _; rfl
  | succ S ih =>
    intro hS
    have i1 := ih (by omega)
    have hw := hwo S (by omega)
    unfold nW at i1 ⊢
    simp only [cnt]
    by_cases z : cB T S w d h 1 b
    · have z3 : so T S 3 = 0 := z.2.2.2.1.resolve_left (by decide)
      rw [ldB_t z, i1, if_pos (by unfold cW; simp [z.2.1, z.2.2.1, z.2.2.2.2, z3, show tb wo S = false from Bool.eq_false_iff.mpr (fun e => z.1 (hw.mp e))]), nI_1]
    · rw [ldB_f z, i1, if_neg, Nat.add_zero]
      intro g
      unfold cW at g
      simp only [Bool.and_eq_true, decide_eq_true_eq] at g
      exact z ⟨fun e => g.1.2.2.1 (hw.mpr e), g.1.1, g.1.2.1, Or.inr (g.1.2.2.2.resolve_right (by decide)), g.2⟩
theorem wo_0 : ∀ s, s < 24 → (tb 0 s = true ↔ nI s = -1) := fun s hs => by
  rw [tb_0]
  constructor
  · intro z; cases z
  · intro z
    have := nI_pos (n := s) (by omega)
    rw [z] at this
    exact absurd (by decide) this
theorem wo_1 {t : Nat} (ht : t < 24) : ∀ s, s < 24 → (tb ((1 : Int32) <<< (nI t &&& 31)) s = true ↔ nI s = nI t) := fun s hs => by
  rw [tb_one t (by omega) s (by omega), decide_eq_true_eq, nI_eq (by omega) (by omega)]
theorem fitC_bits {T : TT} {S N : Nat} {d : Int32} {h : Nat} {way b1 b2 wo : Int32} (g : ∀ i, i < 32 → N ≤ i → tb b1 i = tb b2 i) : fitC T S N d h way b1 wo ↔ fitC T S N d h way b2 wo :=
  ⟨fun f i hi h1 h2 => f i hi (by rw [g i hi h2]; exact h1) h2, fun f i hi h1 h2 => f i hi (by rw [← g i hi h2]; exact h1) h2⟩
theorem tb_fn {W N i : Nat} (hW : W ≤ 30) (hN : N ≤ W) (hi : i < 32) (h0 : 0 < W) : tb (f_span (nI N) (nI W - 1)) i = decide (N ≤ i ∧ i < W) := by
  obtain ⟨w, rfl⟩ : ∃ w, W = w + 1 := ⟨W - 1, by omega⟩
  rw [nI_pred, tb_span0 N (by omega) w (by omega) i hi]
  apply decide_eq_decide.mpr
  omega
set_option maxHeartbeats 2000000 in
theorem v_X8_canBe_0 {K : Sh} {x : Cn} {Q : Int32 → Cn → Prop} {b0 : Nat} {l1 : Int32} {l2 : Int32} {l3 : Int32} {l4 : Int32} {l5 : Int32}   (K0 : GI mX8_canBe 3 [some (.ref b0), some (.int l1), some (.int l2), some (.int l3), some (.int l4), some (.int l5), some (.int 0)] [] K x Q) : mSI mX8_canBe [.ref b0, .int l1, .int l2, .int l3, .int l4, .int l5] K x Q := by
  refine s_I (by decide) (by simp [Value.category]) (Nat.le_of_ble_eq_true rfl) ?_
  show mGM mX8_canBe 0 [some (.ref b0), some (.int l1), some (.int l2), some (.int l3), some (.int l4), some (.int l5), none] [] (hp K x) (PI K Q)
  refine r_iconst (pc := 0) (v := 0) dX8_canBe_0 (by decide) ?_
  refine r_istore (pc := 1) dX8_canBe_1 (by decide) ?_
  exact r_le (L' := [some (.ref b0), some (.int l1), some (.int l2), some (.int l3), some (.int l4), some (.int l5), some (.int 0)]) ⟨rfl, ⟨rfl, ⟨rfl, ⟨rfl, ⟨rfl, ⟨rfl, ⟨rfl, trivial⟩⟩⟩⟩⟩⟩⟩ K0
set_option maxHeartbeats 2000000 in
theorem v_X8_canBe_3 {K : Sh} {x : Cn} {Q : Int32 → Cn → Prop} {b0 : Nat} {l1 : Int32} {l2 : Int32} {l3 : Int32} {l4 : Int32} {l5 : Int32} {l6 : Int32} {b0_3 : Nat} {n_b0_3 : Nat} (k_b0 : kk K b0 = some (8, 0)) (g_b0_3 : gr x b0 3 = some b0_3) (k_b0_3 : kk K b0_3 = some (20, n_b0_3)) (K0 : vp_in 0 n_b0_3 ∧ (((gi x b0_3 0) ≤ l6 → (Q 1 x)) ∧ (¬ (gi x b0_3 0) ≤ l6 → (vp_in 4 n_b0_3 ∧ (((f_has (l1 &&& (f_span (gi x b0_3 4) (gi x b0_3 0 - 1))) l6) → (mSI mX8_loadBut [.ref b0, .int l6, .int l2, .int l3, .int 0, .int l5] K x (fun r_6 y_5 => gr y_5 b0 3 = some b0_3 ∧ (vp_in (6 + (2 * l3)) n_b0_3 ∧ ((r_6 < (gi y_5 b0_3 ((6 + (2 * l3)) : Int32).toNatClampNeg) → ((¬ l4 = 0 → (GI mX8_canBe 3 [some (.ref b0), some (.int l1), some (.int l2), some (.int l3), some (.int l4), some (.int l5), some (.int (l6 + 1))] [] K y_5 Q)) ∧ (l4 = 0 → (mSI mX8_loadBut [.ref b0, .int l6, .int l2, .int l3, .int 1, .int l5] K y_5 (fun r_12 y_11 => gr y_11 b0 3 = some b0_3 ∧ (vp_in ((6 + (2 * l3)) + 1) n_b0_3 ∧ ((r_12 < (gi y_11 b0_3 (((6 + (2 * l3)) + 1) : Int32).toNatClampNeg) → (GI mX8_canBe 3 [some (.ref b0), some (.int l1), some (.int l2), some (.int l3), some (.int l4), some (.int l5), some (.int (l6 + 1))] [] K y_11 Q)) ∧ (¬ r_12 < (gi y_11 b0_3 (((6 + (2 * l3)) + 1) : Int32).toNatClampNeg) → (Q 0 y_11))))))))) ∧ (¬ r_6 < (gi y_5 b0_3 ((6 + (2 * l3)) : Int32).toNatClampNeg) → (Q 0 y_5))))))) ∧ (¬ (f_has (l1 &&& (f_span (gi x b0_3 4) (gi x b0_3 0 - 1))) l6) → (GI mX8_canBe 3 [some (.ref b0), some (.int l1), some (.int l2), some (.int l3), some (.int l4), some (.int l5), some (.int (l6 + 1))] [] K x Q))))))) : GI mX8_canBe 3 [some (.ref b0), some (.int l1), some (.int l2), some (.int l3), some (.int l4), some (.int l5), some (.int l6)] [] K x Q := by
  show mGM mX8_canBe 3 [some (.ref b0), some (.int l1), some (.int l2), some (.int l3), some (.int l4), some (.int l5), some (.int l6)] [] (hp K x) (PI K Q)
  refine r_iload (pc := 3) dX8_canBe_3 rfl ?_
  refine r_aload_n (pc := 5) dX8_canBe_5 rfl ?_
  refine s_getR (pc := 6) dX8_canBe_6 fl_X8_16 rfl k_b0 g_b0_3 ?_
  refine r_iconst (pc := 9) (v := 0) dX8_canBe_9 (by decide) ?_
  obtain ⟨i_1, K0⟩ := K0
  refine s_iald (pc := 10) dX8_canBe_10 k_b0_3 i_1 ?_
  refine r_icmp_ge (pc := 11) (tgt := 98) dX8_canBe_11 (by decide) (fun q => ?_) (fun q => ?_)
  · have K0 := K0.1 q
    refine r_iconst (pc := 98) (v := 1) dX8_canBe_98 (by decide) ?_
    exact s_zret rfl (by decide) dX8_canBe_99 K0
  · have K0 := K0.2 q
    refine r_iload_n (pc := 14) dX8_canBe_14 rfl ?_
    refine r_aload_n (pc := 15) dX8_canBe_15 rfl ?_
    obtain ⟨i_3, K0⟩ := K0
    refine s_VI (pc := 16) mX8_fromNow (ci := 8) (a := b0) (As := []) dX8_canBe_16 lk_X8_82 in_X8_fromNow mo_X8_fromNow ⟨by decide, rfl⟩ ⟨by decide, by decide⟩ (Nat.le_of_ble_eq_true rfl) k_b0 (sp_X8_fromNow k_b0 g_b0_3 k_b0_3 i_3 i_1 ?_)
    refine r_iand (pc := 19) dX8_canBe_19 ?_
    refine r_iload (pc := 20) dX8_canBe_20 rfl ?_
    refine s_SI (pc := 22) mX8_has (As := [.int (l1 &&& (f_span (gi x b0_3 4) (gi x b0_3 0 - 1))), .int l6]) dX8_canBe_22 lk_X8_75 st_X8_has mo_X8_has ⟨by decide, by decide⟩ (Nat.le_of_ble_eq_true rfl) (sp_X8_has  ?_)
    refine r_if_ne (pc := 25) (tgt := 31) dX8_canBe_25 (by decide) (fun q => ?_) (fun q => ?_)
    · have q := b2i_nz q
      have K0 := K0.1 q
      refine r_aload_n (pc := 31) dX8_canBe_31 rfl ?_
      refine r_iload (pc := 32) dX8_canBe_32 rfl ?_
      refine r_iload_n (pc := 34) dX8_canBe_34 rfl ?_
      refine r_iload_n (pc := 35) dX8_canBe_35 rfl ?_
      refine r_iconst (pc := 36) (v := 0) dX8_canBe_36 (by decide) ?_
      refine r_iload (pc := 37) dX8_canBe_37 rfl ?_
      refine s_VI (pc := 39) mX8_loadBut (ci := 8) (a := b0) (As := [.int l6, .int l2, .int l3, .int 0, .int l5]) dX8_canBe_39 lk_X8_86 in_X8_loadBut mo_X8_loadBut ⟨by decide, rfl⟩ ⟨by decide, by decide⟩ (Nat.le_of_ble_eq_true rfl) k_b0 (mSI_mono K0 (fun r_6 y_5 K0 => ?_))
      refine r_aload_n (pc := 42) dX8_canBe_42 rfl ?_
      obtain ⟨g_7, K0⟩ := K0
      refine s_getR (pc := 43) dX8_canBe_43 fl_X8_16 rfl k_b0 g_7 ?_
      refine r_bipush (pc := 46) (v := 6) dX8_canBe_46 (by decide) ?_
      refine r_iconst (pc := 48) (v := 2) dX8_canBe_48 (by decide) ?_
      refine r_iload_n (pc := 49) dX8_canBe_49 rfl ?_
      refine r_imul (pc := 50) dX8_canBe_50 ?_
      refine r_iadd (pc := 51) dX8_canBe_51 ?_
      obtain ⟨i_8, K0⟩ := K0
      refine s_iald (pc := 52) dX8_canBe_52 k_b0_3 i_8 ?_
      refine r_icmp_lt (pc := 53) (tgt := 58) dX8_canBe_53 (by decide) (fun q => ?_) (fun q => ?_)
      · have K0 := K0.1 q
        refine r_iload (pc := 58) dX8_canBe_58 rfl ?_
        refine r_if_ne (pc := 60) (tgt := 92) dX8_canBe_60 (by decide) (fun q => ?_) (fun q => ?_)
        · have K0 := K0.1 q
          refine r_iinc (pc := 92) (v := l6 + 1) dX8_canBe_92 rfl rfl (by decide) ?_
          refine r_goto (pc := 95) (L := [some (.ref b0), some (.int l1), some (.int l2), some (.int l3), some (.int l4), some (.int l5), some (.int (l6 + 1))]) (tgt := 3) dX8_canBe_95 (by decide) ?_
          exact r_le (L' := [some (.ref b0), some (.int l1), some (.int l2), some (.int l3), some (.int l4), some (.int l5), some (.int (l6 + 1))]) ⟨rfl, ⟨rfl, ⟨rfl, ⟨rfl, ⟨rfl, ⟨rfl, ⟨rfl, trivial⟩⟩⟩⟩⟩⟩⟩ K0
        · have K0 := K0.2 q
          refine r_aload_n (pc := 63) dX8_canBe_63 rfl ?_
          refine r_iload (pc := 64) dX8_canBe_64 rfl ?_
          refine r_iload_n (pc := 66) dX8_canBe_66 rfl ?_
          refine r_iload_n (pc := 67) dX8_canBe_67 rfl ?_
          refine r_iconst (pc := 68) (v := 1) dX8_canBe_68 (by decide) ?_
          refine r_iload (pc := 69) dX8_canBe_69 rfl ?_
          refine s_VI (pc := 71) mX8_loadBut (ci := 8) (a := b0) (As := [.int l6, .int l2, .int l3, .int 1, .int l5]) dX8_canBe_71 lk_X8_86 in_X8_loadBut mo_X8_loadBut ⟨by decide, rfl⟩ ⟨by decide, by decide⟩ (Nat.le_of_ble_eq_true rfl) k_b0 (mSI_mono K0 (fun r_12 y_11 K0 => ?_))
          refine r_aload_n (pc := 74) dX8_canBe_74 rfl ?_
          obtain ⟨g_13, K0⟩ := K0
          refine s_getR (pc := 75) dX8_canBe_75 fl_X8_16 rfl k_b0 g_13 ?_
          refine r_bipush (pc := 78) (v := 6) dX8_canBe_78 (by decide) ?_
          refine r_iconst (pc := 80) (v := 2) dX8_canBe_80 (by decide) ?_
          refine r_iload_n (pc := 81) dX8_canBe_81 rfl ?_
          refine r_imul (pc := 82) dX8_canBe_82 ?_
          refine r_iadd (pc := 83) dX8_canBe_83 ?_
          refine r_iconst (pc := 84) (v := 1) dX8_canBe_84 (by decide) ?_
          refine r_iadd (pc := 85) dX8_canBe_85 ?_
          obtain ⟨i_14, K0⟩ := K0
          refine s_iald (pc := 86) dX8_canBe_86 k_b0_3 i_14 ?_
          refine r_icmp_lt (pc := 87) (tgt := 92) dX8_canBe_87 (by decide) (fun q => ?_) (fun q => ?_)
          · have K0 := K0.1 q
            refine r_iinc (pc := 92) (v := l6 + 1) dX8_canBe_92 rfl rfl (by decide) ?_
            refine r_goto (pc := 95) (L := [some (.ref b0), some (.int l1), some (.int l2), some (.int l3), some (.int l4), some (.int l5), some (.int (l6 + 1))]) (tgt := 3) dX8_canBe_95 (by decide) ?_
            exact r_le (L' := [some (.ref b0), some (.int l1), some (.int l2), some (.int l3), some (.int l4), some (.int l5), some (.int (l6 + 1))]) ⟨rfl, ⟨rfl, ⟨rfl, ⟨rfl, ⟨rfl, ⟨rfl, ⟨rfl, trivial⟩⟩⟩⟩⟩⟩⟩ K0
          · have K0 := K0.2 q
            refine r_iconst (pc := 90) (v := 0) dX8_canBe_90 (by decide) ?_
            exact s_zret rfl (by decide) dX8_canBe_91 K0
      · have K0 := K0.2 q
        refine r_iconst (pc := 56) (v := 0) dX8_canBe_56 (by decide) ?_
        exact s_zret rfl (by decide) dX8_canBe_57 K0
    · have q := (b2i_z _).mp q
      have K0 := K0.2 q
      refine r_goto (pc := 28) (tgt := 92) dX8_canBe_28 (by decide) ?_
      refine r_iinc (pc := 92) (v := l6 + 1) dX8_canBe_92 rfl rfl (by decide) ?_
      refine r_goto (pc := 95) (L := [some (.ref b0), some (.int l1), some (.int l2), some (.int l3), some (.int l4), some (.int l5), some (.int (l6 + 1))]) (tgt := 3) dX8_canBe_95 (by decide) ?_
      exact r_le (L' := [some (.ref b0), some (.int l1), some (.int l2), some (.int l3), some (.int l4), some (.int l5), some (.int (l6 + 1))]) ⟨rfl, ⟨rfl, ⟨rfl, ⟨rfl, ⟨rfl, ⟨rfl, ⟨rfl, trivial⟩⟩⟩⟩⟩⟩⟩ K0
section
variable {x : Cn} {Q : Int32 → Cn → Prop}
theorem sp_X8_canBe {t : Nat} (M : MRf x t) (ht : kk KW t = some (20, 518)) {W C S A N : Nat} (F : WF (gi x t) W C S A N) {d way bits b wo : Int32} {h : Nat} (hh : h < 24) (hw : way = 0 ∨ way = 1) (hb : ∀ i, i < 32 → tb bits i = true → N ≤ i → i < W) (hwo : ∀ s, s < 24 → (tb wo s = true ↔ nI s = b)) (k : Q (bP (fitC (gi x t) S N d h way bits wo)) x) : mSI mX8_canBe [.ref 717, .int bits, .int d, .int (nI h), .int way, .int b] KW x Q := by
  obtain ⟨t0, t1, hW, t2, t3, t4, hS, t6, t7, t8, hN, hl, -, -⟩ := F
  have key : ∀ n w, w + n = W → (∀ i, i < w → tb bits i = true → N ≤ i → ¬ gi x t (6 + 2 * h) ≤ nI (nW (gi x t) S i d (nI h) 0 wo) ∧ (¬ way = 1 → ¬ gi x t (7 + 2 * h) ≤ nI (nW (gi x t) S i d (nI h) 1 wo))) → GI mX8_canBe 3 [some (.ref 717), some (.int bits), some (.int d), some (.int (nI h)), some (.int way), some (.int b), some (.int (nI w))] [] KW x Q := by
    intro n
    induction n with
    | zero =>
      intro w hw2 g
      refine v_X8_canBe_3 km M.2.2.1 ht ⟨v0 (k := 0) (by decide) rfl rfl, fun _ => ?_, fun z => absurd (by rw [t0]; exact nI_le (by omega) (by omega)) z⟩
      exact (bP_k k).1 (fun i hi h1 h2 => g i (by have := hb i hi h1 h2; omega) h1 h2)
    | succ n ih =>
      intro w hw2 g
      have nx : (tb bits w = true → N ≤ w → ¬ gi x t (6 + 2 * h) ≤ nI (nW (gi x t) S w d (nI h) 0 wo) ∧ (¬ way = 1 → ¬ gi x t (7 + 2 * h) ≤ nI (nW (gi x t) S w d (nI h) 1 wo))) → GI mX8_canBe 3 [some (.ref 717), some (.int bits), some (.int d), some (.int (nI h)), some (.int way), some (.int b), some (.int (nI w + 1))] [] KW x Q := by
        intro gg
        rw [nI_1]
        refine ih (w + 1) (by omega) (fun i hi => ?_)
        by_cases c : i = w
        · rw [c]; exact gg
        · exact g i (by omega)
      refine v_X8_canBe_3 km M.2.2.1 ht ⟨v0 (k := 0) (by decide) rfl rfl, fun z => absurd (by rw [t0] at z; exact z) (nI_ge (by omega) (by omega)), fun _ => ⟨v0 (k := 4) (by decide) rfl rfl, ?_⟩⟩
      rw [f_has_tb _ (by omega), tb_and, t8, t0, tb_fn hW hN (by omega) (by omega)]
      refine ⟨fun z => ?_, fun z => nx (fun z1 z2 => absurd (by rw [z1, decide_eq_true (by omega)]; rfl) z)⟩
      simp only [Bool.and_eq_true, decide_eq_true_eq] at z
      refine sp_X8_loadBut M ht t4 hS (by omega) ⟨M.2.2.1, ?_⟩
      rw [ixh1, ixh, nI_clamp (show 6 + 2 * h < 2 ^ 31 by omega), nI_clamp (show 7 + 2 * h < 2 ^ 31 by omega), ldB_nW0 hwo S hS]
      refine ⟨vp_in_nI (by omega) (by decide), fun z2 => ⟨fun z3 => nx (fun _ _ => ⟨Int32.not_le.mpr z2, fun u => absurd (hw.resolve_left z3) u⟩), fun z3 => ?_⟩, fun z2 => ?_⟩
      · refine sp_X8_loadBut M ht t4 hS (by omega) ⟨M.2.2.1, vp_in_nI (by omega) (by decide), ?_⟩
        rw [ldB_nW1 hwo S hS]
        refine ⟨fun z4 => nx (fun _ _ => ⟨Int32.not_le.mpr z2, fun _ => Int32.not_le.mpr z4⟩), fun z4 => ?_⟩
        exact (bP_k k).2 (fun f => (f w (by omega) z.1 z.2.1).2 (by rw [z3]; decide) (Int32.not_lt.mp z4))
      · exact (bP_k k).2 (fun f => (f w (by omega) z.1 z.2.1).1 (Int32.not_lt.mp z2))
  exact v_X8_canBe_0 (key W 0 (by omega) (fun i hi => absurd hi (by omega)))
/-- an ask fits -/
abbrev fitA (T : TT) (S N a h : Nat) (wo : Int32) : Prop := fitC T S N (ao T a 1) h (ao T a 3) (f_sb (ao T a 4) (ao T a 5)) wo
end
set_option maxHeartbeats 2000000 in
theorem v_X8_canAsk_0 {K : Sh} {x : Cn} {Q : Int32 → Cn → Prop} {b0 : Nat} {l1 : Int32} {l2 : Int32} {l3 : Int32} {b0_3 : Nat} {n_b0_3 : Nat} (k_b0 : kk K b0 = some (8, 0)) (g_b0_3 : gr x b0 3 = some b0_3) (k_b0_3 : kk K b0_3 = some (20, n_b0_3)) (K0 : (l24 l1 n_b0_3) ∧ (mSI mX8_canBe [.ref b0, .int (f_span (ao (gi x b0_3) (l1 : Int32).toNatClampNeg 4) (ao (gi x b0_3) (l1 : Int32).toNatClampNeg 5) &&& f_span (gi x b0_3 4) (gi x b0_3 0 - 1)), .int (ao (gi x b0_3) (l1 : Int32).toNatClampNeg 1), .int l2, .int (ao (gi x b0_3) (l1 : Int32).toNatClampNeg 3), .int l3] K x (fun r_3 y_2 => (r_3 = 0 ∨ r_3 = 1) ∧ (Q r_3 y_2)))) : mSI mX8_canAsk [.ref b0, .int l1, .int l2, .int l3] K x Q := by
  refine s_I (by decide) (by simp [Value.category]) (Nat.le_of_ble_eq_true rfl) ?_
  show mGM mX8_canAsk 0 [some (.ref b0), some (.int l1), some (.int l2), some (.int l3)] [] (hp K x) (PI K Q)
  refine r_aload_n (pc := 0) dX8_canAsk_0 rfl ?_
  refine r_aload_n (pc := 1) dX8_canAsk_1 rfl ?_
  refine r_iload_n (pc := 2) dX8_canAsk_2 rfl ?_
  obtain ⟨p_1, K0⟩ := K0
  refine s_VI (pc := 3) mX8_weeksOf (ci := 8) (a := b0) (As := [.int l1]) dX8_canAsk_3 lk_X8_326 in_X8_weeksOf mo_X8_weeksOf ⟨by decide, rfl⟩ ⟨by decide, by decide⟩ (Nat.le_of_ble_eq_true rfl) k_b0 (sr_X8_weeksOf k_b0 g_b0_3 k_b0_3 p_1 ?_)
  refine r_aload_n (pc := 6) dX8_canAsk_6 rfl ?_
  refine r_iload_n (pc := 7) dX8_canAsk_7 rfl ?_
  refine r_iconst (pc := 8) (v := 1) dX8_canAsk_8 (by decide) ?_
  refine s_VI (pc := 9) mX8_ask0 (ci := 8) (a := b0) (As := [.int l1, .int 1]) dX8_canAsk_9 lk_X8_284 in_X8_ask0 mo_X8_ask0 ⟨by decide, rfl⟩ ⟨by decide, by decide⟩ (Nat.le_of_ble_eq_true rfl) k_b0 (sr_X8_ask0 k_b0 g_b0_3 k_b0_3 p_1 ⟨by decide, by decide⟩ ?_)
  refine r_iload_n (pc := 12) dX8_canAsk_12 rfl ?_
  refine r_aload_n (pc := 13) dX8_canAsk_13 rfl ?_
  refine r_iload_n (pc := 14) dX8_canAsk_14 rfl ?_
  refine r_iconst (pc := 15) (v := 3) dX8_canAsk_15 (by decide) ?_
  refine s_VI (pc := 16) mX8_ask0 (ci := 8) (a := b0) (As := [.int l1, .int 3]) dX8_canAsk_16 lk_X8_284 in_X8_ask0 mo_X8_ask0 ⟨by decide, rfl⟩ ⟨by decide, by decide⟩ (Nat.le_of_ble_eq_true rfl) k_b0 (sr_X8_ask0 k_b0 g_b0_3 k_b0_3 p_1 ⟨by decide, by decide⟩ ?_)
  refine r_iload_n (pc := 19) dX8_canAsk_19 rfl ?_
  refine s_VI (pc := 20) mX8_canBe (ci := 8) (a := b0) (As := [.int (f_span (ao (gi x b0_3) (l1 : Int32).toNatClampNeg 4) (ao (gi x b0_3) (l1 : Int32).toNatClampNeg 5) &&& f_span (gi x b0_3 4) (gi x b0_3 0 - 1)), .int (ao (gi x b0_3) (l1 : Int32).toNatClampNeg 1), .int l2, .int (ao (gi x b0_3) (l1 : Int32).toNatClampNeg 3), .int l3]) dX8_canAsk_20 lk_X8_90 in_X8_canBe mo_X8_canBe ⟨by decide, rfl⟩ ⟨by decide, by decide⟩ (Nat.le_of_ble_eq_true rfl) k_b0 (mSI_mono K0 (fun r_3 y_2 K0 => ?_))
  obtain ⟨p_4, K0⟩ := K0
  exact s_zret rfl p_4 dX8_canAsk_23 K0
section
variable {x : Cn} {Q : Int32 → Cn → Prop}
theorem sp_X8_canAsk {t : Nat} (M : MRf x t) (ht : kk KW t = some (20, 518)) {W C S A N : Nat} (F : WF (gi x t) W C S A N) {b wo : Int32} {a h : Nat} (ha : a < A) (hh : h < 24) (hwo : ∀ s, s < 24 → (tb wo s = true ↔ nI s = b)) (k : Q (bP (fitA (gi x t) S N a h wo)) x) : mSI mX8_canAsk [.ref 717, .int (nI a), .int (nI h), .int b] KW x Q := by
  have hA : A ≤ 24 := F.2.2.2.2.2.2.2.2.1
  have hW : W ≤ 30 := F.2.2.1
  have hN : N ≤ W := F.2.2.2.2.2.2.2.2.2.2.1
  obtain ⟨-, -, -, a3, ⟨f, l, f1, f2, f3, f4⟩, -⟩ := F.2.2.2.2.2.2.2.2.2.2.2.2.2 a ha
  refine v_X8_canAsk_0 km M.2.2.1 ht ⟨l24_nI (by omega) rfl, ?_⟩
  rw [nI_clamp (by omega), F.1, F.2.2.2.2.2.2.2.2.2.1]
  refine sp_X8_canBe M ht F hh a3 ?_ hwo ⟨bP_01 _, ?_⟩
  · intro i hi z1 z2
    rw [tb_and, Bool.and_eq_true, tb_fn hW hN hi (by omega)] at z1
    exact (of_decide_eq_true z1.2).2
  · rw [bP_congr (fitC_bits (b2 := f_sb (ao (gi x t) a 4) (ao (gi x t) a 5)) (fun i hi h2 => ?_))]
    · exact k
    · rw [tb_and, tb_fn hW hN hi (by omega), f3, f4, sb_span (by omega) (by omega), tb_span0 f (by omega) l (by omega) i hi]
      by_cases c : f ≤ i ∧ i ≤ l
      · rw [decide_eq_true c, decide_eq_true (show N ≤ i ∧ i < W by omega)]; rfl
      · rw [decide_eq_false c]; rfl
end
set_option maxHeartbeats 2000000 in
theorem v_X4_hasPlaceFor_0 {K : Sh} {x : Cn} {Q : Int32 → Cn → Prop} {b0 : Nat} {b1 : Nat} {l2 : Int32} {l3 : Int32}  (k_b1 : kk K b1 = some (0, 0)) (k_b0 : kk K b0 = some (4, 0)) (K0 : mSI mX4_hasPlace [.ref b0, .int (gi x b1 1), .int l2, .int (gi x b1 3), .int (f_sb (gi x b1 4) (gi x b1 5)), .int l3] K x (fun r_2 y_1 => (r_2 = 0 ∨ r_2 = 1) ∧ (Q r_2 y_1))) : mSI mX4_hasPlaceFor [.ref b0, .ref b1, .int l2, .int l3] K x Q := by
  refine s_I (by decide) (by simp [Value.category]) (Nat.le_of_ble_eq_true rfl) ?_
  show mGM mX4_hasPlaceFor 0 [some (.ref b0), some (.ref b1), some (.int l2), some (.int l3)] [] (hp K x) (PI K Q)
  refine r_aload_n (pc := 0) dX4_hasPlaceFor_0 rfl ?_
  refine r_aload_n (pc := 1) dX4_hasPlaceFor_1 rfl ?_
  refine s_getI (pc := 2) dX4_hasPlaceFor_2 fl_X4_100 rfl k_b1 ?_
  refine r_iload_n (pc := 5) dX4_hasPlaceFor_5 rfl ?_
  refine r_aload_n (pc := 6) dX4_hasPlaceFor_6 rfl ?_
  refine s_getI (pc := 7) dX4_hasPlaceFor_7 fl_X4_101 rfl k_b1 ?_
  refine r_aload_n (pc := 10) dX4_hasPlaceFor_10 rfl ?_
  refine s_VI (pc := 11) mX0_wantedBits (ci := 0) (a := b1) (As := []) dX4_hasPlaceFor_11 lk_X4_102 in_X0_wantedBits mo_X0_wantedBits ⟨by decide, rfl⟩ ⟨by decide, by decide⟩ (Nat.le_of_ble_eq_true rfl) k_b1 (sp_X0_wantedBits k_b1 ?_)
  refine r_iload_n (pc := 14) dX4_hasPlaceFor_14 rfl ?_
  refine s_VI (pc := 15) mX4_hasPlace (ci := 4) (a := b0) (As := [.int (gi x b1 1), .int l2, .int (gi x b1 3), .int (f_sb (gi x b1 4) (gi x b1 5)), .int l3]) dX4_hasPlaceFor_15 lk_X4_105 in_X4_hasPlace mo_X4_hasPlace ⟨by decide, rfl⟩ ⟨by decide, by decide⟩ (Nat.le_of_ble_eq_true rfl) k_b0 (mSI_mono K0 (fun r_2 y_1 K0 => ?_))
  obtain ⟨p_3, K0⟩ := K0
  exact s_zret rfl p_3 dX4_hasPlaceFor_18 K0
section
variable {x : Cn} {Q : Int32 → Cn → Prop}
theorem sp_X4_hasPlaceFor {q : Nat} {T : TT} {W C S A N : Nat} (E : SEA x q T W C S A N) {a p h : Nat} {wo : Int32} (hp : kk KW p = some (0, 0)) (hq : ASR x p T a) (hh : h < 24) (k : ∀ y, EQx x y (q + 5) → Q (bP (fitA T S N a h wo)) y) : mSI mX4_hasPlaceFor [.ref q, .ref p, .int (nI h), .int wo] KW x Q := by
  refine v_X4_hasPlaceFor_0 hp (ks0 E.1) ?_
  rw [hq 1 (by decide), hq 3 (by decide), hq 4 (by decide), hq 5 (by decide)]
  exact sp_X4_hasPlace E hh (fun y hy => ⟨bP_01 _, k y hy⟩)
theorem span_and0 {f l N W : Nat} (h1 : f ≤ l) (h2 : l < W) (h3 : W ≤ 30) (h4 : N ≤ W) : (f_span (nI f) (nI l) &&& f_span (nI N) (nI W - 1)) = 0 ↔ l < N := by
  constructor
  · intro z
    by_cases c : l < N
    · exact c
    · have : tb (f_span (nI f) (nI l) &&& f_span (nI N) (nI W - 1)) l = true := by
        rw [tb_and, tb_span0 f (by omega) l (by omega) l (by omega), tb_fn h3 h4 (by omega) (by omega), decide_eq_true (by omega), decide_eq_true (by omega)]; rfl
      rw [z, tb_0] at this
      cases this
  · intro z
    apply tb_ext
    intro i hi
    rw [tb_and, tb_span0 f (by omega) l (by omega) i hi, tb_fn h3 h4 hi (by omega), tb_0]
    by_cases c : f ≤ i ∧ i ≤ l
    · rw [decide_eq_false (show ¬ (N ≤ i ∧ i < W) by omega), Bool.and_false]
    · rw [decide_eq_false c, Bool.false_and]
/-- the row of all is kept by what hasPlace writes -/
theorem Rel.e7 {x y : Cn} (R : Rel x) (h : EQx x y 7) : Rel y ∧ gi y 718 = gi x 718 := ⟨R.keep (Kp.of h (fun _ => Or.inl rfl)), by funext k; exact h.2 718 k (by decide)⟩
def orP (c : Nat → Int32) : Nat → Int32 → Int32 := fun s a => if c s = 0 then a else a ||| (1 <<< (nI s &&& 31))
theorem Rel.wf {x : Cn} {W C S A N : Nat} (E : SEA x 2 (gi x 718) W C S A N) : WF (gi x 718) W C S A N := E.2.2.2
end
set_option maxHeartbeats 2000000 in
theorem v_X7_fits_0 {K : Sh} {x : Cn} {Q : Int32 → Cn → Prop} {b0 : Nat} {l1 : Int32} {b0_2 : Nat} {b0_2_8 : Nat} {n_b0_2_8 : Nat} (k_b0 : kk K b0 = some (7, 0)) (g_b0_2 : gr x b0 2 = some b0_2) (k_b0_2 : kk K b0_2 = some (4, 0)) (g_b0_2_8 : gr x b0_2 8 = some b0_2_8) (k_b0_2_8 : kk K b0_2_8 = some (24, n_b0_2_8)) (K0 : ((0 ≤ l1 ∧ l1 < gi x b0_2 4) → (vp_in l1 n_b0_2_8 ∧ (∃ c_3 : Nat, gr x b0_2_8 ((l1 : Int32).toNatClampNeg) = some c_3 ∧ (kk K c_3 = some (0, 0) ∧ (((gi x b0_2 1) ≤ (gi x c_3 5) → (mSI mX4_hasPlaceFor [.ref b0_2, .ref c_3, .int (gi x c_3 2), .int 0] K x (fun r_8 y_7 => (r_8 = 0 → (Q 0 y_7)) ∧ (¬ r_8 = 0 → (Q 1 y_7))))) ∧ (¬ (gi x b0_2 1) ≤ (gi x c_3 5) → (Q (-1) x))))))) ∧ (¬ (0 ≤ l1 ∧ l1 < gi x b0_2 4) → (Q (-2) x))) : mSI mX7_fits [.ref b0, .int l1] K x Q := by
  refine s_I (by decide) (by simp [Value.category]) (Nat.le_of_ble_eq_true rfl) ?_
  show mGM mX7_fits 0 [some (.ref b0), some (.int l1), none] [] (hp K x) (PI K Q)
  refine r_aload_n (pc := 0) dX7_fits_0 rfl ?_
  refine r_iload_n (pc := 1) dX7_fits_1 rfl ?_
  refine s_VI (pc := 2) mX7_isAsk (ci := 7) (a := b0) (As := [.int l1]) dX7_fits_2 lk_X7_173 in_X7_isAsk mo_X7_isAsk ⟨by decide, rfl⟩ ⟨by decide, by decide⟩ (Nat.le_of_ble_eq_true rfl) k_b0 (sp_X7_isAsk k_b0 g_b0_2 k_b0_2 ?_)
  refine r_if_ne (pc := 5) (tgt := 11) dX7_fits_5 (by decide) (fun q => ?_) (fun q => ?_)
  · have q := b2i_nz q
    have K0 := K0.1 q
    refine r_aload_n (pc := 11) dX7_fits_11 rfl ?_
    refine s_getR (pc := 12) dX7_fits_12 fl_X7_20 rfl k_b0 g_b0_2 ?_
    refine s_getR (pc := 15) dX7_fits_15 fl_X7_176 rfl k_b0_2 g_b0_2_8 ?_
    refine r_iload_n (pc := 18) dX7_fits_18 rfl ?_
    obtain ⟨i_2, K0⟩ := K0
    obtain ⟨c_3, g_4, K0⟩ := K0
    refine s_aald (pc := 19) dX7_fits_19 (by decide) rfl k_b0_2_8 i_2 g_4 ?_
    refine r_astore_n (pc := 20) dX7_fits_20 (by decide) ?_
    refine r_aload_n (pc := 21) (L := [some (.ref b0), some (.int l1), some (.ref c_3)]) dX7_fits_21 rfl ?_
    obtain ⟨e_5, K0⟩ := K0
    refine s_getI (pc := 22) dX7_fits_22 fl_X7_189 rfl e_5 ?_
    refine r_aload_n (pc := 25) dX7_fits_25 rfl ?_
    refine s_getR (pc := 26) dX7_fits_26 fl_X7_20 rfl k_b0 g_b0_2 ?_
    refine s_getI (pc := 29) dX7_fits_29 fl_X7_103 rfl k_b0_2 ?_
    refine r_icmp_ge (pc := 32) (tgt := 37) dX7_fits_32 (by decide) (fun q => ?_) (fun q => ?_)
    · have K0 := K0.1 q
      refine r_aload_n (pc := 37) dX7_fits_37 rfl ?_
      refine s_getR (pc := 38) dX7_fits_38 fl_X7_20 rfl k_b0 g_b0_2 ?_
      refine r_aload_n (pc := 41) dX7_fits_41 rfl ?_
      refine r_aload_n (pc := 42) dX7_fits_42 rfl ?_
      refine s_getI (pc := 43) dX7_fits_43 fl_X7_184 rfl e_5 ?_
      refine r_iconst (pc := 46) (v := 0) dX7_fits_46 (by decide) ?_
      refine s_VI (pc := 47) mX4_hasPlaceFor (ci := 4) (a := b0_2) (As := [.ref c_3, .int (gi x c_3 2), .int 0]) dX7_fits_47 lk_X7_299 in_X4_hasPlaceFor mo_X4_hasPlaceFor ⟨by decide, rfl⟩ ⟨by decide, by decide⟩ (Nat.le_of_ble_eq_true rfl) k_b0_2 (mSI_mono K0 (fun r_8 y_7 K0 => ?_))
      refine r_if_eq (pc := 50) (tgt := 57) dX7_fits_50 (by decide) (fun q => ?_) (fun q => ?_)
      · have K0 := K0.1 q
        refine r_iconst (pc := 57) (v := 0) dX7_fits_57 (by decide) ?_
        exact s_iret rfl dX7_fits_58 K0
      · have K0 := K0.2 q
        refine r_iconst (pc := 53) (v := 1) dX7_fits_53 (by decide) ?_
        refine r_goto (pc := 54) (tgt := 58) dX7_fits_54 (by decide) ?_
        exact s_iret rfl dX7_fits_58 K0
    · have K0 := K0.2 q
      refine r_iconst (pc := 35) (v := (-1)) dX7_fits_35 (by decide) ?_
      exact s_iret rfl dX7_fits_36 K0
  · have q := (b2i_z _).mp q
    have K0 := K0.2 q
    refine r_bipush (pc := 8) (v := (-2)) dX7_fits_8 (by decide) ?_
    exact s_iret rfl dX7_fits_10 K0
set_option maxHeartbeats 2000000 in
theorem v_X8_fits_0 {K : Sh} {x : Cn} {Q : Int32 → Cn → Prop} {b0 : Nat} {l1 : Int32} {b0_1 : Nat} {n_b0_1 : Nat} {b0_3 : Nat} {n_b0_3 : Nat} (k_b0 : kk K b0 = some (8, 0)) (g_b0_1 : gr x b0 1 = some b0_1) (k_b0_1 : kk K b0_1 = some (20, n_b0_1)) (g_b0_3 : gr x b0 3 = some b0_3) (k_b0_3 : kk K b0_3 = some (20, n_b0_3)) (K0 : vp_in 3 n_b0_1 ∧ (((0 ≤ l1 ∧ l1 ≤ gi x b0_1 3 - 1) → ((l24 l1 n_b0_3) ∧ ((¬ (f_span (ao (gi x b0_3) (l1 : Int32).toNatClampNeg 4) (ao (gi x b0_3) (l1 : Int32).toNatClampNeg 5) &&& f_span (gi x b0_3 4) (gi x b0_3 0 - 1)) = 0 → (mSI mX8_canAsk [.ref b0, .int l1, .int (ao (gi x b0_3) (l1 : Int32).toNatClampNeg 2), .int (-1)] K x (fun r_6 y_5 => (r_6 = 0 → (Q 0 y_5)) ∧ (¬ r_6 = 0 → (Q 1 y_5))))) ∧ ((f_span (ao (gi x b0_3) (l1 : Int32).toNatClampNeg 4) (ao (gi x b0_3) (l1 : Int32).toNatClampNeg 5) &&& f_span (gi x b0_3 4) (gi x b0_3 0 - 1)) = 0 → (Q (-1) x))))) ∧ (¬ (0 ≤ l1 ∧ l1 ≤ gi x b0_1 3 - 1) → (Q (-2) x)))) : mSI mX8_fits [.ref b0, .int l1] K x Q := by
  refine s_I (by decide) (by simp [Value.category]) (Nat.le_of_ble_eq_true rfl) ?_
  show mGM mX8_fits 0 [some (.ref b0), some (.int l1)] [] (hp K x) (PI K Q)
  refine r_aload_n (pc := 0) dX8_fits_0 rfl ?_
  refine r_iload_n (pc := 1) dX8_fits_1 rfl ?_
  obtain ⟨i_1, K0⟩ := K0
  refine s_VI (pc := 2) mX8_isAsk (ci := 8) (a := b0) (As := [.int l1]) dX8_fits_2 lk_X8_281 in_X8_isAsk mo_X8_isAsk ⟨by decide, rfl⟩ ⟨by decide, by decide⟩ (Nat.le_of_ble_eq_true rfl) k_b0 (sp_X8_isAsk k_b0 g_b0_1 k_b0_1 i_1 ?_)
  refine r_if_ne (pc := 5) (tgt := 11) dX8_fits_5 (by decide) (fun q => ?_) (fun q => ?_)
  · have q := b2i_nz q
    have K0 := K0.1 q
    refine r_aload_n (pc := 11) dX8_fits_11 rfl ?_
    refine r_iload_n (pc := 12) dX8_fits_12 rfl ?_
    obtain ⟨p_3, K0⟩ := K0
    refine s_VI (pc := 13) mX8_weeksOf (ci := 8) (a := b0) (As := [.int l1]) dX8_fits_13 lk_X8_326 in_X8_weeksOf mo_X8_weeksOf ⟨by decide, rfl⟩ ⟨by decide, by decide⟩ (Nat.le_of_ble_eq_true rfl) k_b0 (sr_X8_weeksOf k_b0 g_b0_3 k_b0_3 p_3 ?_)
    refine r_if_ne (pc := 16) (tgt := 23) dX8_fits_16 (by decide) (fun q => ?_) (fun q => ?_)
    · have K0 := K0.1 q
      refine r_aload_n (pc := 23) dX8_fits_23 rfl ?_
      refine r_iload_n (pc := 24) dX8_fits_24 rfl ?_
      refine r_aload_n (pc := 25) dX8_fits_25 rfl ?_
      refine r_iload_n (pc := 26) dX8_fits_26 rfl ?_
      refine r_iconst (pc := 27) (v := 2) dX8_fits_27 (by decide) ?_
      refine s_VI (pc := 28) mX8_ask0 (ci := 8) (a := b0) (As := [.int l1, .int 2]) dX8_fits_28 lk_X8_284 in_X8_ask0 mo_X8_ask0 ⟨by decide, rfl⟩ ⟨by decide, by decide⟩ (Nat.le_of_ble_eq_true rfl) k_b0 (sr_X8_ask0 k_b0 g_b0_3 k_b0_3 p_3 ⟨by decide, by decide⟩ ?_)
      refine r_iconst (pc := 31) (v := (-1)) dX8_fits_31 (by decide) ?_
      refine s_VI (pc := 32) mX8_canAsk (ci := 8) (a := b0) (As := [.int l1, .int (ao (gi x b0_3) (l1 : Int32).toNatClampNeg 2), .int (-1)]) dX8_fits_32 lk_X8_329 in_X8_canAsk mo_X8_canAsk ⟨by decide, rfl⟩ ⟨by decide, by decide⟩ (Nat.le_of_ble_eq_true rfl) k_b0 (mSI_mono K0 (fun r_6 y_5 K0 => ?_))
      refine r_if_eq (pc := 35) (tgt := 42) dX8_fits_35 (by decide) (fun q => ?_) (fun q => ?_)
      · have K0 := K0.1 q
        refine r_iconst (pc := 42) (v := 0) dX8_fits_42 (by decide) ?_
        exact s_iret rfl dX8_fits_43 K0
      · have K0 := K0.2 q
        refine r_iconst (pc := 38) (v := 1) dX8_fits_38 (by decide) ?_
        refine r_goto (pc := 39) (tgt := 43) dX8_fits_39 (by decide) ?_
        exact s_iret rfl dX8_fits_43 K0
    · have K0 := K0.2 q
      refine r_iconst (pc := 19) (v := (-1)) dX8_fits_19 (by decide) ?_
      refine r_goto (pc := 20) (tgt := 43) dX8_fits_20 (by decide) ?_
      exact s_iret rfl dX8_fits_43 K0
  · have q := (b2i_z _).mp q
    have K0 := K0.2 q
    refine r_bipush (pc := 8) (v := (-2)) dX8_fits_8 (by decide) ?_
    exact s_iret rfl dX8_fits_10 K0
set_option maxHeartbeats 2000000 in
theorem v_X7_fitting_0 {K : Sh} {x : Cn} {Q : Int32 → Cn → Prop} {b0 : Nat} {l1 : Int32} {l2 : Int32} {l3 : Int32} {l4 : Int32} {b0_2 : Nat} (k_b0 : kk K b0 = some (7, 0)) (g_b0_2 : gr x b0 2 = some b0_2) (k_b0_2 : kk K b0_2 = some (4, 0)) (K0 : (¬ (0 < gi x b0_2 0 ∧ 0 ≤ l1 ∧ l1 < 7) → (Q (-2) x)) ∧ ((0 < gi x b0_2 0 ∧ 0 ≤ l1 ∧ l1 < 7) → ((¬ (l2 = 0 ∨ l2 = 1) → (Q (-2) x)) ∧ ((l2 = 0 ∨ l2 = 1) → ((¬ (0 ≤ l3 ∧ l3 < gi x b0_2 0) → (Q (-2) x)) ∧ ((0 ≤ l3 ∧ l3 < gi x b0_2 0) → ((¬ (0 ≤ l4 ∧ l4 < gi x b0_2 0) → (Q (-2) x)) ∧ ((0 ≤ l4 ∧ l4 < gi x b0_2 0) → ((l3 ≤ l4 → (GI mX7_fitting 55 [some (.ref b0), some (.int l1), some (.int l2), some (.int l3), some (.int l4), some (.int (f_sb l3 l4)), some (.int 0), some (.int 0)] [] K x Q)) ∧ (¬ l3 ≤ l4 → (Q (-2) x))))))))))) : mSI mX7_fitting [.ref b0, .int l1, .int l2, .int l3, .int l4] K x Q := by
  refine s_I (by decide) (by simp [Value.category]) (Nat.le_of_ble_eq_true rfl) ?_
  show mGM mX7_fitting 0 [some (.ref b0), some (.int l1), some (.int l2), some (.int l3), some (.int l4), none, none, none] [] (hp K x) (PI K Q)
  refine r_aload_n (pc := 0) dX7_fitting_0 rfl ?_
  refine r_iload_n (pc := 1) dX7_fitting_1 rfl ?_
  refine s_VI (pc := 2) mX7_isDay (ci := 7) (a := b0) (As := [.int l1]) dX7_fitting_2 lk_X7_245 in_X7_isDay mo_X7_isDay ⟨by decide, rfl⟩ ⟨by decide, by decide⟩ (Nat.le_of_ble_eq_true rfl) k_b0 (sp_X7_isDay k_b0 g_b0_2 k_b0_2 ?_)
  refine r_if_eq (pc := 5) (tgt := 38) dX7_fitting_5 (by decide) (fun q => ?_) (fun q => ?_)
  · have q := (b2i_z _).mp q
    have K0 := K0.1 q
    refine r_bipush (pc := 38) (v := (-2)) dX7_fitting_38 (by decide) ?_
    exact s_iret rfl dX7_fitting_40 K0
  · have q := b2i_nz q
    have K0 := K0.2 q
    refine r_iload_n (pc := 8) dX7_fitting_8 rfl ?_
    refine s_SI (pc := 9) mX7_isWay (As := [.int l2]) dX7_fitting_9 lk_X7_218 st_X7_isWay mo_X7_isWay ⟨by decide, by decide⟩ (Nat.le_of_ble_eq_true rfl) (sp_X7_isWay  ?_)
    refine r_if_eq (pc := 12) (tgt := 38) dX7_fitting_12 (by decide) (fun q => ?_) (fun q => ?_)
    · have q := (b2i_z _).mp q
      have K0 := K0.1 q
      refine r_bipush (pc := 38) (v := (-2)) dX7_fitting_38 (by decide) ?_
      exact s_iret rfl dX7_fitting_40 K0
    · have q := b2i_nz q
      have K0 := K0.2 q
      refine r_aload_n (pc := 15) dX7_fitting_15 rfl ?_
      refine r_iload_n (pc := 16) dX7_fitting_16 rfl ?_
      refine s_VI (pc := 17) mX7_isWeek (ci := 7) (a := b0) (As := [.int l3]) dX7_fitting_17 lk_X7_167 in_X7_isWeek mo_X7_isWeek ⟨by decide, rfl⟩ ⟨by decide, by decide⟩ (Nat.le_of_ble_eq_true rfl) k_b0 (sp_X7_isWeek k_b0 g_b0_2 k_b0_2 ?_)
      refine r_if_eq (pc := 20) (tgt := 38) dX7_fitting_20 (by decide) (fun q => ?_) (fun q => ?_)
      · have q := (b2i_z _).mp q
        have K0 := K0.1 q
        refine r_bipush (pc := 38) (v := (-2)) dX7_fitting_38 (by decide) ?_
        exact s_iret rfl dX7_fitting_40 K0
      · have q := b2i_nz q
        have K0 := K0.2 q
        refine r_aload_n (pc := 23) dX7_fitting_23 rfl ?_
        refine r_iload (pc := 24) dX7_fitting_24 rfl ?_
        refine s_VI (pc := 26) mX7_isWeek (ci := 7) (a := b0) (As := [.int l4]) dX7_fitting_26 lk_X7_167 in_X7_isWeek mo_X7_isWeek ⟨by decide, rfl⟩ ⟨by decide, by decide⟩ (Nat.le_of_ble_eq_true rfl) k_b0 (sp_X7_isWeek k_b0 g_b0_2 k_b0_2 ?_)
        refine r_if_eq (pc := 29) (tgt := 38) dX7_fitting_29 (by decide) (fun q => ?_) (fun q => ?_)
        · have q := (b2i_z _).mp q
          have K0 := K0.1 q
          refine r_bipush (pc := 38) (v := (-2)) dX7_fitting_38 (by decide) ?_
          exact s_iret rfl dX7_fitting_40 K0
        · have q := b2i_nz q
          have K0 := K0.2 q
          refine r_iload (pc := 32) dX7_fitting_32 rfl ?_
          refine r_iload_n (pc := 34) dX7_fitting_34 rfl ?_
          refine r_icmp_ge (pc := 35) (tgt := 41) dX7_fitting_35 (by decide) (fun q => ?_) (fun q => ?_)
          · have K0 := K0.1 q
            refine r_iload_n (pc := 41) dX7_fitting_41 rfl ?_
            refine r_iload (pc := 42) dX7_fitting_42 rfl ?_
            refine s_SI (pc := 44) mX7_spanBits (As := [.int l3, .int l4]) dX7_fitting_44 lk_X7_292 st_X7_spanBits mo_X7_spanBits ⟨by decide, by decide⟩ (Nat.le_of_ble_eq_true rfl) (sp_X7_spanBits  ?_)
            refine r_istore (pc := 47) dX7_fitting_47 (by decide) ?_
            refine r_iconst (pc := 49) (L := [some (.ref b0), some (.int l1), some (.int l2), some (.int l3), some (.int l4), some (.int (f_sb l3 l4)), none, none]) (v := 0) dX7_fitting_49 (by decide) ?_
            refine r_istore (pc := 50) dX7_fitting_50 (by decide) ?_
            refine r_iconst (pc := 52) (L := [some (.ref b0), some (.int l1), some (.int l2), some (.int l3), some (.int l4), some (.int (f_sb l3 l4)), some (.int 0), none]) (v := 0) dX7_fitting_52 (by decide) ?_
            refine r_istore (pc := 53) dX7_fitting_53 (by decide) ?_
            exact r_le (L' := [some (.ref b0), some (.int l1), some (.int l2), some (.int l3), some (.int l4), some (.int (f_sb l3 l4)), some (.int 0), some (.int 0)]) ⟨rfl, ⟨rfl, ⟨rfl, ⟨rfl, ⟨rfl, ⟨rfl, ⟨rfl, ⟨rfl, trivial⟩⟩⟩⟩⟩⟩⟩⟩ K0
          · have K0 := K0.2 q
            refine r_bipush (pc := 38) (v := (-2)) dX7_fitting_38 (by decide) ?_
            exact s_iret rfl dX7_fitting_40 K0
set_option maxHeartbeats 2000000 in
theorem v_X7_fitting_55 {K : Sh} {x : Cn} {Q : Int32 → Cn → Prop} {b0 : Nat} {l1 : Int32} {l2 : Int32} {l3 : Int32} {l4 : Int32} {l5 : Int32} {l6 : Int32} {l7 : Int32} {b0_2 : Nat} (k_b0 : kk K b0 = some (7, 0)) (g_b0_2 : gr x b0 2 = some b0_2) (k_b0_2 : kk K b0_2 = some (4, 0)) (K0 : (24 ≤ l7 → (Q l6 x)) ∧ (¬ 24 ≤ l7 → (mSI mX4_hasPlace [.ref b0_2, .int l1, .int l7, .int l2, .int l5, .int 0] K x (fun r_3 y_2 => (r_3 = 0 → (GI mX7_fitting 55 [some (.ref b0), some (.int l1), some (.int l2), some (.int l3), some (.int l4), some (.int l5), some (.int l6), some (.int (l7 + 1))] [] K y_2 Q)) ∧ (¬ r_3 = 0 → (GI mX7_fitting 55 [some (.ref b0), some (.int l1), some (.int l2), some (.int l3), some (.int l4), some (.int l5), some (.int (l6 ||| (1 <<< (l7 &&& 31)))), some (.int (l7 + 1))] [] K y_2 Q)))))) : GI mX7_fitting 55 [some (.ref b0), some (.int l1), some (.int l2), some (.int l3), some (.int l4), some (.int l5), some (.int l6), some (.int l7)] [] K x Q := by
  show mGM mX7_fitting 55 [some (.ref b0), some (.int l1), some (.int l2), some (.int l3), some (.int l4), some (.int l5), some (.int l6), some (.int l7)] [] (hp K x) (PI K Q)
  refine r_iload (pc := 55) dX7_fitting_55 rfl ?_
  refine r_bipush (pc := 57) (v := 24) dX7_fitting_57 (by decide) ?_
  refine r_icmp_ge (pc := 59) (tgt := 94) dX7_fitting_59 (by decide) (fun q => ?_) (fun q => ?_)
  · have K0 := K0.1 q
    refine r_iload (pc := 94) dX7_fitting_94 rfl ?_
    exact s_iret rfl dX7_fitting_96 K0
  · have K0 := K0.2 q
    refine r_aload_n (pc := 62) dX7_fitting_62 rfl ?_
    refine s_getR (pc := 63) dX7_fitting_63 fl_X7_20 rfl k_b0 g_b0_2 ?_
    refine r_iload_n (pc := 66) dX7_fitting_66 rfl ?_
    refine r_iload (pc := 67) dX7_fitting_67 rfl ?_
    refine r_iload_n (pc := 69) dX7_fitting_69 rfl ?_
    refine r_iload (pc := 70) dX7_fitting_70 rfl ?_
    refine r_iconst (pc := 72) (v := 0) dX7_fitting_72 (by decide) ?_
    refine s_VI (pc := 73) mX4_hasPlace (ci := 4) (a := b0_2) (As := [.int l1, .int l7, .int l2, .int l5, .int 0]) dX7_fitting_73 lk_X7_295 in_X4_hasPlace mo_X4_hasPlace ⟨by decide, rfl⟩ ⟨by decide, by decide⟩ (Nat.le_of_ble_eq_true rfl) k_b0_2 (mSI_mono K0 (fun r_3 y_2 K0 => ?_))
    refine r_if_eq (pc := 76) (tgt := 88) dX7_fitting_76 (by decide) (fun q => ?_) (fun q => ?_)
    · have K0 := K0.1 q
      refine r_iinc (pc := 88) (v := l7 + 1) dX7_fitting_88 rfl rfl (by decide) ?_
      refine r_goto (pc := 91) (L := [some (.ref b0), some (.int l1), some (.int l2), some (.int l3), some (.int l4), some (.int l5), some (.int l6), some (.int (l7 + 1))]) (tgt := 55) dX7_fitting_91 (by decide) ?_
      exact r_le (L' := [some (.ref b0), some (.int l1), some (.int l2), some (.int l3), some (.int l4), some (.int l5), some (.int l6), some (.int (l7 + 1))]) ⟨rfl, ⟨rfl, ⟨rfl, ⟨rfl, ⟨rfl, ⟨rfl, ⟨rfl, ⟨rfl, trivial⟩⟩⟩⟩⟩⟩⟩⟩ K0
    · have K0 := K0.2 q
      refine r_iload (pc := 79) dX7_fitting_79 rfl ?_
      refine r_iconst (pc := 81) (v := 1) dX7_fitting_81 (by decide) ?_
      refine r_iload (pc := 82) dX7_fitting_82 rfl ?_
      refine r_ishl (pc := 84) dX7_fitting_84 ?_
      refine r_ior (pc := 85) dX7_fitting_85 ?_
      refine r_istore (pc := 86) dX7_fitting_86 (by decide) ?_
      refine r_iinc (pc := 88) (L := [some (.ref b0), some (.int l1), some (.int l2), some (.int l3), some (.int l4), some (.int l5), some (.int (l6 ||| (1 <<< (l7 &&& 31)))), some (.int l7)]) (v := l7 + 1) dX7_fitting_88 rfl rfl (by decide) ?_
      refine r_goto (pc := 91) (L := [some (.ref b0), some (.int l1), some (.int l2), some (.int l3), some (.int l4), some (.int l5), some (.int (l6 ||| (1 <<< (l7 &&& 31)))), some (.int (l7 + 1))]) (tgt := 55) dX7_fitting_91 (by decide) ?_
      exact r_le (L' := [some (.ref b0), some (.int l1), some (.int l2), some (.int l3), some (.int l4), some (.int l5), some (.int (l6 ||| (1 <<< (l7 &&& 31)))), some (.int (l7 + 1))]) ⟨rfl, ⟨rfl, ⟨rfl, ⟨rfl, ⟨rfl, ⟨rfl, ⟨rfl, ⟨rfl, trivial⟩⟩⟩⟩⟩⟩⟩⟩ K0
set_option maxHeartbeats 2000000 in
theorem v_X8_fitting_0 {K : Sh} {x : Cn} {Q : Int32 → Cn → Prop} {b0 : Nat} {l1 : Int32} {l2 : Int32} {l3 : Int32} {l4 : Int32} {b0_1 : Nat} {n_b0_1 : Nat} (k_b0 : kk K b0 = some (8, 0)) (g_b0_1 : gr x b0 1 = some b0_1) (k_b0_1 : kk K b0_1 = some (20, n_b0_1)) (K0 : vp_in 0 n_b0_1 ∧ ((¬ (0 < gi x b0_1 0 ∧ 0 ≤ l1 ∧ l1 ≤ 6) → (Q (-2) x)) ∧ ((0 < gi x b0_1 0 ∧ 0 ≤ l1 ∧ l1 ≤ 6) → ((¬ (0 ≤ l2 ∧ l2 ≤ 1) → (Q (-2) x)) ∧ ((0 ≤ l2 ∧ l2 ≤ 1) → ((¬ (0 ≤ l3 ∧ l3 ≤ gi x b0_1 0 - 1) → (Q (-2) x)) ∧ ((0 ≤ l3 ∧ l3 ≤ gi x b0_1 0 - 1) → ((¬ (0 ≤ l4 ∧ l4 ≤ gi x b0_1 0 - 1) → (Q (-2) x)) ∧ ((0 ≤ l4 ∧ l4 ≤ gi x b0_1 0 - 1) → ((l3 ≤ l4 → (GI mX8_fitting 50 [some (.ref b0), some (.int l1), some (.int l2), some (.int l3), some (.int l4), some (.int 0), some (.int 0)] [] K x Q)) ∧ (¬ l3 ≤ l4 → (Q (-2) x)))))))))))) : mSI mX8_fitting [.ref b0, .int l1, .int l2, .int l3, .int l4] K x Q := by
  refine s_I (by decide) (by simp [Value.category]) (Nat.le_of_ble_eq_true rfl) ?_
  show mGM mX8_fitting 0 [some (.ref b0), some (.int l1), some (.int l2), some (.int l3), some (.int l4), none, none] [] (hp K x) (PI K Q)
  refine r_aload_n (pc := 0) dX8_fitting_0 rfl ?_
  refine r_iload_n (pc := 1) dX8_fitting_1 rfl ?_
  obtain ⟨i_1, K0⟩ := K0
  refine s_VI (pc := 2) mX8_isDay (ci := 8) (a := b0) (As := [.int l1]) dX8_fitting_2 lk_X8_61 in_X8_isDay mo_X8_isDay ⟨by decide, rfl⟩ ⟨by decide, by decide⟩ (Nat.le_of_ble_eq_true rfl) k_b0 (sp_X8_isDay k_b0 g_b0_1 k_b0_1 i_1 ?_)
  refine r_if_eq (pc := 5) (tgt := 41) dX8_fitting_5 (by decide) (fun q => ?_) (fun q => ?_)
  · have q := (b2i_z _).mp q
    have K0 := K0.1 q
    refine r_bipush (pc := 41) (v := (-2)) dX8_fitting_41 (by decide) ?_
    exact s_iret rfl dX8_fitting_43 K0
  · have q := b2i_nz q
    have K0 := K0.2 q
    refine r_iload_n (pc := 8) dX8_fitting_8 rfl ?_
    refine r_i2l (pc := 9) dX8_fitting_9 ?_
    refine r_lconst (pc := 10) (v := 0) dX8_fitting_10 (by decide) ?_
    refine r_lconst (pc := 11) (v := 1) dX8_fitting_11 (by decide) ?_
    refine s_SI (pc := 12) mX8_in (As := [.long ((l2 : Int32).toInt64), .long 0, .long 1]) dX8_fitting_12 lk_X8_45 st_X8_in mo_X8_in ⟨by decide, by decide⟩ (Nat.le_of_ble_eq_true rfl) (sq_X8_in (v := l2) (lo := 0) (hi := 1) rfl (by decide) (by decide) ?_)
    refine r_if_eq (pc := 15) (tgt := 41) dX8_fitting_15 (by decide) (fun q => ?_) (fun q => ?_)
    · have q := (b2i_z _).mp q
      have K0 := K0.1 q
      refine r_bipush (pc := 41) (v := (-2)) dX8_fitting_41 (by decide) ?_
      exact s_iret rfl dX8_fitting_43 K0
    · have q := b2i_nz q
      have K0 := K0.2 q
      refine r_aload_n (pc := 18) dX8_fitting_18 rfl ?_
      refine r_iload_n (pc := 19) dX8_fitting_19 rfl ?_
      refine s_VI (pc := 20) mX8_isWeek (ci := 8) (a := b0) (As := [.int l3]) dX8_fitting_20 lk_X8_57 in_X8_isWeek mo_X8_isWeek ⟨by decide, rfl⟩ ⟨by decide, by decide⟩ (Nat.le_of_ble_eq_true rfl) k_b0 (sp_X8_isWeek k_b0 g_b0_1 k_b0_1 i_1 ?_)
      refine r_if_eq (pc := 23) (tgt := 41) dX8_fitting_23 (by decide) (fun q => ?_) (fun q => ?_)
      · have q := (b2i_z _).mp q
        have K0 := K0.1 q
        refine r_bipush (pc := 41) (v := (-2)) dX8_fitting_41 (by decide) ?_
        exact s_iret rfl dX8_fitting_43 K0
      · have q := b2i_nz q
        have K0 := K0.2 q
        refine r_aload_n (pc := 26) dX8_fitting_26 rfl ?_
        refine r_iload (pc := 27) dX8_fitting_27 rfl ?_
        refine s_VI (pc := 29) mX8_isWeek (ci := 8) (a := b0) (As := [.int l4]) dX8_fitting_29 lk_X8_57 in_X8_isWeek mo_X8_isWeek ⟨by decide, rfl⟩ ⟨by decide, by decide⟩ (Nat.le_of_ble_eq_true rfl) k_b0 (sp_X8_isWeek k_b0 g_b0_1 k_b0_1 i_1 ?_)
        refine r_if_eq (pc := 32) (tgt := 41) dX8_fitting_32 (by decide) (fun q => ?_) (fun q => ?_)
        · have q := (b2i_z _).mp q
          have K0 := K0.1 q
          refine r_bipush (pc := 41) (v := (-2)) dX8_fitting_41 (by decide) ?_
          exact s_iret rfl dX8_fitting_43 K0
        · have q := b2i_nz q
          have K0 := K0.2 q
          refine r_iload (pc := 35) dX8_fitting_35 rfl ?_
          refine r_iload_n (pc := 37) dX8_fitting_37 rfl ?_
          refine r_icmp_ge (pc := 38) (tgt := 44) dX8_fitting_38 (by decide) (fun q => ?_) (fun q => ?_)
          · have K0 := K0.1 q
            refine r_iconst (pc := 44) (v := 0) dX8_fitting_44 (by decide) ?_
            refine r_istore (pc := 45) dX8_fitting_45 (by decide) ?_
            refine r_iconst (pc := 47) (L := [some (.ref b0), some (.int l1), some (.int l2), some (.int l3), some (.int l4), some (.int 0), none]) (v := 0) dX8_fitting_47 (by decide) ?_
            refine r_istore (pc := 48) dX8_fitting_48 (by decide) ?_
            exact r_le (L' := [some (.ref b0), some (.int l1), some (.int l2), some (.int l3), some (.int l4), some (.int 0), some (.int 0)]) ⟨rfl, ⟨rfl, ⟨rfl, ⟨rfl, ⟨rfl, ⟨rfl, ⟨rfl, trivial⟩⟩⟩⟩⟩⟩⟩ K0
          · have K0 := K0.2 q
            refine r_bipush (pc := 41) (v := (-2)) dX8_fitting_41 (by decide) ?_
            exact s_iret rfl dX8_fitting_43 K0
set_option maxHeartbeats 2000000 in
theorem v_X8_fitting_50 {K : Sh} {x : Cn} {Q : Int32 → Cn → Prop} {b0 : Nat} {l1 : Int32} {l2 : Int32} {l3 : Int32} {l4 : Int32} {l5 : Int32} {l6 : Int32}  (k_b0 : kk K b0 = some (8, 0)) (K0 : (24 ≤ l6 → (Q l5 x)) ∧ (¬ 24 ≤ l6 → (mSI mX8_canBe [.ref b0, .int (f_span l3 l4), .int l1, .int l6, .int l2, .int (-1)] K x (fun r_3 y_2 => (r_3 = 0 → (GI mX8_fitting 50 [some (.ref b0), some (.int l1), some (.int l2), some (.int l3), some (.int l4), some (.int (l5 ||| 0)), some (.int (l6 + 1))] [] K y_2 Q)) ∧ (¬ r_3 = 0 → (GI mX8_fitting 50 [some (.ref b0), some (.int l1), some (.int l2), some (.int l3), some (.int l4), some (.int (l5 ||| (1 <<< (l6 &&& 31)))), some (.int (l6 + 1))] [] K y_2 Q)))))) : GI mX8_fitting 50 [some (.ref b0), some (.int l1), some (.int l2), some (.int l3), some (.int l4), some (.int l5), some (.int l6)] [] K x Q := by
  show mGM mX8_fitting 50 [some (.ref b0), some (.int l1), some (.int l2), some (.int l3), some (.int l4), some (.int l5), some (.int l6)] [] (hp K x) (PI K Q)
  refine r_iload (pc := 50) dX8_fitting_50 rfl ?_
  refine r_bipush (pc := 52) (v := 24) dX8_fitting_52 (by decide) ?_
  refine r_icmp_ge (pc := 54) (tgt := 94) dX8_fitting_54 (by decide) (fun q => ?_) (fun q => ?_)
  · have K0 := K0.1 q
    refine r_iload (pc := 94) dX8_fitting_94 rfl ?_
    exact s_iret rfl dX8_fitting_96 K0
  · have K0 := K0.2 q
    refine r_iload (pc := 57) dX8_fitting_57 rfl ?_
    refine r_aload_n (pc := 59) dX8_fitting_59 rfl ?_
    refine r_iload_n (pc := 60) dX8_fitting_60 rfl ?_
    refine r_iload (pc := 61) dX8_fitting_61 rfl ?_
    refine s_SI (pc := 63) mX8_span (As := [.int l3, .int l4]) dX8_fitting_63 lk_X8_79 st_X8_span mo_X8_span ⟨by decide, by decide⟩ (Nat.le_of_ble_eq_true rfl) (sp_X8_span  ?_)
    refine r_iload_n (pc := 66) dX8_fitting_66 rfl ?_
    refine r_iload (pc := 67) dX8_fitting_67 rfl ?_
    refine r_iload_n (pc := 69) dX8_fitting_69 rfl ?_
    refine r_iconst (pc := 70) (v := (-1)) dX8_fitting_70 (by decide) ?_
    refine s_VI (pc := 71) mX8_canBe (ci := 8) (a := b0) (As := [.int (f_span l3 l4), .int l1, .int l6, .int l2, .int (-1)]) dX8_fitting_71 lk_X8_90 in_X8_canBe mo_X8_canBe ⟨by decide, rfl⟩ ⟨by decide, by decide⟩ (Nat.le_of_ble_eq_true rfl) k_b0 (mSI_mono K0 (fun r_3 y_2 K0 => ?_))
    refine r_if_eq (pc := 74) (tgt := 84) dX8_fitting_74 (by decide) (fun q => ?_) (fun q => ?_)
    · have K0 := K0.1 q
      refine r_iconst (pc := 84) (v := 0) dX8_fitting_84 (by decide) ?_
      refine r_ior (pc := 85) dX8_fitting_85 ?_
      refine r_istore (pc := 86) dX8_fitting_86 (by decide) ?_
      refine r_iinc (pc := 88) (L := [some (.ref b0), some (.int l1), some (.int l2), some (.int l3), some (.int l4), some (.int (l5 ||| 0)), some (.int l6)]) (v := l6 + 1) dX8_fitting_88 rfl rfl (by decide) ?_
      refine r_goto (pc := 91) (L := [some (.ref b0), some (.int l1), some (.int l2), some (.int l3), some (.int l4), some (.int (l5 ||| 0)), some (.int (l6 + 1))]) (tgt := 50) dX8_fitting_91 (by decide) ?_
      exact r_le (L' := [some (.ref b0), some (.int l1), some (.int l2), some (.int l3), some (.int l4), some (.int (l5 ||| 0)), some (.int (l6 + 1))]) ⟨rfl, ⟨rfl, ⟨rfl, ⟨rfl, ⟨rfl, ⟨rfl, ⟨rfl, trivial⟩⟩⟩⟩⟩⟩⟩ K0
    · have K0 := K0.2 q
      refine r_iconst (pc := 77) (v := 1) dX8_fitting_77 (by decide) ?_
      refine r_iload (pc := 78) dX8_fitting_78 rfl ?_
      refine r_ishl (pc := 80) dX8_fitting_80 ?_
      refine r_goto (pc := 81) (tgt := 85) dX8_fitting_81 (by decide) ?_
      refine r_ior (pc := 85) dX8_fitting_85 ?_
      refine r_istore (pc := 86) dX8_fitting_86 (by decide) ?_
      refine r_iinc (pc := 88) (L := [some (.ref b0), some (.int l1), some (.int l2), some (.int l3), some (.int l4), some (.int (l5 ||| (1 <<< (l6 &&& 31)))), some (.int l6)]) (v := l6 + 1) dX8_fitting_88 rfl rfl (by decide) ?_
      refine r_goto (pc := 91) (L := [some (.ref b0), some (.int l1), some (.int l2), some (.int l3), some (.int l4), some (.int (l5 ||| (1 <<< (l6 &&& 31)))), some (.int (l6 + 1))]) (tgt := 50) dX8_fitting_91 (by decide) ?_
      exact r_le (L' := [some (.ref b0), some (.int l1), some (.int l2), some (.int l3), some (.int l4), some (.int (l5 ||| (1 <<< (l6 &&& 31)))), some (.int (l6 + 1))]) ⟨rfl, ⟨rfl, ⟨rfl, ⟨rfl, ⟨rfl, ⟨rfl, ⟨rfl, trivial⟩⟩⟩⟩⟩⟩⟩ K0
set_option maxHeartbeats 2000000 in
theorem v_X7_blocked_0 {K : Sh} {x : Cn} {Q : Int32 → Cn → Prop} {b0 : Nat} {l1 : Int32} {b0_2 : Nat} {b0_2_8 : Nat} {n_b0_2_8 : Nat} (k_b0 : kk K b0 = some (7, 0)) (g_b0_2 : gr x b0 2 = some b0_2) (k_b0_2 : kk K b0_2 = some (4, 0)) (g_b0_2_8 : gr x b0_2 8 = some b0_2_8) (k_b0_2_8 : kk K b0_2_8 = some (24, n_b0_2_8)) (K0 : ((0 ≤ l1 ∧ l1 < gi x b0_2 4) → (vp_in l1 n_b0_2_8 ∧ (∃ c_3 : Nat, gr x b0_2_8 ((l1 : Int32).toNatClampNeg) = some c_3 ∧ (kk K c_3 = some (0, 0) ∧ (mSI mX4_hasPlaceFor [.ref b0_2, .ref c_3, .int (gi x c_3 2), .int 0] K x (fun r_7 y_6 => (r_7 = 0 → (GI mX7_blocked 44 [some (.ref b0), some (.int l1), some (.ref c_3), some (.int 0), some (.int 0)] [] K y_6 Q)) ∧ (¬ r_7 = 0 → (Q 0 y_6)))))))) ∧ (¬ (0 ≤ l1 ∧ l1 < gi x b0_2 4) → (Q (-2) x))) : mSI mX7_blocked [.ref b0, .int l1] K x Q := by
  refine s_I (by decide) (by simp [Value.category]) (Nat.le_of_ble_eq_true rfl) ?_
  show mGM mX7_blocked 0 [some (.ref b0), some (.int l1), none, none, none] [] (hp K x) (PI K Q)
  refine r_aload_n (pc := 0) dX7_blocked_0 rfl ?_
  refine r_iload_n (pc := 1) dX7_blocked_1 rfl ?_
  refine s_VI (pc := 2) mX7_isAsk (ci := 7) (a := b0) (As := [.int l1]) dX7_blocked_2 lk_X7_173 in_X7_isAsk mo_X7_isAsk ⟨by decide, rfl⟩ ⟨by decide, by decide⟩ (Nat.le_of_ble_eq_true rfl) k_b0 (sp_X7_isAsk k_b0 g_b0_2 k_b0_2 ?_)
  refine r_if_ne (pc := 5) (tgt := 11) dX7_blocked_5 (by decide) (fun q => ?_) (fun q => ?_)
  · have q := b2i_nz q
    have K0 := K0.1 q
    refine r_aload_n (pc := 11) dX7_blocked_11 rfl ?_
    refine s_getR (pc := 12) dX7_blocked_12 fl_X7_20 rfl k_b0 g_b0_2 ?_
    refine s_getR (pc := 15) dX7_blocked_15 fl_X7_176 rfl k_b0_2 g_b0_2_8 ?_
    refine r_iload_n (pc := 18) dX7_blocked_18 rfl ?_
    obtain ⟨i_2, K0⟩ := K0
    obtain ⟨c_3, g_4, K0⟩ := K0
    refine s_aald (pc := 19) dX7_blocked_19 (by decide) rfl k_b0_2_8 i_2 g_4 ?_
    refine r_astore_n (pc := 20) dX7_blocked_20 (by decide) ?_
    refine r_aload_n (pc := 21) (L := [some (.ref b0), some (.int l1), some (.ref c_3), none, none]) dX7_blocked_21 rfl ?_
    refine s_getR (pc := 22) dX7_blocked_22 fl_X7_20 rfl k_b0 g_b0_2 ?_
    refine r_aload_n (pc := 25) dX7_blocked_25 rfl ?_
    refine r_aload_n (pc := 26) dX7_blocked_26 rfl ?_
    obtain ⟨e_5, K0⟩ := K0
    refine s_getI (pc := 27) dX7_blocked_27 fl_X7_184 rfl e_5 ?_
    refine r_iconst (pc := 30) (v := 0) dX7_blocked_30 (by decide) ?_
    refine s_VI (pc := 31) mX4_hasPlaceFor (ci := 4) (a := b0_2) (As := [.ref c_3, .int (gi x c_3 2), .int 0]) dX7_blocked_31 lk_X7_299 in_X4_hasPlaceFor mo_X4_hasPlaceFor ⟨by decide, rfl⟩ ⟨by decide, by decide⟩ (Nat.le_of_ble_eq_true rfl) k_b0_2 (mSI_mono K0 (fun r_7 y_6 K0 => ?_))
    refine r_if_eq (pc := 34) (tgt := 39) dX7_blocked_34 (by decide) (fun q => ?_) (fun q => ?_)
    · have K0 := K0.1 q
      refine r_iconst (pc := 39) (v := 0) dX7_blocked_39 (by decide) ?_
      refine r_istore_n (pc := 40) dX7_blocked_40 (by decide) ?_
      refine r_iconst (pc := 41) (L := [some (.ref b0), some (.int l1), some (.ref c_3), some (.int 0), none]) (v := 0) dX7_blocked_41 (by decide) ?_
      refine r_istore (pc := 42) dX7_blocked_42 (by decide) ?_
      exact r_le (L' := [some (.ref b0), some (.int l1), some (.ref c_3), some (.int 0), some (.int 0)]) ⟨rfl, ⟨rfl, ⟨rfl, ⟨rfl, ⟨rfl, trivial⟩⟩⟩⟩⟩ K0
    · have K0 := K0.2 q
      refine r_iconst (pc := 37) (v := 0) dX7_blocked_37 (by decide) ?_
      exact s_iret rfl dX7_blocked_38 K0
  · have q := (b2i_z _).mp q
    have K0 := K0.2 q
    refine r_bipush (pc := 8) (v := (-2)) dX7_blocked_8 (by decide) ?_
    exact s_iret rfl dX7_blocked_10 K0
set_option maxHeartbeats 2000000 in
theorem v_X7_blocked_44 {K : Sh} {x : Cn} {Q : Int32 → Cn → Prop} {b0 : Nat} {l1 : Int32} {b2 : Nat} {l3 : Int32} {l4 : Int32} {b0_2 : Nat} (k_b0 : kk K b0 = some (7, 0)) (g_b0_2 : gr x b0 2 = some b0_2) (k_b0_2 : kk K b0_2 = some (4, 0)) (k_b2 : kk K b2 = some (0, 0)) (K0 : ((gi x b0_2 3) ≤ l4 → (Q l3 x)) ∧ (¬ (gi x b0_2 3) ≤ l4 → (mSI mX4_hasPlaceFor [.ref b0_2, .ref b2, .int (gi x b2 2), .int (1 <<< (l4 &&& 31))] K x (fun r_3 y_2 => (r_3 = 0 → (GI mX7_blocked 44 [some (.ref b0), some (.int l1), some (.ref b2), some (.int l3), some (.int (l4 + 1))] [] K y_2 Q)) ∧ (¬ r_3 = 0 → (GI mX7_blocked 44 [some (.ref b0), some (.int l1), some (.ref b2), some (.int (l3 ||| (1 <<< (l4 &&& 31)))), some (.int (l4 + 1))] [] K y_2 Q)))))) : GI mX7_blocked 44 [some (.ref b0), some (.int l1), some (.ref b2), some (.int l3), some (.int l4)] [] K x Q := by
  show mGM mX7_blocked 44 [some (.ref b0), some (.int l1), some (.ref b2), some (.int l3), some (.int l4)] [] (hp K x) (PI K Q)
  refine r_iload (pc := 44) dX7_blocked_44 rfl ?_
  refine r_aload_n (pc := 46) dX7_blocked_46 rfl ?_
  refine s_getR (pc := 47) dX7_blocked_47 fl_X7_20 rfl k_b0 g_b0_2 ?_
  refine s_getI (pc := 50) dX7_blocked_50 fl_X7_97 rfl k_b0_2 ?_
  refine r_icmp_ge (pc := 53) (tgt := 88) dX7_blocked_53 (by decide) (fun q => ?_) (fun q => ?_)
  · have K0 := K0.1 q
    refine r_iload_n (pc := 88) dX7_blocked_88 rfl ?_
    exact s_iret rfl dX7_blocked_89 K0
  · have K0 := K0.2 q
    refine r_aload_n (pc := 56) dX7_blocked_56 rfl ?_
    refine s_getR (pc := 57) dX7_blocked_57 fl_X7_20 rfl k_b0 g_b0_2 ?_
    refine r_aload_n (pc := 60) dX7_blocked_60 rfl ?_
    refine r_aload_n (pc := 61) dX7_blocked_61 rfl ?_
    refine s_getI (pc := 62) dX7_blocked_62 fl_X7_184 rfl k_b2 ?_
    refine r_iconst (pc := 65) (v := 1) dX7_blocked_65 (by decide) ?_
    refine r_iload (pc := 66) dX7_blocked_66 rfl ?_
    refine r_ishl (pc := 68) dX7_blocked_68 ?_
    refine s_VI (pc := 69) mX4_hasPlaceFor (ci := 4) (a := b0_2) (As := [.ref b2, .int (gi x b2 2), .int (1 <<< (l4 &&& 31))]) dX7_blocked_69 lk_X7_299 in_X4_hasPlaceFor mo_X4_hasPlaceFor ⟨by decide, rfl⟩ ⟨by decide, by decide⟩ (Nat.le_of_ble_eq_true rfl) k_b0_2 (mSI_mono K0 (fun r_3 y_2 K0 => ?_))
    refine r_if_eq (pc := 72) (tgt := 82) dX7_blocked_72 (by decide) (fun q => ?_) (fun q => ?_)
    · have K0 := K0.1 q
      refine r_iinc (pc := 82) (v := l4 + 1) dX7_blocked_82 rfl rfl (by decide) ?_
      refine r_goto (pc := 85) (L := [some (.ref b0), some (.int l1), some (.ref b2), some (.int l3), some (.int (l4 + 1))]) (tgt := 44) dX7_blocked_85 (by decide) ?_
      exact r_le (L' := [some (.ref b0), some (.int l1), some (.ref b2), some (.int l3), some (.int (l4 + 1))]) ⟨rfl, ⟨rfl, ⟨rfl, ⟨rfl, ⟨rfl, trivial⟩⟩⟩⟩⟩ K0
    · have K0 := K0.2 q
      refine r_iload_n (pc := 75) dX7_blocked_75 rfl ?_
      refine r_iconst (pc := 76) (v := 1) dX7_blocked_76 (by decide) ?_
      refine r_iload (pc := 77) dX7_blocked_77 rfl ?_
      refine r_ishl (pc := 79) dX7_blocked_79 ?_
      refine r_ior (pc := 80) dX7_blocked_80 ?_
      refine r_istore_n (pc := 81) dX7_blocked_81 (by decide) ?_
      refine r_iinc (pc := 82) (L := [some (.ref b0), some (.int l1), some (.ref b2), some (.int (l3 ||| (1 <<< (l4 &&& 31)))), some (.int l4)]) (v := l4 + 1) dX7_blocked_82 rfl rfl (by decide) ?_
      refine r_goto (pc := 85) (L := [some (.ref b0), some (.int l1), some (.ref b2), some (.int (l3 ||| (1 <<< (l4 &&& 31)))), some (.int (l4 + 1))]) (tgt := 44) dX7_blocked_85 (by decide) ?_
      exact r_le (L' := [some (.ref b0), some (.int l1), some (.ref b2), some (.int (l3 ||| (1 <<< (l4 &&& 31)))), some (.int (l4 + 1))]) ⟨rfl, ⟨rfl, ⟨rfl, ⟨rfl, ⟨rfl, trivial⟩⟩⟩⟩⟩ K0
set_option maxHeartbeats 2000000 in
theorem v_X8_blocked_0 {K : Sh} {x : Cn} {Q : Int32 → Cn → Prop} {b0 : Nat} {l1 : Int32} {b0_1 : Nat} {n_b0_1 : Nat} {b0_3 : Nat} {n_b0_3 : Nat} (k_b0 : kk K b0 = some (8, 0)) (g_b0_1 : gr x b0 1 = some b0_1) (k_b0_1 : kk K b0_1 = some (20, n_b0_1)) (g_b0_3 : gr x b0 3 = some b0_3) (k_b0_3 : kk K b0_3 = some (20, n_b0_3)) (K0 : vp_in 3 n_b0_1 ∧ (((0 ≤ l1 ∧ l1 ≤ gi x b0_1 3 - 1) → ((l24 l1 n_b0_3) ∧ (((f_span (ao (gi x b0_3) (l1 : Int32).toNatClampNeg 4) (ao (gi x b0_3) (l1 : Int32).toNatClampNeg 5) &&& f_span (gi x b0_3 4) (gi x b0_3 0 - 1)) = 0 → (Q 0 x)) ∧ (¬ (f_span (ao (gi x b0_3) (l1 : Int32).toNatClampNeg 4) (ao (gi x b0_3) (l1 : Int32).toNatClampNeg 5) &&& f_span (gi x b0_3 4) (gi x b0_3 0 - 1)) = 0 → (mSI mX8_canAsk [.ref b0, .int l1, .int (ao (gi x b0_3) (l1 : Int32).toNatClampNeg 2), .int (-1)] K x (fun r_6 y_5 => (r_6 = 0 → (GI mX8_blocked 40 [some (.ref b0), some (.int l1), some (.int 0), some (.int 0)] [] K y_5 Q)) ∧ (¬ r_6 = 0 → (Q 0 y_5)))))))) ∧ (¬ (0 ≤ l1 ∧ l1 ≤ gi x b0_1 3 - 1) → (Q (-2) x)))) : mSI mX8_blocked [.ref b0, .int l1] K x Q := by
  refine s_I (by decide) (by simp [Value.category]) (Nat.le_of_ble_eq_true rfl) ?_
  show mGM mX8_blocked 0 [some (.ref b0), some (.int l1), none, none] [] (hp K x) (PI K Q)
  refine r_aload_n (pc := 0) dX8_blocked_0 rfl ?_
  refine r_iload_n (pc := 1) dX8_blocked_1 rfl ?_
  obtain ⟨i_1, K0⟩ := K0
  refine s_VI (pc := 2) mX8_isAsk (ci := 8) (a := b0) (As := [.int l1]) dX8_blocked_2 lk_X8_281 in_X8_isAsk mo_X8_isAsk ⟨by decide, rfl⟩ ⟨by decide, by decide⟩ (Nat.le_of_ble_eq_true rfl) k_b0 (sp_X8_isAsk k_b0 g_b0_1 k_b0_1 i_1 ?_)
  refine r_if_ne (pc := 5) (tgt := 11) dX8_blocked_5 (by decide) (fun q => ?_) (fun q => ?_)
  · have q := b2i_nz q
    have K0 := K0.1 q
    refine r_aload_n (pc := 11) dX8_blocked_11 rfl ?_
    refine r_iload_n (pc := 12) dX8_blocked_12 rfl ?_
    obtain ⟨p_3, K0⟩ := K0
    refine s_VI (pc := 13) mX8_weeksOf (ci := 8) (a := b0) (As := [.int l1]) dX8_blocked_13 lk_X8_326 in_X8_weeksOf mo_X8_weeksOf ⟨by decide, rfl⟩ ⟨by decide, by decide⟩ (Nat.le_of_ble_eq_true rfl) k_b0 (sr_X8_weeksOf k_b0 g_b0_3 k_b0_3 p_3 ?_)
    refine r_if_eq (pc := 16) (tgt := 34) dX8_blocked_16 (by decide) (fun q => ?_) (fun q => ?_)
    · have K0 := K0.1 q
      refine r_iconst (pc := 34) (v := 0) dX8_blocked_34 (by decide) ?_
      exact s_iret rfl dX8_blocked_35 K0
    · have K0 := K0.2 q
      refine r_aload_n (pc := 19) dX8_blocked_19 rfl ?_
      refine r_iload_n (pc := 20) dX8_blocked_20 rfl ?_
      refine r_aload_n (pc := 21) dX8_blocked_21 rfl ?_
      refine r_iload_n (pc := 22) dX8_blocked_22 rfl ?_
      refine r_iconst (pc := 23) (v := 2) dX8_blocked_23 (by decide) ?_
      refine s_VI (pc := 24) mX8_ask0 (ci := 8) (a := b0) (As := [.int l1, .int 2]) dX8_blocked_24 lk_X8_284 in_X8_ask0 mo_X8_ask0 ⟨by decide, rfl⟩ ⟨by decide, by decide⟩ (Nat.le_of_ble_eq_true rfl) k_b0 (sr_X8_ask0 k_b0 g_b0_3 k_b0_3 p_3 ⟨by decide, by decide⟩ ?_)
      refine r_iconst (pc := 27) (v := (-1)) dX8_blocked_27 (by decide) ?_
      refine s_VI (pc := 28) mX8_canAsk (ci := 8) (a := b0) (As := [.int l1, .int (ao (gi x b0_3) (l1 : Int32).toNatClampNeg 2), .int (-1)]) dX8_blocked_28 lk_X8_329 in_X8_canAsk mo_X8_canAsk ⟨by decide, rfl⟩ ⟨by decide, by decide⟩ (Nat.le_of_ble_eq_true rfl) k_b0 (mSI_mono K0 (fun r_6 y_5 K0 => ?_))
      refine r_if_eq (pc := 31) (tgt := 36) dX8_blocked_31 (by decide) (fun q => ?_) (fun q => ?_)
      · have K0 := K0.1 q
        refine r_iconst (pc := 36) (v := 0) dX8_blocked_36 (by decide) ?_
        refine r_istore_n (pc := 37) dX8_blocked_37 (by decide) ?_
        refine r_iconst (pc := 38) (L := [some (.ref b0), some (.int l1), some (.int 0), none]) (v := 0) dX8_blocked_38 (by decide) ?_
        refine r_istore_n (pc := 39) dX8_blocked_39 (by decide) ?_
        exact r_le (L' := [some (.ref b0), some (.int l1), some (.int 0), some (.int 0)]) ⟨rfl, ⟨rfl, ⟨rfl, ⟨rfl, trivial⟩⟩⟩⟩ K0
      · have K0 := K0.2 q
        refine r_iconst (pc := 34) (v := 0) dX8_blocked_34 (by decide) ?_
        exact s_iret rfl dX8_blocked_35 K0
  · have q := (b2i_z _).mp q
    have K0 := K0.2 q
    refine r_bipush (pc := 8) (v := (-2)) dX8_blocked_8 (by decide) ?_
    exact s_iret rfl dX8_blocked_10 K0
set_option maxHeartbeats 2000000 in
theorem v_X8_blocked_40 {K : Sh} {x : Cn} {Q : Int32 → Cn → Prop} {b0 : Nat} {l1 : Int32} {l2 : Int32} {l3 : Int32} {b0_1 : Nat} {n_b0_1 : Nat} {b0_3 : Nat} {n_b0_3 : Nat} (k_b0 : kk K b0 = some (8, 0)) (g_b0_1 : gr x b0 1 = some b0_1) (k_b0_1 : kk K b0_1 = some (20, n_b0_1)) (g_b0_3 : gr x b0 3 = some b0_3) (k_b0_3 : kk K b0_3 = some (20, n_b0_3)) (K0 : vp_in 2 n_b0_1 ∧ (((gi x b0_1 2) ≤ l3 → (Q l2 x)) ∧ (¬ (gi x b0_1 2) ≤ l3 → ((l24 l1 n_b0_3) ∧ (mSI mX8_canAsk [.ref b0, .int l1, .int (ao (gi x b0_3) (l1 : Int32).toNatClampNeg 2), .int l3] K x (fun r_5 y_4 => (r_5 = 0 → (GI mX8_blocked 40 [some (.ref b0), some (.int l1), some (.int (l2 ||| 0)), some (.int (l3 + 1))] [] K y_4 Q)) ∧ (¬ r_5 = 0 → (GI mX8_blocked 40 [some (.ref b0), some (.int l1), some (.int (l2 ||| (1 <<< (l3 &&& 31)))), some (.int (l3 + 1))] [] K y_4 Q)))))))) : GI mX8_blocked 40 [some (.ref b0), some (.int l1), some (.int l2), some (.int l3)] [] K x Q := by
  show mGM mX8_blocked 40 [some (.ref b0), some (.int l1), some (.int l2), some (.int l3)] [] (hp K x) (PI K Q)
  refine r_iload_n (pc := 40) dX8_blocked_40 rfl ?_
  refine r_aload_n (pc := 41) dX8_blocked_41 rfl ?_
  refine s_getR (pc := 42) dX8_blocked_42 fl_X8_9 rfl k_b0 g_b0_1 ?_
  refine r_iconst (pc := 45) (v := 2) dX8_blocked_45 (by decide) ?_
  obtain ⟨i_1, K0⟩ := K0
  refine s_iald (pc := 46) dX8_blocked_46 k_b0_1 i_1 ?_
  refine r_icmp_ge (pc := 47) (tgt := 81) dX8_blocked_47 (by decide) (fun q => ?_) (fun q => ?_)
  · have K0 := K0.1 q
    refine r_iload_n (pc := 81) dX8_blocked_81 rfl ?_
    exact s_iret rfl dX8_blocked_82 K0
  · have K0 := K0.2 q
    refine r_iload_n (pc := 50) dX8_blocked_50 rfl ?_
    refine r_aload_n (pc := 51) dX8_blocked_51 rfl ?_
    refine r_iload_n (pc := 52) dX8_blocked_52 rfl ?_
    refine r_aload_n (pc := 53) dX8_blocked_53 rfl ?_
    refine r_iload_n (pc := 54) dX8_blocked_54 rfl ?_
    refine r_iconst (pc := 55) (v := 2) dX8_blocked_55 (by decide) ?_
    obtain ⟨p_3, K0⟩ := K0
    refine s_VI (pc := 56) mX8_ask0 (ci := 8) (a := b0) (As := [.int l1, .int 2]) dX8_blocked_56 lk_X8_284 in_X8_ask0 mo_X8_ask0 ⟨by decide, rfl⟩ ⟨by decide, by decide⟩ (Nat.le_of_ble_eq_true rfl) k_b0 (sr_X8_ask0 k_b0 g_b0_3 k_b0_3 p_3 ⟨by decide, by decide⟩ ?_)
    refine r_iload_n (pc := 59) dX8_blocked_59 rfl ?_
    refine s_VI (pc := 60) mX8_canAsk (ci := 8) (a := b0) (As := [.int l1, .int (ao (gi x b0_3) (l1 : Int32).toNatClampNeg 2), .int l3]) dX8_blocked_60 lk_X8_329 in_X8_canAsk mo_X8_canAsk ⟨by decide, rfl⟩ ⟨by decide, by decide⟩ (Nat.le_of_ble_eq_true rfl) k_b0 (mSI_mono K0 (fun r_5 y_4 K0 => ?_))
    refine r_if_eq (pc := 63) (tgt := 72) dX8_blocked_63 (by decide) (fun q => ?_) (fun q => ?_)
    · have K0 := K0.1 q
      refine r_iconst (pc := 72) (v := 0) dX8_blocked_72 (by decide) ?_
      refine r_ior (pc := 73) dX8_blocked_73 ?_
      refine r_istore_n (pc := 74) dX8_blocked_74 (by decide) ?_
      refine r_iinc (pc := 75) (L := [some (.ref b0), some (.int l1), some (.int (l2 ||| 0)), some (.int l3)]) (v := l3 + 1) dX8_blocked_75 rfl rfl (by decide) ?_
      refine r_goto (pc := 78) (L := [some (.ref b0), some (.int l1), some (.int (l2 ||| 0)), some (.int (l3 + 1))]) (tgt := 40) dX8_blocked_78 (by decide) ?_
      exact r_le (L' := [some (.ref b0), some (.int l1), some (.int (l2 ||| 0)), some (.int (l3 + 1))]) ⟨rfl, ⟨rfl, ⟨rfl, ⟨rfl, trivial⟩⟩⟩⟩ K0
    · have K0 := K0.2 q
      refine r_iconst (pc := 66) (v := 1) dX8_blocked_66 (by decide) ?_
      refine r_iload_n (pc := 67) dX8_blocked_67 rfl ?_
      refine r_ishl (pc := 68) dX8_blocked_68 ?_
      refine r_goto (pc := 69) (tgt := 73) dX8_blocked_69 (by decide) ?_
      refine r_ior (pc := 73) dX8_blocked_73 ?_
      refine r_istore_n (pc := 74) dX8_blocked_74 (by decide) ?_
      refine r_iinc (pc := 75) (L := [some (.ref b0), some (.int l1), some (.int (l2 ||| (1 <<< (l3 &&& 31)))), some (.int l3)]) (v := l3 + 1) dX8_blocked_75 rfl rfl (by decide) ?_
      refine r_goto (pc := 78) (L := [some (.ref b0), some (.int l1), some (.int (l2 ||| (1 <<< (l3 &&& 31)))), some (.int (l3 + 1))]) (tgt := 40) dX8_blocked_78 (by decide) ?_
      exact r_le (L' := [some (.ref b0), some (.int l1), some (.int (l2 ||| (1 <<< (l3 &&& 31)))), some (.int (l3 + 1))]) ⟨rfl, ⟨rfl, ⟨rfl, ⟨rfl, trivial⟩⟩⟩⟩ K0
theorem eq_fits (a : Int32) : Both mX7_fits mX8_fits [.int a] := by
  intro x R
  obtain ⟨W, C, S, A, N, E, -, -⟩ := R.sea
  have hn := E.nums
  have hA : A ≤ 24 := hn.2.2.2.2.2.2.2.1
  have hW : W ≤ 30 := hn.2.2.2.2.1
  have hN : N ≤ W := hn.2.2.2.2.2.2.2.2
  have ia := inN' (v := a) (n := A) (by omega)
  let F : TT → Int32 := fun T => if 0 ≤ a ∧ a < nI A then (if nI N ≤ ao T a.toNatClampNeg 5 then bP (fitA T S N a.toNatClampNeg (ao T a.toNatClampNeg 2).toNatClampNeg 0) else -1) else -2
  have rf : ∀ y, EQx x y 7 → mSI mX8_fits [.ref 717, .int a] KW y (fun r' z => F (gi x 718) = r' ∧ Rel z) := by
    intro y hy
    obtain ⟨R2, eT⟩ := R.e7 hy
    have E2 := E.eqx hy (Or.inl rfl)
    rw [← eT] at E2 ⊢
    have ht := Rel.t2 E2
    refine v_X8_fits_0 km R2.2.1.1 km1 R2.2.1.2.2.1 km1 ⟨v0 (k := 3) (by decide) rfl rfl, ?_⟩
    rw [ht.2.2.2.1, ia]
    refine ⟨fun z => ?_, fun z => ⟨if_neg z, R2⟩⟩
    have eF : F (gi y 718) = (if nI N ≤ ao (gi y 718) a.toNatClampNeg 5 then bP (fitA (gi y 718) S N a.toNatClampNeg (ao (gi y 718) a.toNatClampNeg 2).toNatClampNeg 0) else -1) := if_pos z
    rw [eF]
    obtain ⟨i, hi, rfl⟩ := inN (by omega) z
    rw [nI_clamp (show i < 2 ^ 31 by omega)]
    obtain ⟨-, -, ⟨h, h1, h2⟩, -, ⟨f, l, f1, f2, f3, f4⟩, -⟩ := E2.2.2.2.2.2.2.2.2.2.2.2.2.2.2.2.2 i hi
    refine ⟨l24_nI (by omega) rfl, ?_⟩
    rw [f3, f4, ht.2.2.2.2, ht.1, span_and0 (by omega) f2 hW hN, h2, nI_clamp (show h < 2 ^ 31 by omega)]
    refine ⟨fun w => ?_, fun w => ⟨if_neg (nI_ge w (by omega)), R2⟩⟩
    rw [if_pos (nI_le (by omega) (by omega))]
    exact sp_X8_canAsk R2.2.1 km1 E2.2.2.2 hi h1 wo_0 ⟨fun g => ⟨g, R2⟩, fun g => ⟨(bP_01 _).resolve_left g, R2⟩⟩
  refine v_X7_fits_0 k0 R.1.2.1 (ks0 E.1) E.2.1.2.2.2.1 (ks4 E.1) ?_
  rw [hn.2.2.2.1, hn.2.1]
  refine ⟨fun z => ?_, fun z => ?_⟩
  · have eF : F (gi x 718) = (if nI N ≤ ao (gi x 718) a.toNatClampNeg 5 then bP (fitA (gi x 718) S N a.toNatClampNeg (ao (gi x 718) a.toNatClampNeg 2).toNatClampNeg 0) else -1) := if_pos z
    rw [eF] at rf
    obtain ⟨i, hi, rfl⟩ := inN (by omega) z
    rw [nI_clamp (show i < 2 ^ 31 by omega)] at rf ⊢
    obtain ⟨p, e1, e2, e3, e4⟩ := E.ask hi
    obtain ⟨-, -, ⟨h, h1, h2⟩, -⟩ := e4
    refine ⟨vp_in_nI (by omega) (by decide), p, e1, e2, ?_⟩
    rw [e3 5 (by decide), e3 2 (by decide), h2]
    rw [h2, nI_clamp (show h < 2 ^ 31 by omega)] at rf
    refine ⟨fun w => ?_, fun w => ?_⟩
    · rw [if_pos w] at rf
      exact sp_X4_hasPlaceFor E e2 e3 h1 (fun y hy => ⟨fun g => by have := rf y hy; rwa [g] at this, fun g => by have := rf y hy; rwa [(bP_01 _).resolve_left g] at this⟩)
    · have := rf x (EQx.rf _ _)
      rwa [if_neg w] at this
  · have eF : F (gi x 718) = -2 := if_neg z
    have := rf x (EQx.rf _ _)
    rwa [eF] at this
theorem eq_fitting (a b c d : Int32) : Both mX7_fitting mX8_fitting [.int a, .int b, .int c, .int d] := by
  intro x R
  obtain ⟨W, C, S, A, N, E, -, -⟩ := R.sea
  have hn := E.nums
  have hW : W ≤ 30 := hn.2.2.2.2.1
  have hN : N ≤ W := hn.2.2.2.2.2.2.2.2
  have ic := inN' (v := c) (n := W) (by omega)
  have id := inN' (v := d) (n := W) (by omega)
  have ib : (0 ≤ b ∧ b ≤ 1) ↔ (b = 0 ∨ b = 1) := by
    constructor
    · intro z
      obtain ⟨j, hj, rfl⟩ := nI_of2 (M := 1) (n := 1) (by decide) (Int32.not_lt.mpr z.1) z.2
      have : j = 0 ∨ j = 1 := by omega
      rcases this with rfl | rfl
      · exact Or.inl rfl
      · exact Or.inr rfl
    · rintro (rfl | rfl) <;> decide
  let OK : Prop := (0 < nI W ∧ 0 ≤ a ∧ a < 7) ∧ (b = 0 ∨ b = 1) ∧ (0 ≤ c ∧ c < nI W) ∧ (0 ≤ d ∧ d < nI W) ∧ c ≤ d
  let g : TT → Nat → Int32 → Int32 := fun T => orP (fun h => bP (fitC T S N a h b (f_sb c d) 0))
  have rf : ∀ y, EQx x y 7 → mSI mX8_fitting [.ref 717, .int a, .int b, .int c, .int d] KW y (fun r' z => ((OK → accT (g (gi x 718)) 24 0 = r') ∧ (¬ OK → -2 = r')) ∧ Rel z) := by
    intro y hy
    obtain ⟨R2, eT⟩ := R.e7 hy
    have E2 := E.eqx hy (Or.inl rfl)
    rw [← eT] at E2 ⊢
    have ht := Rel.t2 E2
    refine v_X8_fitting_0 km R2.2.1.1 km1 ⟨v0 (k := 0) (by decide) rfl rfl, ?_⟩
    rw [ht.1, d7, ib, ic, id]
    have no : ¬ OK → ((OK → accT (g (gi y 718)) 24 0 = -2) ∧ (¬ OK → (-2 : Int32) = -2)) ∧ Rel y := fun z => ⟨⟨fun w => absurd w z, fun _ => rfl⟩, R2⟩
    refine ⟨fun z => no (fun w => z w.1), fun z1 => ⟨fun z => no (fun w => z w.2.1), fun z2 => ⟨fun z => no (fun w => z w.2.2.1), fun z3 => ⟨fun z => no (fun w => z w.2.2.2.1), fun z4 => ⟨fun z5 => ?_, fun z => no (fun w => z w.2.2.2.2)⟩⟩⟩⟩⟩
    have ok : OK := ⟨z1, z2, z3, z4, z5⟩
    obtain ⟨f, hf, rfl⟩ := inN (by omega) z3
    obtain ⟨l, hl, rfl⟩ := inN (by omega) z4
    have hfl : f ≤ l := (nI_leI (by omega) (by omega)).mp z5
    refine lp_acc (g (gi y 718)) (fun h n => GI mX8_fitting 50 [some (.ref 717), some (.int a), some (.int b), some (.int (nI f)), some (.int (nI l)), some (.int n), some (.int (nI h))] [] KW y _) 24 0 ?_ (fun h n hh n1 => ?_)
    · exact v_X8_fitting_50 km ⟨fun _ => ⟨⟨fun _ => rfl, fun w => absurd ok w⟩, R2⟩, fun z => absurd (Int32.le_refl _) z⟩
    · refine v_X8_fitting_50 km ⟨fun z => absurd z (nI_ge (b := 24) hh (by decide)), fun _ => ?_⟩
      refine sp_X8_canBe R2.2.1 km1 E2.2.2.2 hh z2 ?_ wo_0 ?_
      · intro i hi w1 _
        rw [tb_span0 f (by omega) l (by omega) i hi] at w1
        have := of_decide_eq_true w1
        omega
      · rw [nI_1, Int32.or_zero, ← sb_span hfl (by omega)]
        exact ⟨fun w => n1 _ (if_pos w), fun w => n1 _ (if_neg w)⟩
  have rfn : ¬ OK → mSI mX8_fitting [.ref 717, .int a, .int b, .int c, .int d] KW x (fun r' z => -2 = r' ∧ Rel z) := fun z => mSI_mono (rf x (EQx.rf _ _)) (fun r y w => ⟨w.1.2 z, w.2⟩)
  refine v_X7_fitting_0 k0 R.1.2.1 (ks0 E.1) ?_
  rw [hn.1]
  refine ⟨fun z => rfn (fun w => z w.1), fun z1 => ⟨fun z => rfn (fun w => z w.2.1), fun z2 => ⟨fun z => rfn (fun w => z w.2.2.1), fun z3 => ⟨fun z => rfn (fun w => z w.2.2.2.1), fun z4 => ⟨fun z5 => ?_, fun z => rfn (fun w => z w.2.2.2.2)⟩⟩⟩⟩⟩
  have ok : OK := ⟨z1, z2, z3, z4, z5⟩
  refine lp_acc (g (gi x 718)) (fun h n => ∀ y, EQx x y 7 → GI mX7_fitting 55 [some (.ref 0), some (.int a), some (.int b), some (.int c), some (.int d), some (.int (f_sb c d)), some (.int n), some (.int (nI h))] [] KW y _) 24 0 ?_ (fun h n hh n1 => ?_) x (EQx.rf _ _)
  · intro y hy
    have c1 := R.1.keep hy.1
    exact v_X7_fitting_55 k0 c1.2.1 (ks0 E.1) ⟨fun _ => mSI_mono (rf y hy) (fun r z w => ⟨w.1.1 ok, w.2⟩), fun z => absurd (Int32.le_refl _) z⟩
  · intro y hy
    have c1 := R.1.keep hy.1
    have E2 := E.eqx hy (Or.inl rfl)
    refine v_X7_fitting_55 k0 c1.2.1 (ks0 E.1) ⟨fun z => absurd z (nI_ge (b := 24) hh (by decide)), fun _ => ?_⟩
    refine sp_X4_hasPlace E2 hh (fun z hz => ?_)
    rw [nI_1]
    exact ⟨fun w => n1 _ (if_pos w) z (hy.tr hz), fun w => n1 _ (if_neg w) z (hy.tr hz)⟩
theorem eq_blocked (a : Int32) : Both mX7_blocked mX8_blocked [.int a] := by
  intro x R
  obtain ⟨W, C, S, A, N, E, -, -⟩ := R.sea
  have hn := E.nums
  have hA : A ≤ 24 := hn.2.2.2.2.2.2.2.1
  have hS : S ≤ 24 := hn.2.2.2.2.2.2.1
  have hW : W ≤ 30 := hn.2.2.2.2.1
  have hN : N ≤ W := hn.2.2.2.2.2.2.2.2
  have ia := inN' (v := a) (n := A) (by omega)
  let g : TT → Nat → Nat → Nat → Int32 → Int32 := fun T i h => orP (fun s => bP (fitA T S N i h (1 <<< (nI s &&& 31))))
  let F : TT → Int32 := fun T => if 0 ≤ a ∧ a < nI A then (if bP (fitA T S N a.toNatClampNeg (ao T a.toNatClampNeg 2).toNatClampNeg 0) = 0 then accT (g T a.toNatClampNeg (ao T a.toNatClampNeg 2).toNatClampNeg) S 0 else 0) else -2
  have rf : ∀ y, EQx x y 7 → mSI mX8_blocked [.ref 717, .int a] KW y (fun r' z => F (gi x 718) = r' ∧ Rel z) := by
    intro y hy
    obtain ⟨R2, eT⟩ := R.e7 hy
    have E2 := E.eqx hy (Or.inl rfl)
    rw [← eT] at E2 ⊢
    have ht := Rel.t2 E2
    refine v_X8_blocked_0 km R2.2.1.1 km1 R2.2.1.2.2.1 km1 ⟨v0 (k := 3) (by decide) rfl rfl, ?_⟩
    rw [ht.2.2.2.1, ia]
    refine ⟨fun z => ?_, fun z => ⟨if_neg z, R2⟩⟩
    have eF : F (gi y 718) = (if bP (fitA (gi y 718) S N a.toNatClampNeg (ao (gi y 718) a.toNatClampNeg 2).toNatClampNeg 0) = 0 then accT (g (gi y 718) a.toNatClampNeg (ao (gi y 718) a.toNatClampNeg 2).toNatClampNeg) S 0 else 0) := if_pos z
    rw [eF]
    obtain ⟨i, hi, rfl⟩ := inN (by omega) z
    rw [nI_clamp (show i < 2 ^ 31 by omega)]
    obtain ⟨-, -, ⟨h, h1, h2⟩, -, ⟨f, l, f1, f2, f3, f4⟩, -⟩ := E2.2.2.2.2.2.2.2.2.2.2.2.2.2.2.2.2 i hi
    refine ⟨l24_nI (by omega) rfl, ?_⟩
    rw [h2, nI_clamp (show h < 2 ^ 31 by omega)]
    refine ⟨fun w => ?_, fun _ => sp_X8_canAsk R2.2.1 km1 E2.2.2.2 hi h1 wo_0 ⟨fun w => ?_, fun w => ⟨if_neg w, R2⟩⟩⟩
    · rw [f3, f4, ht.2.2.2.2, ht.1, span_and0 (by omega) f2 hW hN] at w
      rw [if_neg]
      · exact ⟨rfl, R2⟩
      · rw [bP_t]
        · decide
        · intro j hj w1 w2
          rw [f3, f4, tb_sb0 f (by omega) l (by omega) (by omega) j hj] at w1
          have := of_decide_eq_true w1
          omega
    · rw [if_pos w]
      refine lp_acc (g (gi y 718) i h) (fun s n => GI mX8_blocked 40 [some (.ref 717), some (.int (nI i)), some (.int n), some (.int (nI s))] [] KW y _) S 0 ?_ (fun s n hs n1 => ?_)
      · exact v_X8_blocked_40 km R2.2.1.1 km1 R2.2.1.2.2.1 km1 ⟨v0 (k := 2) (by decide) rfl rfl, fun _ => ⟨rfl, R2⟩, fun z => absurd (by rw [ht.2.2.1]; exact Int32.le_refl _) z⟩
      · refine v_X8_blocked_40 km R2.2.1.1 km1 R2.2.1.2.2.1 km1 ⟨v0 (k := 2) (by decide) rfl rfl, fun z => absurd (by rw [ht.2.2.1] at z; exact z) (nI_ge hs (by omega)), fun _ => ⟨l24_nI (by omega) rfl, ?_⟩⟩
        rw [nI_clamp (show i < 2 ^ 31 by omega), h2, nI_1, Int32.or_zero]
        exact sp_X8_canAsk R2.2.1 km1 E2.2.2.2 hi h1 (wo_1 (by omega)) ⟨fun w => n1 _ (if_pos w), fun w => n1 _ (if_neg w)⟩
  refine v_X7_blocked_0 k0 R.1.2.1 (ks0 E.1) E.2.1.2.2.2.1 (ks4 E.1) ?_
  rw [hn.2.2.2.1]
  refine ⟨fun z => ?_, fun z => ?_⟩
  · have eF : F (gi x 718) = (if bP (fitA (gi x 718) S N a.toNatClampNeg (ao (gi x 718) a.toNatClampNeg 2).toNatClampNeg 0) = 0 then accT (g (gi x 718) a.toNatClampNeg (ao (gi x 718) a.toNatClampNeg 2).toNatClampNeg) S 0 else 0) := if_pos z
    rw [eF] at rf
    obtain ⟨i, hi, rfl⟩ := inN (by omega) z
    rw [nI_clamp (show i < 2 ^ 31 by omega)] at rf ⊢
    obtain ⟨p, e1, e2, e3, e4⟩ := E.ask hi
    obtain ⟨-, -, ⟨h, h1, h2⟩, -⟩ := e4
    refine ⟨vp_in_nI (by omega) (by decide), p, e1, e2, ?_⟩
    rw [e3 2 (by decide), h2]
    rw [h2, nI_clamp (show h < 2 ^ 31 by omega)] at rf
    refine sp_X4_hasPlaceFor E e2 e3 h1 (fun y hy => ⟨fun w => ?_, fun w => by have := rf y hy; rwa [if_neg w] at this⟩)
    rw [if_pos w] at rf
    refine lp_acc (g (gi x 718) i h) (fun s n => ∀ y, EQx x y 7 → GI mX7_blocked 44 [some (.ref 0), some (.int (nI i)), some (.ref p), some (.int n), some (.int (nI s))] [] KW y _) S 0 ?_ (fun s n hs n1 => ?_) y hy
    · intro y hy
      have c1 := R.1.keep hy.1
      have hn2 := (E.eqx hy (Or.inl rfl)).nums
      exact v_X7_blocked_44 k0 c1.2.1 (ks0 E.1) e2 ⟨fun _ => rf y hy, fun z => absurd (by rw [hn2.2.2.1]; exact Int32.le_refl _) z⟩
    · intro y hy
      have c1 := R.1.keep hy.1
      have E2 := E.eqx hy (Or.inl rfl)
      have hn2 := E2.nums
      have ep : gr y 6 i = some p := by unfold gr; rw [hy.1]; exact e1
      have e3' := E2.2.2.1.2.2.2.2.2.2.2 i p hi ep
      refine v_X7_blocked_44 k0 c1.2.1 (ks0 E.1) e2 ⟨fun z => absurd (by rw [hn2.2.2.1] at z; exact z) (nI_ge hs (by omega)), fun _ => ?_⟩
      rw [e3' 2 (by decide), h2, nI_1]
      exact sp_X4_hasPlaceFor E2 e2 e3' h1 (fun z hz => ⟨fun w => n1 _ (if_pos w) z (hy.tr hz), fun w => n1 _ (if_neg w) z (hy.tr hz)⟩)
  · have eF : F (gi x 718) = -2 := if_neg z
    have := rf x (EQx.rf _ _)
    rwa [eF] at this
end
/-! 41.hours.lean.txt -/
section
/-- the hour at which one is granted: c says where there is room -/
noncomputable def stH (c : Nat → Prop) (h : Nat) : Nat → Unit → Unit ⊕ Int32 := fun d _ => if d ≤ h ∧ ¬ bP (c (h - d)) = 0 then .inr (nI (h - d)) else if h + d < 24 ∧ ¬ bP (c (h + d)) = 0 then .inr (nI (h + d)) else .inl ()
noncomputable def hrF (T : TT) (S N a : Nat) : Int32 := if (ao T a 5).toNatClampNeg < N ∨ S = 24 then -1 else lpR (stH (fun h => fitA T S N a h 0) (ao T a 2).toNatClampNeg) (fun _ => -1) ((ao T a 6).toNatClampNeg + 1) 0 ()
set_option maxHeartbeats 2000000 in
theorem v_X4_hourFor_0 {K : Sh} {x : Cn} {Q : Int32 → Cn → Prop} {b0 : Nat} {b1 : Nat}  (k_b0 : kk K b0 = some (4, 0)) (k_b1 : kk K b1 = some (0, 0)) (K0 : (24 ≤ (gi x b0 3) → (Q (-1) x)) ∧ (¬ 24 ≤ (gi x b0 3) → (((gi x b0 1) ≤ (gi x b1 5) → (mSI mX4_hasPlace [.ref b0, .int (gi x b1 1), .int (gi x b1 2), .int (gi x b1 3), .int (f_sb (gi x b1 4) (gi x b1 5)), .int 0] K x (fun r_4 y_3 => (r_4 = 0 → (GI mX4_hourFor 55 [some (.ref b0), some (.ref b1), some (.int (f_sb (gi x b1 4) (gi x b1 5))), some (.int 1), none, none] [] K y_3 Q)) ∧ (¬ r_4 = 0 → (Q (gi y_3 b1 2) y_3))))) ∧ (¬ (gi x b0 1) ≤ (gi x b1 5) → (Q (-1) x))))) : mSI mX4_hourFor [.ref b0, .ref b1] K x Q := by
  refine s_I (by decide) (by simp [Value.category]) (Nat.le_of_ble_eq_true rfl) ?_
  show mGM mX4_hourFor 0 [some (.ref b0), some (.ref b1), none, none, none, none] [] (hp K x) (PI K Q)
  refine r_aload_n (pc := 0) dX4_hourFor_0 rfl ?_
  refine s_getI (pc := 1) dX4_hourFor_1 fl_X4_21 rfl k_b0 ?_
  refine r_bipush (pc := 4) (v := 24) dX4_hourFor_4 (by decide) ?_
  refine r_icmp_ge (pc := 6) (tgt := 20) dX4_hourFor_6 (by decide) (fun q => ?_) (fun q => ?_)
  · have K0 := K0.1 q
    refine r_iconst (pc := 20) (v := (-1)) dX4_hourFor_20 (by decide) ?_
    exact s_iret rfl dX4_hourFor_21 K0
  · have K0 := K0.2 q
    refine r_aload_n (pc := 9) dX4_hourFor_9 rfl ?_
    refine s_getI (pc := 10) dX4_hourFor_10 fl_X4_109 rfl k_b1 ?_
    refine r_aload_n (pc := 13) dX4_hourFor_13 rfl ?_
    refine s_getI (pc := 14) dX4_hourFor_14 fl_X4_15 rfl k_b0 ?_
    refine r_icmp_ge (pc := 17) (tgt := 22) dX4_hourFor_17 (by decide) (fun q => ?_) (fun q => ?_)
    · have K0 := K0.1 q
      refine r_aload_n (pc := 22) dX4_hourFor_22 rfl ?_
      refine s_VI (pc := 23) mX0_wantedBits (ci := 0) (a := b1) (As := []) dX4_hourFor_23 lk_X4_102 in_X0_wantedBits mo_X0_wantedBits ⟨by decide, rfl⟩ ⟨by decide, by decide⟩ (Nat.le_of_ble_eq_true rfl) k_b1 (sp_X0_wantedBits k_b1 ?_)
      refine r_istore_n (pc := 26) dX4_hourFor_26 (by decide) ?_
      refine r_aload_n (pc := 27) (L := [some (.ref b0), some (.ref b1), some (.int (f_sb (gi x b1 4) (gi x b1 5))), none, none, none]) dX4_hourFor_27 rfl ?_
      refine r_aload_n (pc := 28) dX4_hourFor_28 rfl ?_
      refine s_getI (pc := 29) dX4_hourFor_29 fl_X4_100 rfl k_b1 ?_
      refine r_aload_n (pc := 32) dX4_hourFor_32 rfl ?_
      refine s_getI (pc := 33) dX4_hourFor_33 fl_X4_112 rfl k_b1 ?_
      refine r_aload_n (pc := 36) dX4_hourFor_36 rfl ?_
      refine s_getI (pc := 37) dX4_hourFor_37 fl_X4_101 rfl k_b1 ?_
      refine r_iload_n (pc := 40) dX4_hourFor_40 rfl ?_
      refine r_iconst (pc := 41) (v := 0) dX4_hourFor_41 (by decide) ?_
      refine s_VI (pc := 42) mX4_hasPlace (ci := 4) (a := b0) (As := [.int (gi x b1 1), .int (gi x b1 2), .int (gi x b1 3), .int (f_sb (gi x b1 4) (gi x b1 5)), .int 0]) dX4_hourFor_42 lk_X4_105 in_X4_hasPlace mo_X4_hasPlace ⟨by decide, rfl⟩ ⟨by decide, by decide⟩ (Nat.le_of_ble_eq_true rfl) k_b0 (mSI_mono K0 (fun r_4 y_3 K0 => ?_))
      refine r_if_eq (pc := 45) (tgt := 53) dX4_hourFor_45 (by decide) (fun q => ?_) (fun q => ?_)
      · have K0 := K0.1 q
        refine r_iconst (pc := 53) (v := 1) dX4_hourFor_53 (by decide) ?_
        refine r_istore_n (pc := 54) dX4_hourFor_54 (by decide) ?_
        exact r_le (L' := [some (.ref b0), some (.ref b1), some (.int (f_sb (gi x b1 4) (gi x b1 5))), some (.int 1), none, none]) ⟨rfl, ⟨rfl, ⟨rfl, ⟨rfl, trivial⟩⟩⟩⟩ K0
      · have K0 := K0.2 q
        refine r_aload_n (pc := 48) dX4_hourFor_48 rfl ?_
        refine s_getI (pc := 49) dX4_hourFor_49 fl_X4_112 rfl k_b1 ?_
        exact s_iret rfl dX4_hourFor_52 K0
    · have K0 := K0.2 q
      refine r_iconst (pc := 20) (v := (-1)) dX4_hourFor_20 (by decide) ?_
      exact s_iret rfl dX4_hourFor_21 K0
set_option maxHeartbeats 2000000 in
theorem v_X4_hourFor_55 {K : Sh} {x : Cn} {Q : Int32 → Cn → Prop} {b0 : Nat} {b1 : Nat} {l2 : Int32} {l3 : Int32}  (k_b1 : kk K b1 = some (0, 0)) (k_b0 : kk K b0 = some (4, 0)) (K0 : ((gi x b1 6) < l3 → (Q (-1) x)) ∧ (¬ (gi x b1 6) < l3 → ((((gi x b1 2) - l3) < 0 → ((24 ≤ ((gi x b1 2) + l3) → (GI mX4_hourFor 55 [some (.ref b0), some (.ref b1), some (.int l2), some (.int (l3 + 1)), none, none] [] K x Q)) ∧ (¬ 24 ≤ ((gi x b1 2) + l3) → (mSI mX4_hasPlace [.ref b0, .int (gi x b1 1), .int ((gi x b1 2) + l3), .int (gi x b1 3), .int l2, .int 0] K x (fun r_5 y_4 => (r_5 = 0 → (GI mX4_hourFor 55 [some (.ref b0), some (.ref b1), some (.int l2), some (.int (l3 + 1)), none, none] [] K y_4 Q)) ∧ (¬ r_5 = 0 → (Q ((gi x b1 2) + l3) y_4))))))) ∧ (¬ ((gi x b1 2) - l3) < 0 → (mSI mX4_hasPlace [.ref b0, .int (gi x b1 1), .int ((gi x b1 2) - l3), .int (gi x b1 3), .int l2, .int 0] K x (fun r_8 y_7 => (r_8 = 0 → ((24 ≤ ((gi y_7 b1 2) + l3) → (GI mX4_hourFor 55 [some (.ref b0), some (.ref b1), some (.int l2), some (.int (l3 + 1)), none, none] [] K y_7 Q)) ∧ (¬ 24 ≤ ((gi y_7 b1 2) + l3) → (mSI mX4_hasPlace [.ref b0, .int (gi y_7 b1 1), .int ((gi y_7 b1 2) + l3), .int (gi y_7 b1 3), .int l2, .int 0] K y_7 (fun r_12 y_11 => (r_12 = 0 → (GI mX4_hourFor 55 [some (.ref b0), some (.ref b1), some (.int l2), some (.int (l3 + 1)), none, none] [] K y_11 Q)) ∧ (¬ r_12 = 0 → (Q ((gi y_7 b1 2) + l3) y_11))))))) ∧ (¬ r_8 = 0 → (Q ((gi x b1 2) - l3) y_7)))))))) : GI mX4_hourFor 55 [some (.ref b0), some (.ref b1), some (.int l2), some (.int l3), none, none] [] K x Q := by
  show mGM mX4_hourFor 55 [some (.ref b0), some (.ref b1), some (.int l2), some (.int l3), none, none] [] (hp K x) (PI K Q)
  refine r_iload_n (pc := 55) dX4_hourFor_55 rfl ?_
  refine r_aload_n (pc := 56) dX4_hourFor_56 rfl ?_
  refine s_getI (pc := 57) dX4_hourFor_57 fl_X4_113 rfl k_b1 ?_
  refine r_icmp_gt (pc := 60) (tgt := 141) dX4_hourFor_60 (by decide) (fun q => ?_) (fun q => ?_)
  · have K0 := K0.1 q
    refine r_iconst (pc := 141) (v := (-1)) dX4_hourFor_141 (by decide) ?_
    exact s_iret rfl dX4_hourFor_142 K0
  · have K0 := K0.2 q
    refine r_aload_n (pc := 63) dX4_hourFor_63 rfl ?_
    refine s_getI (pc := 64) dX4_hourFor_64 fl_X4_112 rfl k_b1 ?_
    refine r_iload_n (pc := 67) dX4_hourFor_67 rfl ?_
    refine r_isub (pc := 68) dX4_hourFor_68 ?_
    refine r_istore (pc := 69) dX4_hourFor_69 (by decide) ?_
    refine r_iload (pc := 71) (L := [some (.ref b0), some (.ref b1), some (.int l2), some (.int l3), some (.int ((gi x b1 2) - l3)), none]) dX4_hourFor_71 rfl ?_
    refine r_if_lt (pc := 73) (tgt := 98) dX4_hourFor_73 (by decide) (fun q => ?_) (fun q => ?_)
    · have K0 := K0.1 q
      refine r_aload_n (pc := 98) dX4_hourFor_98 rfl ?_
      refine s_getI (pc := 99) dX4_hourFor_99 fl_X4_112 rfl k_b1 ?_
      refine r_iload_n (pc := 102) dX4_hourFor_102 rfl ?_
      refine r_iadd (pc := 103) dX4_hourFor_103 ?_
      refine r_istore (pc := 104) dX4_hourFor_104 (by decide) ?_
      refine r_iload (pc := 106) (L := [some (.ref b0), some (.ref b1), some (.int l2), some (.int l3), some (.int ((gi x b1 2) - l3)), some (.int ((gi x b1 2) + l3))]) dX4_hourFor_106 rfl ?_
      refine r_bipush (pc := 108) (v := 24) dX4_hourFor_108 (by decide) ?_
      refine r_icmp_ge (pc := 110) (tgt := 135) dX4_hourFor_110 (by decide) (fun q => ?_) (fun q => ?_)
      · have K0 := K0.1 q
        refine r_iinc (pc := 135) (v := l3 + 1) dX4_hourFor_135 rfl rfl (by decide) ?_
        refine r_goto (pc := 138) (L := [some (.ref b0), some (.ref b1), some (.int l2), some (.int (l3 + 1)), some (.int ((gi x b1 2) - l3)), some (.int ((gi x b1 2) + l3))]) (tgt := 55) dX4_hourFor_138 (by decide) ?_
        exact r_le (L' := [some (.ref b0), some (.ref b1), some (.int l2), some (.int (l3 + 1)), none, none]) ⟨rfl, ⟨rfl, ⟨rfl, ⟨rfl, trivial⟩⟩⟩⟩ K0
      · have K0 := K0.2 q
        refine r_aload_n (pc := 113) dX4_hourFor_113 rfl ?_
        refine r_aload_n (pc := 114) dX4_hourFor_114 rfl ?_
        refine s_getI (pc := 115) dX4_hourFor_115 fl_X4_100 rfl k_b1 ?_
        refine r_iload (pc := 118) dX4_hourFor_118 rfl ?_
        refine r_aload_n (pc := 120) dX4_hourFor_120 rfl ?_
        refine s_getI (pc := 121) dX4_hourFor_121 fl_X4_101 rfl k_b1 ?_
        refine r_iload_n (pc := 124) dX4_hourFor_124 rfl ?_
        refine r_iconst (pc := 125) (v := 0) dX4_hourFor_125 (by decide) ?_
        refine s_VI (pc := 126) mX4_hasPlace (ci := 4) (a := b0) (As := [.int (gi x b1 1), .int ((gi x b1 2) + l3), .int (gi x b1 3), .int l2, .int 0]) dX4_hourFor_126 lk_X4_105 in_X4_hasPlace mo_X4_hasPlace ⟨by decide, rfl⟩ ⟨by decide, by decide⟩ (Nat.le_of_ble_eq_true rfl) k_b0 (mSI_mono K0 (fun r_5 y_4 K0 => ?_))
        refine r_if_eq (pc := 129) (tgt := 135) dX4_hourFor_129 (by decide) (fun q => ?_) (fun q => ?_)
        · have K0 := K0.1 q
          refine r_iinc (pc := 135) (v := l3 + 1) dX4_hourFor_135 rfl rfl (by decide) ?_
          refine r_goto (pc := 138) (L := [some (.ref b0), some (.ref b1), some (.int l2), some (.int (l3 + 1)), some (.int ((gi x b1 2) - l3)), some (.int ((gi x b1 2) + l3))]) (tgt := 55) dX4_hourFor_138 (by decide) ?_
          exact r_le (L' := [some (.ref b0), some (.ref b1), some (.int l2), some (.int (l3 + 1)), none, none]) ⟨rfl, ⟨rfl, ⟨rfl, ⟨rfl, trivial⟩⟩⟩⟩ K0
        · have K0 := K0.2 q
          refine r_iload (pc := 132) dX4_hourFor_132 rfl ?_
          exact s_iret rfl dX4_hourFor_134 K0
    · have K0 := K0.2 q
      refine r_aload_n (pc := 76) dX4_hourFor_76 rfl ?_
      refine r_aload_n (pc := 77) dX4_hourFor_77 rfl ?_
      refine s_getI (pc := 78) dX4_hourFor_78 fl_X4_100 rfl k_b1 ?_
      refine r_iload (pc := 81) dX4_hourFor_81 rfl ?_
      refine r_aload_n (pc := 83) dX4_hourFor_83 rfl ?_
      refine s_getI (pc := 84) dX4_hourFor_84 fl_X4_101 rfl k_b1 ?_
      refine r_iload_n (pc := 87) dX4_hourFor_87 rfl ?_
      refine r_iconst (pc := 88) (v := 0) dX4_hourFor_88 (by decide) ?_
      refine s_VI (pc := 89) mX4_hasPlace (ci := 4) (a := b0) (As := [.int (gi x b1 1), .int ((gi x b1 2) - l3), .int (gi x b1 3), .int l2, .int 0]) dX4_hourFor_89 lk_X4_105 in_X4_hasPlace mo_X4_hasPlace ⟨by decide, rfl⟩ ⟨by decide, by decide⟩ (Nat.le_of_ble_eq_true rfl) k_b0 (mSI_mono K0 (fun r_8 y_7 K0 => ?_))
      refine r_if_eq (pc := 92) (tgt := 98) dX4_hourFor_92 (by decide) (fun q => ?_) (fun q => ?_)
      · have K0 := K0.1 q
        refine r_aload_n (pc := 98) dX4_hourFor_98 rfl ?_
        refine s_getI (pc := 99) dX4_hourFor_99 fl_X4_112 rfl k_b1 ?_
        refine r_iload_n (pc := 102) dX4_hourFor_102 rfl ?_
        refine r_iadd (pc := 103) dX4_hourFor_103 ?_
        refine r_istore (pc := 104) dX4_hourFor_104 (by decide) ?_
        refine r_iload (pc := 106) (L := [some (.ref b0), some (.ref b1), some (.int l2), some (.int l3), some (.int ((gi x b1 2) - l3)), some (.int ((gi y_7 b1 2) + l3))]) dX4_hourFor_106 rfl ?_
        refine r_bipush (pc := 108) (v := 24) dX4_hourFor_108 (by decide) ?_
        refine r_icmp_ge (pc := 110) (tgt := 135) dX4_hourFor_110 (by decide) (fun q => ?_) (fun q => ?_)
        · have K0 := K0.1 q
          refine r_iinc (pc := 135) (v := l3 + 1) dX4_hourFor_135 rfl rfl (by decide) ?_
          refine r_goto (pc := 138) (L := [some (.ref b0), some (.ref b1), some (.int l2), some (.int (l3 + 1)), some (.int ((gi x b1 2) - l3)), some (.int ((gi y_7 b1 2) + l3))]) (tgt := 55) dX4_hourFor_138 (by decide) ?_
          exact r_le (L' := [some (.ref b0), some (.ref b1), some (.int l2), some (.int (l3 + 1)), none, none]) ⟨rfl, ⟨rfl, ⟨rfl, ⟨rfl, trivial⟩⟩⟩⟩ K0
        · have K0 := K0.2 q
          refine r_aload_n (pc := 113) dX4_hourFor_113 rfl ?_
          refine r_aload_n (pc := 114) dX4_hourFor_114 rfl ?_
          refine s_getI (pc := 115) dX4_hourFor_115 fl_X4_100 rfl k_b1 ?_
          refine r_iload (pc := 118) dX4_hourFor_118 rfl ?_
          refine r_aload_n (pc := 120) dX4_hourFor_120 rfl ?_
          refine s_getI (pc := 121) dX4_hourFor_121 fl_X4_101 rfl k_b1 ?_
          refine r_iload_n (pc := 124) dX4_hourFor_124 rfl ?_
          refine r_iconst (pc := 125) (v := 0) dX4_hourFor_125 (by decide) ?_
          refine s_VI (pc := 126) mX4_hasPlace (ci := 4) (a := b0) (As := [.int (gi y_7 b1 1), .int ((gi y_7 b1 2) + l3), .int (gi y_7 b1 3), .int l2, .int 0]) dX4_hourFor_126 lk_X4_105 in_X4_hasPlace mo_X4_hasPlace ⟨by decide, rfl⟩ ⟨by decide, by decide⟩ (Nat.le_of_ble_eq_true rfl) k_b0 (mSI_mono K0 (fun r_12 y_11 K0 => ?_))
          refine r_if_eq (pc := 129) (tgt := 135) dX4_hourFor_129 (by decide) (fun q => ?_) (fun q => ?_)
          · have K0 := K0.1 q
            refine r_iinc (pc := 135) (v := l3 + 1) dX4_hourFor_135 rfl rfl (by decide) ?_
            refine r_goto (pc := 138) (L := [some (.ref b0), some (.ref b1), some (.int l2), some (.int (l3 + 1)), some (.int ((gi x b1 2) - l3)), some (.int ((gi y_7 b1 2) + l3))]) (tgt := 55) dX4_hourFor_138 (by decide) ?_
            exact r_le (L' := [some (.ref b0), some (.ref b1), some (.int l2), some (.int (l3 + 1)), none, none]) ⟨rfl, ⟨rfl, ⟨rfl, ⟨rfl, trivial⟩⟩⟩⟩ K0
          · have K0 := K0.2 q
            refine r_iload (pc := 132) dX4_hourFor_132 rfl ?_
            exact s_iret rfl dX4_hourFor_134 K0
      · have K0 := K0.2 q
        refine r_iload (pc := 95) dX4_hourFor_95 rfl ?_
        exact s_iret rfl dX4_hourFor_97 K0
section
variable {x : Cn} {Q : Int32 → Cn → Prop}
theorem sp_X4_hourFor {q : Nat} {T : TT} {W C S A N : Nat} (E : SEA x q T W C S A N) {a p : Nat} (ha : a < A) (hg : gr x (q + 4) a = some p) (k : ∀ y, EQx x y (q + 5) → Q (hrF T S N a) y) : mSI mX4_hourFor [.ref q, .ref p] KW x Q := by
  have hn := E.nums
  have hA : A ≤ 24 := hn.2.2.2.2.2.2.2.1
  have hS : S ≤ 24 := hn.2.2.2.2.2.2.1
  obtain ⟨p', e1, e2, e3, ⟨-, -, ⟨h, h1, h2⟩, -, ⟨f, l, f1, f2, f3, f4⟩, ⟨b, b1, b2⟩⟩⟩ := E.ask ha
  have epp : p' = p := Option.some.inj (e1.symm.trans hg)
  subst epp
  have hW : W ≤ 30 := hn.2.2.2.2.1
  have hN : N ≤ W := hn.2.2.2.2.2.2.2.2
  have ep : ∀ y, EQx x y (q + 5) → ASR y p' T a := fun y hy => (E.eqx hy (Or.inl rfl)).2.2.1.2.2.2.2.2.2.2 a p' ha (by unfold gr; rw [hy.1]; exact hg)
  refine v_X4_hourFor_0 (ks0 E.1) e2 ?_
  rw [hn.2.2.1, hn.2.1, e3 5 (by decide), f4, e3 2 (by decide), h2]
  refine ⟨fun z => ?_, fun z => ⟨fun z2 => ?_, fun z2 => ?_⟩⟩
  · have hz : S = 24 := by
      have := (nI_leI (a := 24) (b := S) (by decide) (by omega)).mp z
      omega
    have := k x (EQx.rf _ _)
    unfold hrF at this
    rwa [if_pos (Or.inr hz)] at this
  · have z3 : N ≤ l := (nI_leI (by omega) (by omega)).mp z2
    have z4 : ¬ S = 24 := fun e => z (by rw [e]; exact Int32.le_refl _)
    have k2 : ∀ y, EQx x y (q + 5) → Q (lpR (stH (fun h => fitA T S N a h 0) h) (fun _ => -1) (b + 1) 0 ()) y := by
      intro y hy
      have := k y hy
      unfold hrF at this
      rwa [f4, nI_clamp (by omega), if_neg (by omega), h2, nI_clamp (by omega), b2, nI_clamp (by omega)] at this
    rw [e3 1 (by decide), e3 3 (by decide), e3 4 (by decide), f3]
    have fA : ∀ h, fitC T S N (ao T a 1) h (ao T a 3) (f_sb (nI f) (nI l)) 0 = fitA T S N a h 0 := fun h => by unfold fitA; rw [f3, f4]
    refine sp_X4_hasPlace E h1 (fun y hy => ?_)
    rw [fA]
    refine ⟨fun w => ?_, fun w => ?_⟩
    · have k3 : ∀ y, EQx x y (q + 5) → Q (lpR (stH (fun h => fitA T S N a h 0) h) (fun _ => -1) b 1 ()) y := by
        intro y hy
        have := k2 y hy
        simp only [lpR] at this
        have e0 : stH (fun h => fitA T S N a h 0) h 0 () = .inl () := by
          unfold stH
          rw [if_neg (fun u => u.2 (by simpa using w)), if_neg (fun u => u.2 (by simpa using w))]
        rw [e0] at this
        exact this
      refine lp_gen (stH (fun h => fitA T S N a h 0) h) (fun _ => -1) (fun d _ => ∀ y, EQx x y (q + 5) → GI mX4_hourFor 55 [some (.ref q), some (.ref p'), some (.int (f_sb (nI f) (nI l))), some (.int (nI d)), none, none] [] KW y Q) (fun r => ∀ y, EQx x y (q + 5) → Q r y) (b + 1) (fun _ k y hy => ?_) (fun d _ hd n1 n2 y hy => ?_) b 1 () (by omega) k3 y hy
      · refine v_X4_hourFor_55 e2 (ks0 E.1) ?_
        rw [ep y hy 6 (by decide), b2]
        exact ⟨fun _ => k y hy, fun z => absurd (nI_lt (by omega) (by omega)) z⟩
      · have E2 := E.eqx hy (Or.inl rfl)
        refine v_X4_hourFor_55 e2 (ks0 E.1) ?_
        rw [ep y hy 6 (by decide), b2, ep y hy 2 (by decide), h2, ep y hy 1 (by decide), ep y hy 3 (by decide), nI_add, nI_1]
        refine ⟨fun z => absurd z (nI_nlt (by omega) (by omega)), fun _ => ?_⟩
        have up : ∀ y, EQx x y (q + 5) → ¬ (d ≤ h ∧ ¬ bP (fitA T S N a (h - d) 0) = 0) → (nI 24 ≤ nI (h + d) → GI mX4_hourFor 55 [some (.ref q), some (.ref p'), some (.int (f_sb (nI f) (nI l))), some (.int (nI (d + 1))), none, none] [] KW y Q) ∧ (¬ nI 24 ≤ nI (h + d) → mSI mX4_hasPlace [.ref q, .int (ao T a 1), .int (nI (h + d)), .int (ao T a 3), .int (f_sb (nI f) (nI l)), .int 0] KW y (fun r y_4 => (r = 0 → GI mX4_hourFor 55 [some (.ref q), some (.ref p'), some (.int (f_sb (nI f) (nI l))), some (.int (nI (d + 1))), none, none] [] KW y_4 Q) ∧ (¬ r = 0 → Q (nI (h + d)) y_4))) := by
          intro y hy w
          refine ⟨fun z => n1 () ?_ y hy, fun z => ?_⟩
          · unfold stH
            rw [if_neg w, if_neg (fun u => nI_ge u.1 (by decide) z)]
          · have hd2 : h + d < 24 := by
              by_cases c : h + d < 24
              · exact c
              · exact absurd (nI_le (by omega) (by omega)) z
            refine sp_X4_hasPlace (E.eqx hy (Or.inl rfl)) hd2 (fun y2 hy2 => ?_)
            rw [fA]
            refine ⟨fun u => n1 () ?_ y2 (hy.tr hy2), fun u => n2 _ ?_ y2 (hy.tr hy2)⟩
            · unfold stH
              rw [if_neg w, if_neg (fun g => g.2 u)]
            · unfold stH
              rw [if_neg w, if_pos ⟨hd2, u⟩]
        refine ⟨fun z => up y hy (fun u => ?_), fun z => ?_⟩
        · rw [pk_sub u.1] at z
          exact nI_pos (by omega) z
        · have hd2 : d ≤ h := by
            by_cases c : d ≤ h
            · exact c
            · exact absurd (pk_sneg (by omega) (by omega)) z
          rw [pk_sub hd2]
          refine sp_X4_hasPlace E2 (by omega) (fun y2 hy2 => ?_)
          rw [fA]
          refine ⟨fun u => ?_, fun u => n2 _ ?_ y2 (hy.tr hy2)⟩
          · have hy3 := hy.tr hy2
            rw [ep y2 hy3 2 (by decide), h2, ep y2 hy3 1 (by decide), ep y2 hy3 3 (by decide), nI_add]
            exact up y2 hy3 (fun g => g.2 u)
          · unfold stH
            rw [if_pos ⟨hd2, u⟩]
    · have := k2 y hy
      simp only [lpR] at this
      have e0 : stH (fun h => fitA T S N a h 0) h 0 () = .inr (nI h) := by
        unfold stH
        rw [if_pos ⟨Nat.zero_le _, by simpa using w⟩]
        rfl
      rw [e0] at this
      rw [ep y hy 2 (by decide), h2]
      exact this
  · have z3 : l < N := by
      by_cases c : l < N
      · exact c
      · exact absurd (nI_le (by omega) (by omega)) z2
    have := k x (EQx.rf _ _)
    unfold hrF at this
    rw [f4, nI_clamp (by omega), if_pos (Or.inl z3)] at this
    exact this
end
set_option maxHeartbeats 2000000 in
theorem v_X8_hourFor_0 {K : Sh} {x : Cn} {Q : Int32 → Cn → Prop} {b0 : Nat} {l1 : Int32} {b0_3 : Nat} {n_b0_3 : Nat} (k_b0 : kk K b0 = some (8, 0)) (g_b0_3 : gr x b0 3 = some b0_3) (k_b0_3 : kk K b0_3 = some (20, n_b0_3)) (K0 : (l24 l1 n_b0_3) ∧ (((f_span (ao (gi x b0_3) (l1 : Int32).toNatClampNeg 4) (ao (gi x b0_3) (l1 : Int32).toNatClampNeg 5) &&& f_span (gi x b0_3 4) (gi x b0_3 0 - 1)) = 0 → (Q (-1) x)) ∧ (¬ (f_span (ao (gi x b0_3) (l1 : Int32).toNatClampNeg 4) (ao (gi x b0_3) (l1 : Int32).toNatClampNeg 5) &&& f_span (gi x b0_3 4) (gi x b0_3 0 - 1)) = 0 → (vp_in 2 n_b0_3 ∧ ((¬ (gi x b0_3 2) = 24 → (GI mX8_hourFor 30 [some (.ref b0), some (.int l1), some (.int (ao (gi x b0_3) (l1 : Int32).toNatClampNeg 2)), some (.int 0)] [] K x Q)) ∧ ((gi x b0_3 2) = 24 → (Q (-1) x))))))) : mSI mX8_hourFor [.ref b0, .int l1] K x Q := by
  refine s_I (by decide) (by simp [Value.category]) (Nat.le_of_ble_eq_true rfl) ?_
  show mGM mX8_hourFor 0 [some (.ref b0), some (.int l1), none, none] [] (hp K x) (PI K Q)
  refine r_aload_n (pc := 0) dX8_hourFor_0 rfl ?_
  refine r_iload_n (pc := 1) dX8_hourFor_1 rfl ?_
  obtain ⟨p_1, K0⟩ := K0
  refine s_VI (pc := 2) mX8_weeksOf (ci := 8) (a := b0) (As := [.int l1]) dX8_hourFor_2 lk_X8_326 in_X8_weeksOf mo_X8_weeksOf ⟨by decide, rfl⟩ ⟨by decide, by decide⟩ (Nat.le_of_ble_eq_true rfl) k_b0 (sr_X8_weeksOf k_b0 g_b0_3 k_b0_3 p_1 ?_)
  refine r_if_eq (pc := 5) (tgt := 19) dX8_hourFor_5 (by decide) (fun q => ?_) (fun q => ?_)
  · have K0 := K0.1 q
    refine r_iconst (pc := 19) (v := (-1)) dX8_hourFor_19 (by decide) ?_
    exact s_iret rfl dX8_hourFor_20 K0
  · have K0 := K0.2 q
    refine r_aload_n (pc := 8) dX8_hourFor_8 rfl ?_
    refine s_getR (pc := 9) dX8_hourFor_9 fl_X8_16 rfl k_b0 g_b0_3 ?_
    refine r_iconst (pc := 12) (v := 2) dX8_hourFor_12 (by decide) ?_
    obtain ⟨i_3, K0⟩ := K0
    refine s_iald (pc := 13) dX8_hourFor_13 k_b0_3 i_3 ?_
    refine r_bipush (pc := 14) (v := 24) dX8_hourFor_14 (by decide) ?_
    refine r_icmp_ne (pc := 16) (tgt := 21) dX8_hourFor_16 (by decide) (fun q => ?_) (fun q => ?_)
    · have K0 := K0.1 q
      refine r_aload_n (pc := 21) dX8_hourFor_21 rfl ?_
      refine r_iload_n (pc := 22) dX8_hourFor_22 rfl ?_
      refine r_iconst (pc := 23) (v := 2) dX8_hourFor_23 (by decide) ?_
      refine s_VI (pc := 24) mX8_ask0 (ci := 8) (a := b0) (As := [.int l1, .int 2]) dX8_hourFor_24 lk_X8_284 in_X8_ask0 mo_X8_ask0 ⟨by decide, rfl⟩ ⟨by decide, by decide⟩ (Nat.le_of_ble_eq_true rfl) k_b0 (sr_X8_ask0 k_b0 g_b0_3 k_b0_3 p_1 ⟨by decide, by decide⟩ ?_)
      refine r_istore_n (pc := 27) dX8_hourFor_27 (by decide) ?_
      refine r_iconst (pc := 28) (L := [some (.ref b0), some (.int l1), some (.int (ao (gi x b0_3) (l1 : Int32).toNatClampNeg 2)), none]) (v := 0) dX8_hourFor_28 (by decide) ?_
      refine r_istore_n (pc := 29) dX8_hourFor_29 (by decide) ?_
      exact r_le (L' := [some (.ref b0), some (.int l1), some (.int (ao (gi x b0_3) (l1 : Int32).toNatClampNeg 2)), some (.int 0)]) ⟨rfl, ⟨rfl, ⟨rfl, ⟨rfl, trivial⟩⟩⟩⟩ K0
    · have K0 := K0.2 q
      refine r_iconst (pc := 19) (v := (-1)) dX8_hourFor_19 (by decide) ?_
      exact s_iret rfl dX8_hourFor_20 K0
set_option maxHeartbeats 2000000 in
theorem v_X8_hourFor_30 {K : Sh} {x : Cn} {Q : Int32 → Cn → Prop} {b0 : Nat} {l1 : Int32} {l2 : Int32} {l3 : Int32} {b0_3 : Nat} {n_b0_3 : Nat} (k_b0 : kk K b0 = some (8, 0)) (g_b0_3 : gr x b0 3 = some b0_3) (k_b0_3 : kk K b0_3 = some (20, n_b0_3)) (K0 : (l24 l1 n_b0_3) ∧ (((ao (gi x b0_3) (l1 : Int32).toNatClampNeg 6) < l3 → (Q (-1) x)) ∧ (¬ (ao (gi x b0_3) (l1 : Int32).toNatClampNeg 6) < l3 → ((l2 < l3 → ((24 ≤ (l2 + l3) → (GI mX8_hourFor 30 [some (.ref b0), some (.int l1), some (.int l2), some (.int (l3 + 1))] [] K x Q)) ∧ (¬ 24 ≤ (l2 + l3) → (mSI mX8_canAsk [.ref b0, .int l1, .int (l2 + l3), .int (-1)] K x (fun r_6 y_5 => (r_6 = 0 → (GI mX8_hourFor 30 [some (.ref b0), some (.int l1), some (.int l2), some (.int (l3 + 1))] [] K y_5 Q)) ∧ (¬ r_6 = 0 → (Q (l2 + l3) y_5))))))) ∧ (¬ l2 < l3 → (mSI mX8_canAsk [.ref b0, .int l1, .int (l2 - l3), .int (-1)] K x (fun r_9 y_8 => (r_9 = 0 → ((24 ≤ (l2 + l3) → (GI mX8_hourFor 30 [some (.ref b0), some (.int l1), some (.int l2), some (.int (l3 + 1))] [] K y_8 Q)) ∧ (¬ 24 ≤ (l2 + l3) → (mSI mX8_canAsk [.ref b0, .int l1, .int (l2 + l3), .int (-1)] K y_8 (fun r_13 y_12 => (r_13 = 0 → (GI mX8_hourFor 30 [some (.ref b0), some (.int l1), some (.int l2), some (.int (l3 + 1))] [] K y_12 Q)) ∧ (¬ r_13 = 0 → (Q (l2 + l3) y_12))))))) ∧ (¬ r_9 = 0 → (Q (l2 - l3) y_8))))))))) : GI mX8_hourFor 30 [some (.ref b0), some (.int l1), some (.int l2), some (.int l3)] [] K x Q := by
  show mGM mX8_hourFor 30 [some (.ref b0), some (.int l1), some (.int l2), some (.int l3)] [] (hp K x) (PI K Q)
  refine r_iload_n (pc := 30) dX8_hourFor_30 rfl ?_
  refine r_aload_n (pc := 31) dX8_hourFor_31 rfl ?_
  refine r_iload_n (pc := 32) dX8_hourFor_32 rfl ?_
  refine r_bipush (pc := 33) (v := 6) dX8_hourFor_33 (by decide) ?_
  obtain ⟨p_1, K0⟩ := K0
  refine s_VI (pc := 35) mX8_ask0 (ci := 8) (a := b0) (As := [.int l1, .int 6]) dX8_hourFor_35 lk_X8_284 in_X8_ask0 mo_X8_ask0 ⟨by decide, rfl⟩ ⟨by decide, by decide⟩ (Nat.le_of_ble_eq_true rfl) k_b0 (sr_X8_ask0 k_b0 g_b0_3 k_b0_3 p_1 ⟨by decide, by decide⟩ ?_)
  refine r_icmp_gt (pc := 38) (tgt := 92) dX8_hourFor_38 (by decide) (fun q => ?_) (fun q => ?_)
  · have K0 := K0.1 q
    refine r_iconst (pc := 92) (v := (-1)) dX8_hourFor_92 (by decide) ?_
    exact s_iret rfl dX8_hourFor_93 K0
  · have K0 := K0.2 q
    refine r_iload_n (pc := 41) dX8_hourFor_41 rfl ?_
    refine r_iload_n (pc := 42) dX8_hourFor_42 rfl ?_
    refine r_icmp_lt (pc := 43) (tgt := 62) dX8_hourFor_43 (by decide) (fun q => ?_) (fun q => ?_)
    · have K0 := K0.1 q
      refine r_iload_n (pc := 62) dX8_hourFor_62 rfl ?_
      refine r_iload_n (pc := 63) dX8_hourFor_63 rfl ?_
      refine r_iadd (pc := 64) dX8_hourFor_64 ?_
      refine r_bipush (pc := 65) (v := 24) dX8_hourFor_65 (by decide) ?_
      refine r_icmp_ge (pc := 67) (tgt := 86) dX8_hourFor_67 (by decide) (fun q => ?_) (fun q => ?_)
      · have K0 := K0.1 q
        refine r_iinc (pc := 86) (v := l3 + 1) dX8_hourFor_86 rfl rfl (by decide) ?_
        refine r_goto (pc := 89) (L := [some (.ref b0), some (.int l1), some (.int l2), some (.int (l3 + 1))]) (tgt := 30) dX8_hourFor_89 (by decide) ?_
        exact r_le (L' := [some (.ref b0), some (.int l1), some (.int l2), some (.int (l3 + 1))]) ⟨rfl, ⟨rfl, ⟨rfl, ⟨rfl, trivial⟩⟩⟩⟩ K0
      · have K0 := K0.2 q
        refine r_aload_n (pc := 70) dX8_hourFor_70 rfl ?_
        refine r_iload_n (pc := 71) dX8_hourFor_71 rfl ?_
        refine r_iload_n (pc := 72) dX8_hourFor_72 rfl ?_
        refine r_iload_n (pc := 73) dX8_hourFor_73 rfl ?_
        refine r_iadd (pc := 74) dX8_hourFor_74 ?_
        refine r_iconst (pc := 75) (v := (-1)) dX8_hourFor_75 (by decide) ?_
        refine s_VI (pc := 76) mX8_canAsk (ci := 8) (a := b0) (As := [.int l1, .int (l2 + l3), .int (-1)]) dX8_hourFor_76 lk_X8_329 in_X8_canAsk mo_X8_canAsk ⟨by decide, rfl⟩ ⟨by decide, by decide⟩ (Nat.le_of_ble_eq_true rfl) k_b0 (mSI_mono K0 (fun r_6 y_5 K0 => ?_))
        refine r_if_eq (pc := 79) (tgt := 86) dX8_hourFor_79 (by decide) (fun q => ?_) (fun q => ?_)
        · have K0 := K0.1 q
          refine r_iinc (pc := 86) (v := l3 + 1) dX8_hourFor_86 rfl rfl (by decide) ?_
          refine r_goto (pc := 89) (L := [some (.ref b0), some (.int l1), some (.int l2), some (.int (l3 + 1))]) (tgt := 30) dX8_hourFor_89 (by decide) ?_
          exact r_le (L' := [some (.ref b0), some (.int l1), some (.int l2), some (.int (l3 + 1))]) ⟨rfl, ⟨rfl, ⟨rfl, ⟨rfl, trivial⟩⟩⟩⟩ K0
        · have K0 := K0.2 q
          refine r_iload_n (pc := 82) dX8_hourFor_82 rfl ?_
          refine r_iload_n (pc := 83) dX8_hourFor_83 rfl ?_
          refine r_iadd (pc := 84) dX8_hourFor_84 ?_
          exact s_iret rfl dX8_hourFor_85 K0
    · have K0 := K0.2 q
      refine r_aload_n (pc := 46) dX8_hourFor_46 rfl ?_
      refine r_iload_n (pc := 47) dX8_hourFor_47 rfl ?_
      refine r_iload_n (pc := 48) dX8_hourFor_48 rfl ?_
      refine r_iload_n (pc := 49) dX8_hourFor_49 rfl ?_
      refine r_isub (pc := 50) dX8_hourFor_50 ?_
      refine r_iconst (pc := 51) (v := (-1)) dX8_hourFor_51 (by decide) ?_
      refine s_VI (pc := 52) mX8_canAsk (ci := 8) (a := b0) (As := [.int l1, .int (l2 - l3), .int (-1)]) dX8_hourFor_52 lk_X8_329 in_X8_canAsk mo_X8_canAsk ⟨by decide, rfl⟩ ⟨by decide, by decide⟩ (Nat.le_of_ble_eq_true rfl) k_b0 (mSI_mono K0 (fun r_9 y_8 K0 => ?_))
      refine r_if_eq (pc := 55) (tgt := 62) dX8_hourFor_55 (by decide) (fun q => ?_) (fun q => ?_)
      · have K0 := K0.1 q
        refine r_iload_n (pc := 62) dX8_hourFor_62 rfl ?_
        refine r_iload_n (pc := 63) dX8_hourFor_63 rfl ?_
        refine r_iadd (pc := 64) dX8_hourFor_64 ?_
        refine r_bipush (pc := 65) (v := 24) dX8_hourFor_65 (by decide) ?_
        refine r_icmp_ge (pc := 67) (tgt := 86) dX8_hourFor_67 (by decide) (fun q => ?_) (fun q => ?_)
        · have K0 := K0.1 q
          refine r_iinc (pc := 86) (v := l3 + 1) dX8_hourFor_86 rfl rfl (by decide) ?_
          refine r_goto (pc := 89) (L := [some (.ref b0), some (.int l1), some (.int l2), some (.int (l3 + 1))]) (tgt := 30) dX8_hourFor_89 (by decide) ?_
          exact r_le (L' := [some (.ref b0), some (.int l1), some (.int l2), some (.int (l3 + 1))]) ⟨rfl, ⟨rfl, ⟨rfl, ⟨rfl, trivial⟩⟩⟩⟩ K0
        · have K0 := K0.2 q
          refine r_aload_n (pc := 70) dX8_hourFor_70 rfl ?_
          refine r_iload_n (pc := 71) dX8_hourFor_71 rfl ?_
          refine r_iload_n (pc := 72) dX8_hourFor_72 rfl ?_
          refine r_iload_n (pc := 73) dX8_hourFor_73 rfl ?_
          refine r_iadd (pc := 74) dX8_hourFor_74 ?_
          refine r_iconst (pc := 75) (v := (-1)) dX8_hourFor_75 (by decide) ?_
          refine s_VI (pc := 76) mX8_canAsk (ci := 8) (a := b0) (As := [.int l1, .int (l2 + l3), .int (-1)]) dX8_hourFor_76 lk_X8_329 in_X8_canAsk mo_X8_canAsk ⟨by decide, rfl⟩ ⟨by decide, by decide⟩ (Nat.le_of_ble_eq_true rfl) k_b0 (mSI_mono K0 (fun r_13 y_12 K0 => ?_))
          refine r_if_eq (pc := 79) (tgt := 86) dX8_hourFor_79 (by decide) (fun q => ?_) (fun q => ?_)
          · have K0 := K0.1 q
            refine r_iinc (pc := 86) (v := l3 + 1) dX8_hourFor_86 rfl rfl (by decide) ?_
            refine r_goto (pc := 89) (L := [some (.ref b0), some (.int l1), some (.int l2), some (.int (l3 + 1))]) (tgt := 30) dX8_hourFor_89 (by decide) ?_
            exact r_le (L' := [some (.ref b0), some (.int l1), some (.int l2), some (.int (l3 + 1))]) ⟨rfl, ⟨rfl, ⟨rfl, ⟨rfl, trivial⟩⟩⟩⟩ K0
          · have K0 := K0.2 q
            refine r_iload_n (pc := 82) dX8_hourFor_82 rfl ?_
            refine r_iload_n (pc := 83) dX8_hourFor_83 rfl ?_
            refine r_iadd (pc := 84) dX8_hourFor_84 ?_
            exact s_iret rfl dX8_hourFor_85 K0
      · have K0 := K0.2 q
        refine r_iload_n (pc := 58) dX8_hourFor_58 rfl ?_
        refine r_iload_n (pc := 59) dX8_hourFor_59 rfl ?_
        refine r_isub (pc := 60) dX8_hourFor_60 ?_
        exact s_iret rfl dX8_hourFor_61 K0
section
variable {x : Cn} {Q : Int32 → Cn → Prop}
theorem sp_X8_hourFor {t : Nat} (M : MRf x t) (ht : kk KW t = some (20, 518)) {W C S A N : Nat} (F : WF (gi x t) W C S A N) {a : Nat} (ha : a < A) (k : Q (hrF (gi x t) S N a) x) : mSI mX8_hourFor [.ref 717, .int (nI a)] KW x Q := by
  have hA : A ≤ 24 := F.2.2.2.2.2.2.2.2.1
  have hS : S ≤ 24 := F.2.2.2.2.2.2.1
  have hW : W ≤ 30 := F.2.2.1
  have hN : N ≤ W := F.2.2.2.2.2.2.2.2.2.2.1
  obtain ⟨-, -, ⟨h, h1, h2⟩, a3, ⟨f, l, f1, f2, f3, f4⟩, ⟨b, b1, b2⟩⟩ := F.2.2.2.2.2.2.2.2.2.2.2.2.2 a ha
  refine v_X8_hourFor_0 km M.2.2.1 ht ⟨l24_nI (by omega) rfl, ?_⟩
  rw [nI_clamp (by omega), F.1, F.2.2.2.2.2.2.2.2.2.1, f3, f4, span_and0 (by omega) f2 hW hN, F.2.2.2.2.2.1, h2]
  unfold hrF at k
  rw [f4, nI_clamp (by omega), h2, nI_clamp (by omega), b2, nI_clamp (by omega)] at k
  refine ⟨fun z => by rwa [if_pos (Or.inl z)] at k, fun z => ⟨v0 (k := 2) (by decide) rfl rfl, fun z2 => ?_, fun z2 => ?_⟩⟩
  · rw [if_neg (fun u => u.elim z (fun e => z2 (by rw [e]; rfl)))] at k
    refine lp_gen (stH (fun h => fitA (gi x t) S N a h 0) h) (fun _ => -1) (fun d _ => GI mX8_hourFor 30 [some (.ref 717), some (.int (nI a)), some (.int (nI h)), some (.int (nI d))] [] KW x Q) (fun r => Q r x) (b + 1) (fun _ k => ?_) (fun d _ hd n1 n2 => ?_) (b + 1) 0 () (by omega) k
    · refine v_X8_hourFor_30 km M.2.2.1 ht ⟨l24_nI (by omega) rfl, ?_⟩
      rw [nI_clamp (by omega), b2]
      exact ⟨fun _ => k, fun z => absurd (nI_lt (by omega) (by omega)) z⟩
    · refine v_X8_hourFor_30 km M.2.2.1 ht ⟨l24_nI (by omega) rfl, ?_⟩
      rw [nI_clamp (by omega), b2, nI_add, nI_1]
      refine ⟨fun z => absurd z (nI_nlt (by omega) (by omega)), fun _ => ?_⟩
      have up : ¬ (d ≤ h ∧ ¬ bP (fitA (gi x t) S N a (h - d) 0) = 0) → (nI 24 ≤ nI (h + d) → GI mX8_hourFor 30 [some (.ref 717), some (.int (nI a)), some (.int (nI h)), some (.int (nI (d + 1)))] [] KW x Q) ∧ (¬ nI 24 ≤ nI (h + d) → mSI mX8_canAsk [.ref 717, .int (nI a), .int (nI (h + d)), .int (-1)] KW x (fun r y_4 => (r = 0 → GI mX8_hourFor 30 [some (.ref 717), some (.int (nI a)), some (.int (nI h)), some (.int (nI (d + 1)))] [] KW y_4 Q) ∧ (¬ r = 0 → Q (nI (h + d)) y_4))) := by
        intro w
        refine ⟨fun z => n1 () ?_, fun z => ?_⟩
        · unfold stH
          rw [if_neg w, if_neg (fun u => nI_ge u.1 (by decide) z)]
        · have hd2 : h + d < 24 := by
            by_cases c : h + d < 24
            · exact c
            · exact absurd (nI_le (by omega) (by omega)) z
          refine sp_X8_canAsk M ht F ha hd2 wo_0 ⟨fun u => n1 () ?_, fun u => n2 _ ?_⟩
          · unfold stH
            rw [if_neg w, if_neg (fun g => g.2 u)]
          · unfold stH
            rw [if_neg w, if_pos ⟨hd2, u⟩]
      refine ⟨fun z => up (fun u => nI_nlt u.1 (by omega) z), fun z => ?_⟩
      have hd2 : d ≤ h := by
        by_cases c : d ≤ h
        · exact c
        · exact absurd (nI_lt (by omega) (by omega)) z
      rw [pk_sub hd2]
      refine sp_X8_canAsk M ht F ha (by omega) wo_0 ⟨fun u => up (fun g => g.2 u), fun u => n2 _ ?_⟩
      unfold stH
      rw [if_pos ⟨hd2, u⟩]
  · have hz : S = 24 := (nI_eq (b := 24) (by omega) (by decide)).mp z2
    rwa [if_pos (Or.inr hz)] at k
/-- a series can go to an hour -/
def crt (T : TT) (S W N s h : Nat) : Prop := N < W ∧ ¬ so T s 2 = nI h ∧ fitC T S N (so T s 1) h (so T s 3) (bas T s) (1 <<< (nI s &&& 31))
end
set_option maxHeartbeats 2000000 in
theorem v_X7_canRetime_0 {K : Sh} {x : Cn} {Q : Int32 → Cn → Prop} {b0 : Nat} {l1 : Int32} {l2 : Int32} {b0_2 : Nat} {b0_2_7 : Nat} {n_b0_2_7 : Nat} (k_b0 : kk K b0 = some (7, 0)) (g_b0_2 : gr x b0 2 = some b0_2) (k_b0_2 : kk K b0_2 = some (4, 0)) (g_b0_2_7 : gr x b0_2 7 = some b0_2_7) (k_b0_2_7 : kk K b0_2_7 = some (23, n_b0_2_7)) (K0 : vp_in l1 n_b0_2_7 ∧ (∃ c_2 : Nat, gr x b0_2_7 ((l1 : Int32).toNatClampNeg) = some c_2 ∧ (((gi x b0_2 0 ≤ gi x b0_2 1) → (Q 0 x)) ∧ (¬ (gi x b0_2 0 ≤ gi x b0_2 1) → (kk K c_2 = some (5, 0) ∧ (((gi x c_2 2) = l2 → (Q 0 x)) ∧ (¬ (gi x c_2 2) = l2 → (mSI mX4_hasPlace [.ref b0_2, .int (gi x c_2 1), .int l2, .int (gi x c_2 3), .int (f_held x c_2), .int (1 <<< (l1 &&& 31))] K x (fun r_8 y_7 => (r_8 = 0 → (Q 0 y_7)) ∧ (¬ r_8 = 0 → (Q 1 y_7))))))))))) : mSI mX7_canRetime [.ref b0, .int l1, .int l2] K x Q := by
  refine s_I (by decide) (by simp [Value.category]) (Nat.le_of_ble_eq_true rfl) ?_
  show mGM mX7_canRetime 0 [some (.ref b0), some (.int l1), some (.int l2), none] [] (hp K x) (PI K Q)
  refine r_aload_n (pc := 0) dX7_canRetime_0 rfl ?_
  refine s_getR (pc := 1) dX7_canRetime_1 fl_X7_20 rfl k_b0 g_b0_2 ?_
  refine s_getR (pc := 4) dX7_canRetime_4 fl_X7_135 rfl k_b0_2 g_b0_2_7 ?_
  refine r_iload_n (pc := 7) dX7_canRetime_7 rfl ?_
  obtain ⟨i_1, K0⟩ := K0
  obtain ⟨c_2, g_3, K0⟩ := K0
  refine s_aald (pc := 8) dX7_canRetime_8 (by decide) rfl k_b0_2_7 i_1 g_3 ?_
  refine r_astore_n (pc := 9) dX7_canRetime_9 (by decide) ?_
  refine r_aload_n (pc := 10) (L := [some (.ref b0), some (.int l1), some (.int l2), some (.ref c_2)]) dX7_canRetime_10 rfl ?_
  refine s_getR (pc := 11) dX7_canRetime_11 fl_X7_20 rfl k_b0 g_b0_2 ?_
  refine s_VI (pc := 14) mX4_isOver (ci := 4) (a := b0_2) (As := []) dX7_canRetime_14 lk_X7_279 in_X4_isOver mo_X4_isOver ⟨by decide, rfl⟩ ⟨by decide, by decide⟩ (Nat.le_of_ble_eq_true rfl) k_b0_2 (sp_X4_isOver k_b0_2 ?_)
  refine r_if_ne (pc := 17) (tgt := 58) dX7_canRetime_17 (by decide) (fun q => ?_) (fun q => ?_)
  · have q := b2i_nz q
    have K0 := K0.1 q
    refine r_iconst (pc := 58) (v := 0) dX7_canRetime_58 (by decide) ?_
    exact s_zret rfl (by decide) dX7_canRetime_59 K0
  · have q := (b2i_z _).mp q
    have K0 := K0.2 q
    refine r_aload_n (pc := 20) dX7_canRetime_20 rfl ?_
    obtain ⟨e_5, K0⟩ := K0
    refine s_getI (pc := 21) dX7_canRetime_21 fl_X7_147 rfl e_5 ?_
    refine r_iload_n (pc := 24) dX7_canRetime_24 rfl ?_
    refine r_icmp_eq (pc := 25) (tgt := 58) dX7_canRetime_25 (by decide) (fun q => ?_) (fun q => ?_)
    · have K0 := K0.1 q
      refine r_iconst (pc := 58) (v := 0) dX7_canRetime_58 (by decide) ?_
      exact s_zret rfl (by decide) dX7_canRetime_59 K0
    · have K0 := K0.2 q
      refine r_aload_n (pc := 28) dX7_canRetime_28 rfl ?_
      refine s_getR (pc := 29) dX7_canRetime_29 fl_X7_20 rfl k_b0 g_b0_2 ?_
      refine r_aload_n (pc := 32) dX7_canRetime_32 rfl ?_
      refine s_getI (pc := 33) dX7_canRetime_33 fl_X7_144 rfl e_5 ?_
      refine r_iload_n (pc := 36) dX7_canRetime_36 rfl ?_
      refine r_aload_n (pc := 37) dX7_canRetime_37 rfl ?_
      refine s_getI (pc := 38) dX7_canRetime_38 fl_X7_150 rfl e_5 ?_
      refine r_aload_n (pc := 41) dX7_canRetime_41 rfl ?_
      refine s_VI (pc := 42) mX5_heldBits (ci := 5) (a := c_2) (As := []) dX7_canRetime_42 lk_X7_272 in_X5_heldBits mo_X5_heldBits ⟨by decide, rfl⟩ ⟨by decide, by decide⟩ (Nat.le_of_ble_eq_true rfl) e_5 (sp_X5_heldBits e_5 ?_)
      refine r_iconst (pc := 45) (v := 1) dX7_canRetime_45 (by decide) ?_
      refine r_iload_n (pc := 46) dX7_canRetime_46 rfl ?_
      refine r_ishl (pc := 47) dX7_canRetime_47 ?_
      refine s_VI (pc := 48) mX4_hasPlace (ci := 4) (a := b0_2) (As := [.int (gi x c_2 1), .int l2, .int (gi x c_2 3), .int (f_held x c_2), .int (1 <<< (l1 &&& 31))]) dX7_canRetime_48 lk_X7_295 in_X4_hasPlace mo_X4_hasPlace ⟨by decide, rfl⟩ ⟨by decide, by decide⟩ (Nat.le_of_ble_eq_true rfl) k_b0_2 (mSI_mono K0 (fun r_8 y_7 K0 => ?_))
      refine r_if_eq (pc := 51) (tgt := 58) dX7_canRetime_51 (by decide) (fun q => ?_) (fun q => ?_)
      · have K0 := K0.1 q
        refine r_iconst (pc := 58) (v := 0) dX7_canRetime_58 (by decide) ?_
        exact s_zret rfl (by decide) dX7_canRetime_59 K0
      · have K0 := K0.2 q
        refine r_iconst (pc := 54) (v := 1) dX7_canRetime_54 (by decide) ?_
        refine r_goto (pc := 55) (tgt := 59) dX7_canRetime_55 (by decide) ?_
        exact s_zret rfl (by decide) dX7_canRetime_59 K0
section
variable {x : Cn} {Q : Int32 → Cn → Prop}
theorem sp_X7_canRetime {T : TT} {W C S A N : Nat} (c1 : CRf x) (E : SEA x 2 T W C S A N) {s h : Nat} (hs : s < S) (hh : h < 24) (k : ∀ y, EQx x y 7 → Q (bP (crt T S W N s h)) y) : mSI mX7_canRetime [.ref 0, .int (nI s), .int (nI h)] KW x Q := by
  have hn := E.nums
  have hS : S ≤ 24 := hn.2.2.2.2.2.2.1
  have hW : W ≤ 30 := hn.2.2.2.2.1
  have hN : N ≤ W := hn.2.2.2.2.2.2.2.2
  obtain ⟨p, e1, e2, e3, e4, -, e6⟩ := E.ser hs
  refine v_X7_canRetime_0 k0 c1.2.1 (ks0 E.1) E.2.1.2.2.1 (ks3 E.1) ⟨vp_in_nI (by omega) (by decide), p, by rw [nI_clamp (by omega)]; exact e1, ?_⟩
  rw [hn.1, hn.2.1, nI_leI (by omega) (by omega), e3.1 2 (by decide) (by decide), e3.1 1 (by decide) (by decide), e3.1 3 (by decide) (by decide), e4]
  have k2 := k x (EQx.rf _ _)
  refine ⟨fun z => (bP_k k2).2 (fun u => absurd u.1 (by omega)), fun z => ⟨e2, fun z2 => (bP_k k2).2 (fun u => u.2.1 z2), fun z2 => ?_⟩⟩
  refine sp_X4_hasPlace E hh (fun y hy => ⟨fun w => (bP_k (k y hy)).2 (fun u => bP_z.mp w u.2.2), fun w => (bP_k (k y hy)).1 ⟨by omega, z2, ?_⟩⟩)
  exact Classical.byContradiction (fun g => w (bP_z.mpr g))
theorem bas_W {T : TT} {C W s i : Nat} (w : Wse T C W s) (h : tb (bas T s) i = true) : i < W := by
  obtain ⟨-, -, -, -, -, -, -, w8⟩ := w
  rw [tb_bas] at h
  simp only [Bool.or_eq_true] at h
  rcases h with ((h | h) | h) | h
  · exact w8 i 0 (by decide) h
  · exact w8 i 1 (by decide) h
  · exact w8 i 2 (by decide) h
  · exact w8 i 3 (by decide) h
end
set_option maxHeartbeats 2000000 in
theorem v_X8_canBeAt_0 {K : Sh} {x : Cn} {Q : Int32 → Cn → Prop} {b0 : Nat} {l1 : Int32} {l2 : Int32} {b0_3 : Nat} {n_b0_3 : Nat} (k_b0 : kk K b0 = some (8, 0)) (g_b0_3 : gr x b0 3 = some b0_3) (k_b0_3 : kk K b0_3 = some (20, n_b0_3)) (K0 : (l24 l1 n_b0_3) ∧ (mSI mX8_canBe [.ref b0, .int (bas (gi x b0_3) (l1 : Int32).toNatClampNeg), .int (so (gi x b0_3) (l1 : Int32).toNatClampNeg 1), .int l2, .int (so (gi x b0_3) (l1 : Int32).toNatClampNeg 3), .int l1] K x (fun r_3 y_2 => (r_3 = 0 ∨ r_3 = 1) ∧ (Q r_3 y_2)))) : mSI mX8_canBeAt [.ref b0, .int l1, .int l2] K x Q := by
  refine s_I (by decide) (by simp [Value.category]) (Nat.le_of_ble_eq_true rfl) ?_
  show mGM mX8_canBeAt 0 [some (.ref b0), some (.int l1), some (.int l2)] [] (hp K x) (PI K Q)
  refine r_aload_n (pc := 0) dX8_canBeAt_0 rfl ?_
  refine r_aload_n (pc := 1) dX8_canBeAt_1 rfl ?_
  refine r_iload_n (pc := 2) dX8_canBeAt_2 rfl ?_
  obtain ⟨p_1, K0⟩ := K0
  refine s_VI (pc := 3) mX8_basisOf (ci := 8) (a := b0) (As := [.int l1]) dX8_canBeAt_3 lk_X8_71 in_X8_basisOf mo_X8_basisOf ⟨by decide, rfl⟩ ⟨by decide, by decide⟩ (Nat.le_of_ble_eq_true rfl) k_b0 (sr_X8_basisOf k_b0 g_b0_3 k_b0_3 p_1 ?_)
  refine r_aload_n (pc := 6) dX8_canBeAt_6 rfl ?_
  refine r_iload_n (pc := 7) dX8_canBeAt_7 rfl ?_
  refine r_iconst (pc := 8) (v := 1) dX8_canBeAt_8 (by decide) ?_
  refine s_VI (pc := 9) mX8_one (ci := 8) (a := b0) (As := [.int l1, .int 1]) dX8_canBeAt_9 lk_X8_67 in_X8_one mo_X8_one ⟨by decide, rfl⟩ ⟨by decide, by decide⟩ (Nat.le_of_ble_eq_true rfl) k_b0 (sr_X8_one k_b0 g_b0_3 k_b0_3 p_1 ⟨by decide, by decide⟩ ?_)
  refine r_iload_n (pc := 12) dX8_canBeAt_12 rfl ?_
  refine r_aload_n (pc := 13) dX8_canBeAt_13 rfl ?_
  refine r_iload_n (pc := 14) dX8_canBeAt_14 rfl ?_
  refine r_iconst (pc := 15) (v := 3) dX8_canBeAt_15 (by decide) ?_
  refine s_VI (pc := 16) mX8_one (ci := 8) (a := b0) (As := [.int l1, .int 3]) dX8_canBeAt_16 lk_X8_67 in_X8_one mo_X8_one ⟨by decide, rfl⟩ ⟨by decide, by decide⟩ (Nat.le_of_ble_eq_true rfl) k_b0 (sr_X8_one k_b0 g_b0_3 k_b0_3 p_1 ⟨by decide, by decide⟩ ?_)
  refine r_iload_n (pc := 19) dX8_canBeAt_19 rfl ?_
  refine s_VI (pc := 20) mX8_canBe (ci := 8) (a := b0) (As := [.int (bas (gi x b0_3) (l1 : Int32).toNatClampNeg), .int (so (gi x b0_3) (l1 : Int32).toNatClampNeg 1), .int l2, .int (so (gi x b0_3) (l1 : Int32).toNatClampNeg 3), .int l1]) dX8_canBeAt_20 lk_X8_90 in_X8_canBe mo_X8_canBe ⟨by decide, rfl⟩ ⟨by decide, by decide⟩ (Nat.le_of_ble_eq_true rfl) k_b0 (mSI_mono K0 (fun r_3 y_2 K0 => ?_))
  obtain ⟨p_4, K0⟩ := K0
  exact s_zret rfl p_4 dX8_canBeAt_23 K0
section
variable {x : Cn} {Q : Int32 → Cn → Prop}
theorem sp_X8_canBeAt {t : Nat} (M : MRf x t) (ht : kk KW t = some (20, 518)) {W C S A N : Nat} (F : WF (gi x t) W C S A N) {s h : Nat} (hs : s < S) (hh : h < 24) (k : Q (bP (fitC (gi x t) S N (so (gi x t) s 1) h (so (gi x t) s 3) (bas (gi x t) s) (1 <<< (nI s &&& 31)))) x) : mSI mX8_canBeAt [.ref 717, .int (nI s), .int (nI h)] KW x Q := by
  have hS : S ≤ 24 := F.2.2.2.2.2.2.1
  have w := F.2.2.2.2.2.2.2.2.2.2.2.2.1 s hs
  refine v_X8_canBeAt_0 km M.2.2.1 ht ⟨l24_nI (by omega) rfl, ?_⟩
  rw [nI_clamp (by omega)]
  exact sp_X8_canBe M ht F hh w.2.2.2.1 (fun i hi h1 h2 => bas_W w h1) (wo_1 (by omega)) ⟨bP_01 _, k⟩
end
set_option maxHeartbeats 2000000 in
theorem v_X8_canRetime_0 {K : Sh} {x : Cn} {Q : Int32 → Cn → Prop} {b0 : Nat} {l1 : Int32} {l2 : Int32} {b0_1 : Nat} {n_b0_1 : Nat} {b0_3 : Nat} {n_b0_3 : Nat} (k_b0 : kk K b0 = some (8, 0)) (g_b0_1 : gr x b0 1 = some b0_1) (k_b0_1 : kk K b0_1 = some (20, n_b0_1)) (g_b0_3 : gr x b0 3 = some b0_3) (k_b0_3 : kk K b0_3 = some (20, n_b0_3)) (K0 : vp_in 4 n_b0_1 ∧ (vp_in 0 n_b0_1 ∧ (((gi x b0_1 0) ≤ (gi x b0_1 4) → (Q 0 x)) ∧ (¬ (gi x b0_1 0) ≤ (gi x b0_1 4) → ((l24 l1 n_b0_3) ∧ (((so (gi x b0_3) (l1 : Int32).toNatClampNeg 2) = l2 → (Q 0 x)) ∧ (¬ (so (gi x b0_3) (l1 : Int32).toNatClampNeg 2) = l2 → (mSI mX8_canBeAt [.ref b0, .int l1, .int l2] K x (fun r_7 y_6 => (r_7 = 0 → (Q 0 y_6)) ∧ (¬ r_7 = 0 → (Q 1 y_6))))))))))) : mSI mX8_canRetime [.ref b0, .int l1, .int l2] K x Q := by
  refine s_I (by decide) (by simp [Value.category]) (Nat.le_of_ble_eq_true rfl) ?_
  show mGM mX8_canRetime 0 [some (.ref b0), some (.int l1), some (.int l2)] [] (hp K x) (PI K Q)
  refine r_aload_n (pc := 0) dX8_canRetime_0 rfl ?_
  refine s_getR (pc := 1) dX8_canRetime_1 fl_X8_9 rfl k_b0 g_b0_1 ?_
  refine r_iconst (pc := 4) (v := 4) dX8_canRetime_4 (by decide) ?_
  obtain ⟨i_1, K0⟩ := K0
  refine s_iald (pc := 5) dX8_canRetime_5 k_b0_1 i_1 ?_
  refine r_aload_n (pc := 6) dX8_canRetime_6 rfl ?_
  refine s_getR (pc := 7) dX8_canRetime_7 fl_X8_9 rfl k_b0 g_b0_1 ?_
  refine r_iconst (pc := 10) (v := 0) dX8_canRetime_10 (by decide) ?_
  obtain ⟨i_2, K0⟩ := K0
  refine s_iald (pc := 11) dX8_canRetime_11 k_b0_1 i_2 ?_
  refine r_icmp_ge (pc := 12) (tgt := 38) dX8_canRetime_12 (by decide) (fun q => ?_) (fun q => ?_)
  · have K0 := K0.1 q
    refine r_iconst (pc := 38) (v := 0) dX8_canRetime_38 (by decide) ?_
    exact s_zret rfl (by decide) dX8_canRetime_39 K0
  · have K0 := K0.2 q
    refine r_aload_n (pc := 15) dX8_canRetime_15 rfl ?_
    refine r_iload_n (pc := 16) dX8_canRetime_16 rfl ?_
    refine r_iconst (pc := 17) (v := 2) dX8_canRetime_17 (by decide) ?_
    obtain ⟨p_4, K0⟩ := K0
    refine s_VI (pc := 18) mX8_one (ci := 8) (a := b0) (As := [.int l1, .int 2]) dX8_canRetime_18 lk_X8_67 in_X8_one mo_X8_one ⟨by decide, rfl⟩ ⟨by decide, by decide⟩ (Nat.le_of_ble_eq_true rfl) k_b0 (sr_X8_one k_b0 g_b0_3 k_b0_3 p_4 ⟨by decide, by decide⟩ ?_)
    refine r_iload_n (pc := 21) dX8_canRetime_21 rfl ?_
    refine r_icmp_eq (pc := 22) (tgt := 38) dX8_canRetime_22 (by decide) (fun q => ?_) (fun q => ?_)
    · have K0 := K0.1 q
      refine r_iconst (pc := 38) (v := 0) dX8_canRetime_38 (by decide) ?_
      exact s_zret rfl (by decide) dX8_canRetime_39 K0
    · have K0 := K0.2 q
      refine r_aload_n (pc := 25) dX8_canRetime_25 rfl ?_
      refine r_iload_n (pc := 26) dX8_canRetime_26 rfl ?_
      refine r_iload_n (pc := 27) dX8_canRetime_27 rfl ?_
      refine s_VI (pc := 28) mX8_canBeAt (ci := 8) (a := b0) (As := [.int l1, .int l2]) dX8_canRetime_28 lk_X8_360 in_X8_canBeAt mo_X8_canBeAt ⟨by decide, rfl⟩ ⟨by decide, by decide⟩ (Nat.le_of_ble_eq_true rfl) k_b0 (mSI_mono K0 (fun r_7 y_6 K0 => ?_))
      refine r_if_eq (pc := 31) (tgt := 38) dX8_canRetime_31 (by decide) (fun q => ?_) (fun q => ?_)
      · have K0 := K0.1 q
        refine r_iconst (pc := 38) (v := 0) dX8_canRetime_38 (by decide) ?_
        exact s_zret rfl (by decide) dX8_canRetime_39 K0
      · have K0 := K0.2 q
        refine r_iconst (pc := 34) (v := 1) dX8_canRetime_34 (by decide) ?_
        refine r_goto (pc := 35) (tgt := 39) dX8_canRetime_35 (by decide) ?_
        exact s_zret rfl (by decide) dX8_canRetime_39 K0
section
variable {x : Cn} {Q : Int32 → Cn → Prop}
theorem sp_X8_canRetime (M : MRf x 718) {W C S A N : Nat} (F : WF (gi x 718) W C S A N) {s h : Nat} (hs : s < S) (hh : h < 24) (k : Q (bP (crt (gi x 718) S W N s h)) x) : mSI mX8_canRetime [.ref 717, .int (nI s), .int (nI h)] KW x Q := by
  have hS : S ≤ 24 := F.2.2.2.2.2.2.1
  have hW : W ≤ 30 := F.2.2.1
  have hN : N ≤ W := F.2.2.2.2.2.2.2.2.2.2.1
  refine v_X8_canRetime_0 km M.1 km1 M.2.2.1 km1 ⟨v0 (k := 4) (by decide) rfl rfl, v0 (k := 0) (by decide) rfl rfl, ?_⟩
  rw [F.1, F.2.2.2.2.2.2.2.2.2.1, nI_leI (by omega) (by omega), nI_clamp (show s < 2 ^ 31 by omega)]
  refine ⟨fun z => (bP_k k).2 (fun u => absurd u.1 (by omega)), fun z => ⟨l24_nI (by omega) rfl, fun z2 => (bP_k k).2 (fun u => u.2.1 z2), fun z2 => ?_⟩⟩
  refine sp_X8_canBeAt M km1 F hs hh ⟨fun w => (bP_k k).2 (fun u => bP_z.mp w u.2.2), fun w => (bP_k k).1 ⟨by omega, z2, ?_⟩⟩
  exact Classical.byContradiction (fun g => w (bP_z.mpr g))
end
set_option maxHeartbeats 2000000 in
theorem v_X7_where_0 {K : Sh} {x : Cn} {Q : Int32 → Cn → Prop} {b0 : Nat} {l1 : Int32} {b0_2 : Nat} {b0_2_8 : Nat} {n_b0_2_8 : Nat} (k_b0 : kk K b0 = some (7, 0)) (g_b0_2 : gr x b0 2 = some b0_2) (k_b0_2 : kk K b0_2 = some (4, 0)) (g_b0_2_8 : gr x b0_2 8 = some b0_2_8) (k_b0_2_8 : kk K b0_2_8 = some (24, n_b0_2_8)) (K0 : ((0 ≤ l1 ∧ l1 < gi x b0_2 4) → (vp_in l1 n_b0_2_8 ∧ (∃ c_3 : Nat, gr x b0_2_8 ((l1 : Int32).toNatClampNeg) = some c_3 ∧ (mSI mX4_hourFor [.ref b0_2, .ref c_3] K x (fun r_6 y_5 => Q r_6 y_5))))) ∧ (¬ (0 ≤ l1 ∧ l1 < gi x b0_2 4) → (Q (-2) x))) : mSI mX7_where [.ref b0, .int l1] K x Q := by
  refine s_I (by decide) (by simp [Value.category]) (Nat.le_of_ble_eq_true rfl) ?_
  show mGM mX7_where 0 [some (.ref b0), some (.int l1)] [] (hp K x) (PI K Q)
  refine r_aload_n (pc := 0) dX7_where_0 rfl ?_
  refine r_iload_n (pc := 1) dX7_where_1 rfl ?_
  refine s_VI (pc := 2) mX7_isAsk (ci := 7) (a := b0) (As := [.int l1]) dX7_where_2 lk_X7_173 in_X7_isAsk mo_X7_isAsk ⟨by decide, rfl⟩ ⟨by decide, by decide⟩ (Nat.le_of_ble_eq_true rfl) k_b0 (sp_X7_isAsk k_b0 g_b0_2 k_b0_2 ?_)
  refine r_if_ne (pc := 5) (tgt := 11) dX7_where_5 (by decide) (fun q => ?_) (fun q => ?_)
  · have q := b2i_nz q
    have K0 := K0.1 q
    refine r_aload_n (pc := 11) dX7_where_11 rfl ?_
    refine s_getR (pc := 12) dX7_where_12 fl_X7_20 rfl k_b0 g_b0_2 ?_
    refine r_aload_n (pc := 15) dX7_where_15 rfl ?_
    refine s_getR (pc := 16) dX7_where_16 fl_X7_20 rfl k_b0 g_b0_2 ?_
    refine s_getR (pc := 19) dX7_where_19 fl_X7_176 rfl k_b0_2 g_b0_2_8 ?_
    refine r_iload_n (pc := 22) dX7_where_22 rfl ?_
    obtain ⟨i_2, K0⟩ := K0
    obtain ⟨c_3, g_4, K0⟩ := K0
    refine s_aald (pc := 23) dX7_where_23 (by decide) rfl k_b0_2_8 i_2 g_4 ?_
    refine s_VI (pc := 24) mX4_hourFor (ci := 4) (a := b0_2) (As := [.ref c_3]) dX7_where_24 lk_X7_303 in_X4_hourFor mo_X4_hourFor ⟨by decide, rfl⟩ ⟨by decide, by decide⟩ (Nat.le_of_ble_eq_true rfl) k_b0_2 (mSI_mono K0 (fun r_6 y_5 K0 => ?_))
    exact s_iret rfl dX7_where_27 K0
  · have q := (b2i_z _).mp q
    have K0 := K0.2 q
    refine r_bipush (pc := 8) (v := (-2)) dX7_where_8 (by decide) ?_
    exact s_iret rfl dX7_where_10 K0
set_option maxHeartbeats 2000000 in
theorem v_X8_where_0 {K : Sh} {x : Cn} {Q : Int32 → Cn → Prop} {b0 : Nat} {l1 : Int32} {b0_1 : Nat} {n_b0_1 : Nat} (k_b0 : kk K b0 = some (8, 0)) (g_b0_1 : gr x b0 1 = some b0_1) (k_b0_1 : kk K b0_1 = some (20, n_b0_1)) (K0 : vp_in 3 n_b0_1 ∧ ((¬ (0 ≤ l1 ∧ l1 ≤ gi x b0_1 3 - 1) → (Q (-2) x)) ∧ ((0 ≤ l1 ∧ l1 ≤ gi x b0_1 3 - 1) → (mSI mX8_hourFor [.ref b0, .int l1] K x (fun r_4 y_3 => Q r_4 y_3))))) : mSI mX8_where [.ref b0, .int l1] K x Q := by
  refine s_I (by decide) (by simp [Value.category]) (Nat.le_of_ble_eq_true rfl) ?_
  show mGM mX8_where 0 [some (.ref b0), some (.int l1)] [] (hp K x) (PI K Q)
  refine r_aload_n (pc := 0) dX8_where_0 rfl ?_
  refine r_iload_n (pc := 1) dX8_where_1 rfl ?_
  obtain ⟨i_1, K0⟩ := K0
  refine s_VI (pc := 2) mX8_isAsk (ci := 8) (a := b0) (As := [.int l1]) dX8_where_2 lk_X8_281 in_X8_isAsk mo_X8_isAsk ⟨by decide, rfl⟩ ⟨by decide, by decide⟩ (Nat.le_of_ble_eq_true rfl) k_b0 (sp_X8_isAsk k_b0 g_b0_1 k_b0_1 i_1 ?_)
  refine r_if_eq (pc := 5) (tgt := 16) dX8_where_5 (by decide) (fun q => ?_) (fun q => ?_)
  · have q := (b2i_z _).mp q
    have K0 := K0.1 q
    refine r_bipush (pc := 16) (v := (-2)) dX8_where_16 (by decide) ?_
    exact s_iret rfl dX8_where_18 K0
  · have q := b2i_nz q
    have K0 := K0.2 q
    refine r_aload_n (pc := 8) dX8_where_8 rfl ?_
    refine r_iload_n (pc := 9) dX8_where_9 rfl ?_
    refine s_VI (pc := 10) mX8_hourFor (ci := 8) (a := b0) (As := [.int l1]) dX8_where_10 lk_X8_332 in_X8_hourFor mo_X8_hourFor ⟨by decide, rfl⟩ ⟨by decide, by decide⟩ (Nat.le_of_ble_eq_true rfl) k_b0 (mSI_mono K0 (fun r_4 y_3 K0 => ?_))
    refine r_goto (pc := 13) (tgt := 18) dX8_where_13 (by decide) ?_
    exact s_iret rfl dX8_where_18 K0
set_option maxHeartbeats 2000000 in
theorem v_X7_movable_0 {K : Sh} {x : Cn} {Q : Int32 → Cn → Prop} {b0 : Nat} {l1 : Int32} {b0_2 : Nat} (k_b0 : kk K b0 = some (7, 0)) (g_b0_2 : gr x b0 2 = some b0_2) (k_b0_2 : kk K b0_2 = some (4, 0)) (K0 : ((0 ≤ l1 ∧ l1 < gi x b0_2 3) → (GI mX7_movable 15 [some (.ref b0), some (.int l1), some (.int 0), some (.int 0)] [] K x Q)) ∧ (¬ (0 ≤ l1 ∧ l1 < gi x b0_2 3) → (Q (-2) x))) : mSI mX7_movable [.ref b0, .int l1] K x Q := by
  refine s_I (by decide) (by simp [Value.category]) (Nat.le_of_ble_eq_true rfl) ?_
  show mGM mX7_movable 0 [some (.ref b0), some (.int l1), none, none] [] (hp K x) (PI K Q)
  refine r_aload_n (pc := 0) dX7_movable_0 rfl ?_
  refine r_iload_n (pc := 1) dX7_movable_1 rfl ?_
  refine s_VI (pc := 2) mX7_isSeries (ci := 7) (a := b0) (As := [.int l1]) dX7_movable_2 lk_X7_132 in_X7_isSeries mo_X7_isSeries ⟨by decide, rfl⟩ ⟨by decide, by decide⟩ (Nat.le_of_ble_eq_true rfl) k_b0 (sp_X7_isSeries k_b0 g_b0_2 k_b0_2 ?_)
  refine r_if_ne (pc := 5) (tgt := 11) dX7_movable_5 (by decide) (fun q => ?_) (fun q => ?_)
  · have q := b2i_nz q
    have K0 := K0.1 q
    refine r_iconst (pc := 11) (v := 0) dX7_movable_11 (by decide) ?_
    refine r_istore_n (pc := 12) dX7_movable_12 (by decide) ?_
    refine r_iconst (pc := 13) (L := [some (.ref b0), some (.int l1), some (.int 0), none]) (v := 0) dX7_movable_13 (by decide) ?_
    refine r_istore_n (pc := 14) dX7_movable_14 (by decide) ?_
    exact r_le (L' := [some (.ref b0), some (.int l1), some (.int 0), some (.int 0)]) ⟨rfl, ⟨rfl, ⟨rfl, ⟨rfl, trivial⟩⟩⟩⟩ K0
  · have q := (b2i_z _).mp q
    have K0 := K0.2 q
    refine r_bipush (pc := 8) (v := (-2)) dX7_movable_8 (by decide) ?_
    exact s_iret rfl dX7_movable_10 K0
set_option maxHeartbeats 2000000 in
theorem v_X7_movable_15 {K : Sh} {x : Cn} {Q : Int32 → Cn → Prop} {b0 : Nat} {l1 : Int32} {l2 : Int32} {l3 : Int32}  (k_b0 : kk K b0 = some (7, 0)) (K0 : (24 ≤ l3 → (Q l2 x)) ∧ (¬ 24 ≤ l3 → (mSI mX7_canRetime [.ref b0, .int l1, .int l3] K x (fun r_3 y_2 => (r_3 = 0 → (GI mX7_movable 15 [some (.ref b0), some (.int l1), some (.int l2), some (.int (l3 + 1))] [] K y_2 Q)) ∧ (¬ r_3 = 0 → (GI mX7_movable 15 [some (.ref b0), some (.int l1), some (.int (l2 ||| (1 <<< (l3 &&& 31)))), some (.int (l3 + 1))] [] K y_2 Q)))))) : GI mX7_movable 15 [some (.ref b0), some (.int l1), some (.int l2), some (.int l3)] [] K x Q := by
  show mGM mX7_movable 15 [some (.ref b0), some (.int l1), some (.int l2), some (.int l3)] [] (hp K x) (PI K Q)
  refine r_iload_n (pc := 15) dX7_movable_15 rfl ?_
  refine r_bipush (pc := 16) (v := 24) dX7_movable_16 (by decide) ?_
  refine r_icmp_ge (pc := 18) (tgt := 42) dX7_movable_18 (by decide) (fun q => ?_) (fun q => ?_)
  · have K0 := K0.1 q
    refine r_iload_n (pc := 42) dX7_movable_42 rfl ?_
    exact s_iret rfl dX7_movable_43 K0
  · have K0 := K0.2 q
    refine r_aload_n (pc := 21) dX7_movable_21 rfl ?_
    refine r_iload_n (pc := 22) dX7_movable_22 rfl ?_
    refine r_iload_n (pc := 23) dX7_movable_23 rfl ?_
    refine s_VI (pc := 24) mX7_canRetime (ci := 7) (a := b0) (As := [.int l1, .int l3]) dX7_movable_24 lk_X7_327 in_X7_canRetime mo_X7_canRetime ⟨by decide, rfl⟩ ⟨by decide, by decide⟩ (Nat.le_of_ble_eq_true rfl) k_b0 (mSI_mono K0 (fun r_3 y_2 K0 => ?_))
    refine r_if_eq (pc := 27) (tgt := 36) dX7_movable_27 (by decide) (fun q => ?_) (fun q => ?_)
    · have K0 := K0.1 q
      refine r_iinc (pc := 36) (v := l3 + 1) dX7_movable_36 rfl rfl (by decide) ?_
      refine r_goto (pc := 39) (L := [some (.ref b0), some (.int l1), some (.int l2), some (.int (l3 + 1))]) (tgt := 15) dX7_movable_39 (by decide) ?_
      exact r_le (L' := [some (.ref b0), some (.int l1), some (.int l2), some (.int (l3 + 1))]) ⟨rfl, ⟨rfl, ⟨rfl, ⟨rfl, trivial⟩⟩⟩⟩ K0
    · have K0 := K0.2 q
      refine r_iload_n (pc := 30) dX7_movable_30 rfl ?_
      refine r_iconst (pc := 31) (v := 1) dX7_movable_31 (by decide) ?_
      refine r_iload_n (pc := 32) dX7_movable_32 rfl ?_
      refine r_ishl (pc := 33) dX7_movable_33 ?_
      refine r_ior (pc := 34) dX7_movable_34 ?_
      refine r_istore_n (pc := 35) dX7_movable_35 (by decide) ?_
      refine r_iinc (pc := 36) (L := [some (.ref b0), some (.int l1), some (.int (l2 ||| (1 <<< (l3 &&& 31)))), some (.int l3)]) (v := l3 + 1) dX7_movable_36 rfl rfl (by decide) ?_
      refine r_goto (pc := 39) (L := [some (.ref b0), some (.int l1), some (.int (l2 ||| (1 <<< (l3 &&& 31)))), some (.int (l3 + 1))]) (tgt := 15) dX7_movable_39 (by decide) ?_
      exact r_le (L' := [some (.ref b0), some (.int l1), some (.int (l2 ||| (1 <<< (l3 &&& 31)))), some (.int (l3 + 1))]) ⟨rfl, ⟨rfl, ⟨rfl, ⟨rfl, trivial⟩⟩⟩⟩ K0
set_option maxHeartbeats 2000000 in
theorem v_X8_movable_0 {K : Sh} {x : Cn} {Q : Int32 → Cn → Prop} {b0 : Nat} {l1 : Int32} {b0_1 : Nat} {n_b0_1 : Nat} (k_b0 : kk K b0 = some (8, 0)) (g_b0_1 : gr x b0 1 = some b0_1) (k_b0_1 : kk K b0_1 = some (20, n_b0_1)) (K0 : vp_in 2 n_b0_1 ∧ (((0 ≤ l1 ∧ l1 ≤ gi x b0_1 2 - 1) → (GI mX8_movable 15 [some (.ref b0), some (.int l1), some (.int 0), some (.int 0)] [] K x Q)) ∧ (¬ (0 ≤ l1 ∧ l1 ≤ gi x b0_1 2 - 1) → (Q (-2) x)))) : mSI mX8_movable [.ref b0, .int l1] K x Q := by
  refine s_I (by decide) (by simp [Value.category]) (Nat.le_of_ble_eq_true rfl) ?_
  show mGM mX8_movable 0 [some (.ref b0), some (.int l1), none, none] [] (hp K x) (PI K Q)
  refine r_aload_n (pc := 0) dX8_movable_0 rfl ?_
  refine r_iload_n (pc := 1) dX8_movable_1 rfl ?_
  obtain ⟨i_1, K0⟩ := K0
  refine s_VI (pc := 2) mX8_isSeries (ci := 8) (a := b0) (As := [.int l1]) dX8_movable_2 lk_X8_273 in_X8_isSeries mo_X8_isSeries ⟨by decide, rfl⟩ ⟨by decide, by decide⟩ (Nat.le_of_ble_eq_true rfl) k_b0 (sp_X8_isSeries k_b0 g_b0_1 k_b0_1 i_1 ?_)
  refine r_if_ne (pc := 5) (tgt := 11) dX8_movable_5 (by decide) (fun q => ?_) (fun q => ?_)
  · have q := b2i_nz q
    have K0 := K0.1 q
    refine r_iconst (pc := 11) (v := 0) dX8_movable_11 (by decide) ?_
    refine r_istore_n (pc := 12) dX8_movable_12 (by decide) ?_
    refine r_iconst (pc := 13) (L := [some (.ref b0), some (.int l1), some (.int 0), none]) (v := 0) dX8_movable_13 (by decide) ?_
    refine r_istore_n (pc := 14) dX8_movable_14 (by decide) ?_
    exact r_le (L' := [some (.ref b0), some (.int l1), some (.int 0), some (.int 0)]) ⟨rfl, ⟨rfl, ⟨rfl, ⟨rfl, trivial⟩⟩⟩⟩ K0
  · have q := (b2i_z _).mp q
    have K0 := K0.2 q
    refine r_bipush (pc := 8) (v := (-2)) dX8_movable_8 (by decide) ?_
    exact s_iret rfl dX8_movable_10 K0
set_option maxHeartbeats 2000000 in
theorem v_X8_movable_15 {K : Sh} {x : Cn} {Q : Int32 → Cn → Prop} {b0 : Nat} {l1 : Int32} {l2 : Int32} {l3 : Int32}  (k_b0 : kk K b0 = some (8, 0)) (K0 : (24 ≤ l3 → (Q l2 x)) ∧ (¬ 24 ≤ l3 → (mSI mX8_canRetime [.ref b0, .int l1, .int l3] K x (fun r_3 y_2 => (r_3 = 0 → (GI mX8_movable 15 [some (.ref b0), some (.int l1), some (.int (l2 ||| 0)), some (.int (l3 + 1))] [] K y_2 Q)) ∧ (¬ r_3 = 0 → (GI mX8_movable 15 [some (.ref b0), some (.int l1), some (.int (l2 ||| (1 <<< (l3 &&& 31)))), some (.int (l3 + 1))] [] K y_2 Q)))))) : GI mX8_movable 15 [some (.ref b0), some (.int l1), some (.int l2), some (.int l3)] [] K x Q := by
  show mGM mX8_movable 15 [some (.ref b0), some (.int l1), some (.int l2), some (.int l3)] [] (hp K x) (PI K Q)
  refine r_iload_n (pc := 15) dX8_movable_15 rfl ?_
  refine r_bipush (pc := 16) (v := 24) dX8_movable_16 (by decide) ?_
  refine r_icmp_ge (pc := 18) (tgt := 46) dX8_movable_18 (by decide) (fun q => ?_) (fun q => ?_)
  · have K0 := K0.1 q
    refine r_iload_n (pc := 46) dX8_movable_46 rfl ?_
    exact s_iret rfl dX8_movable_47 K0
  · have K0 := K0.2 q
    refine r_iload_n (pc := 21) dX8_movable_21 rfl ?_
    refine r_aload_n (pc := 22) dX8_movable_22 rfl ?_
    refine r_iload_n (pc := 23) dX8_movable_23 rfl ?_
    refine r_iload_n (pc := 24) dX8_movable_24 rfl ?_
    refine s_VI (pc := 25) mX8_canRetime (ci := 8) (a := b0) (As := [.int l1, .int l3]) dX8_movable_25 lk_X8_357 in_X8_canRetime mo_X8_canRetime ⟨by decide, rfl⟩ ⟨by decide, by decide⟩ (Nat.le_of_ble_eq_true rfl) k_b0 (mSI_mono K0 (fun r_3 y_2 K0 => ?_))
    refine r_if_eq (pc := 28) (tgt := 37) dX8_movable_28 (by decide) (fun q => ?_) (fun q => ?_)
    · have K0 := K0.1 q
      refine r_iconst (pc := 37) (v := 0) dX8_movable_37 (by decide) ?_
      refine r_ior (pc := 38) dX8_movable_38 ?_
      refine r_istore_n (pc := 39) dX8_movable_39 (by decide) ?_
      refine r_iinc (pc := 40) (L := [some (.ref b0), some (.int l1), some (.int (l2 ||| 0)), some (.int l3)]) (v := l3 + 1) dX8_movable_40 rfl rfl (by decide) ?_
      refine r_goto (pc := 43) (L := [some (.ref b0), some (.int l1), some (.int (l2 ||| 0)), some (.int (l3 + 1))]) (tgt := 15) dX8_movable_43 (by decide) ?_
      exact r_le (L' := [some (.ref b0), some (.int l1), some (.int (l2 ||| 0)), some (.int (l3 + 1))]) ⟨rfl, ⟨rfl, ⟨rfl, ⟨rfl, trivial⟩⟩⟩⟩ K0
    · have K0 := K0.2 q
      refine r_iconst (pc := 31) (v := 1) dX8_movable_31 (by decide) ?_
      refine r_iload_n (pc := 32) dX8_movable_32 rfl ?_
      refine r_ishl (pc := 33) dX8_movable_33 ?_
      refine r_goto (pc := 34) (tgt := 38) dX8_movable_34 (by decide) ?_
      refine r_ior (pc := 38) dX8_movable_38 ?_
      refine r_istore_n (pc := 39) dX8_movable_39 (by decide) ?_
      refine r_iinc (pc := 40) (L := [some (.ref b0), some (.int l1), some (.int (l2 ||| (1 <<< (l3 &&& 31)))), some (.int l3)]) (v := l3 + 1) dX8_movable_40 rfl rfl (by decide) ?_
      refine r_goto (pc := 43) (L := [some (.ref b0), some (.int l1), some (.int (l2 ||| (1 <<< (l3 &&& 31)))), some (.int (l3 + 1))]) (tgt := 15) dX8_movable_43 (by decide) ?_
      exact r_le (L' := [some (.ref b0), some (.int l1), some (.int (l2 ||| (1 <<< (l3 &&& 31)))), some (.int (l3 + 1))]) ⟨rfl, ⟨rfl, ⟨rfl, ⟨rfl, trivial⟩⟩⟩⟩ K0
theorem eq_where (a : Int32) : Both mX7_where mX8_where [.int a] := by
  intro x R
  obtain ⟨W, C, S, A, N, E, -, -⟩ := R.sea
  have hn := E.nums
  have hA : A ≤ 24 := hn.2.2.2.2.2.2.2.1
  have ia := inN' (v := a) (n := A) (by omega)
  have rf : ∀ y, EQx x y 7 → mSI mX8_where [.ref 717, .int a] KW y (fun r' z => (if 0 ≤ a ∧ a < nI A then hrF (gi x 718) S N a.toNatClampNeg else -2) = r' ∧ Rel z) := by
    intro y hy
    obtain ⟨R2, eT⟩ := R.e7 hy
    have E2 := E.eqx hy (Or.inl rfl)
    rw [← eT] at E2 ⊢
    have ht := Rel.t2 E2
    refine v_X8_where_0 km R2.2.1.1 km1 ⟨v0 (k := 3) (by decide) rfl rfl, ?_⟩
    rw [ht.2.2.2.1, ia]
    refine ⟨fun z => ⟨if_neg z, R2⟩, fun z => ?_⟩
    rw [if_pos z]
    obtain ⟨i, hi, rfl⟩ := inN (by omega) z
    rw [nI_clamp (show i < 2 ^ 31 by omega)]
    exact sp_X8_hourFor R2.2.1 km1 E2.2.2.2 hi ⟨rfl, R2⟩
  refine v_X7_where_0 k0 R.1.2.1 (ks0 E.1) E.2.1.2.2.2.1 (ks4 E.1) ?_
  rw [hn.2.2.2.1]
  refine ⟨fun z => ?_, fun z => by have := rf x (EQx.rf _ _); rwa [if_neg z] at this⟩
  rw [if_pos z] at rf
  obtain ⟨i, hi, rfl⟩ := inN (by omega) z
  rw [nI_clamp (show i < 2 ^ 31 by omega)] at rf ⊢
  obtain ⟨p, e1, e2, e3, e4⟩ := E.ask hi
  exact ⟨vp_in_nI (by omega) (by decide), p, e1, sp_X4_hourFor E hi e1 (fun y hy => rf y hy)⟩
theorem eq_movable (a : Int32) : Both mX7_movable mX8_movable [.int a] := by
  intro x R
  obtain ⟨W, C, S, A, N, E, -, -⟩ := R.sea
  have hn := E.nums
  have hS : S ≤ 24 := hn.2.2.2.2.2.2.1
  have iS := inN' (v := a) (n := S) (by omega)
  let g : TT → Nat → Nat → Int32 → Int32 := fun T s => orP (fun h => bP (crt T S W N s h))
  have rf : ∀ y, EQx x y 7 → mSI mX8_movable [.ref 717, .int a] KW y (fun r' z => (if 0 ≤ a ∧ a < nI S then accT (g (gi x 718) a.toNatClampNeg) 24 0 else -2) = r' ∧ Rel z) := by
    intro y hy
    obtain ⟨R2, eT⟩ := R.e7 hy
    have E2 := E.eqx hy (Or.inl rfl)
    rw [← eT] at E2 ⊢
    have ht := Rel.t2 E2
    refine v_X8_movable_0 km R2.2.1.1 km1 ⟨v0 (k := 2) (by decide) rfl rfl, ?_⟩
    rw [ht.2.2.1, iS]
    refine ⟨fun z => ?_, fun z => ⟨if_neg z, R2⟩⟩
    rw [if_pos z]
    obtain ⟨s, hs, rfl⟩ := inN (by omega) z
    rw [nI_clamp (show s < 2 ^ 31 by omega)]
    refine lp_acc (g (gi y 718) s) (fun h n => GI mX8_movable 15 [some (.ref 717), some (.int (nI s)), some (.int n), some (.int (nI h))] [] KW y _) 24 0 ?_ (fun h n hh n1 => ?_)
    · exact v_X8_movable_15 km ⟨fun _ => ⟨rfl, R2⟩, fun z => absurd (Int32.le_refl _) z⟩
    · refine v_X8_movable_15 km ⟨fun z => absurd z (nI_ge (b := 24) hh (by decide)), fun _ => ?_⟩
      rw [nI_1, Int32.or_zero]
      exact sp_X8_canRetime R2.2.1 E2.2.2.2 hs hh ⟨fun w => n1 _ (if_pos w), fun w => n1 _ (if_neg w)⟩
  refine v_X7_movable_0 k0 R.1.2.1 (ks0 E.1) ?_
  rw [hn.2.2.1]
  refine ⟨fun z => ?_, fun z => by have := rf x (EQx.rf _ _); rwa [if_neg z] at this⟩
  rw [if_pos z] at rf
  obtain ⟨s, hs, rfl⟩ := inN (by omega) z
  rw [nI_clamp (show s < 2 ^ 31 by omega)] at rf
  refine lp_acc (g (gi x 718) s) (fun h n => ∀ y, EQx x y 7 → GI mX7_movable 15 [some (.ref 0), some (.int (nI s)), some (.int n), some (.int (nI h))] [] KW y _) 24 0 ?_ (fun h n hh n1 => ?_) x (EQx.rf _ _)
  · intro y hy
    exact v_X7_movable_15 k0 ⟨fun _ => rf y hy, fun z => absurd (Int32.le_refl _) z⟩
  · intro y hy
    have E2 := E.eqx hy (Or.inl rfl)
    refine v_X7_movable_15 k0 ⟨fun z => absurd z (nI_ge (b := 24) hh (by decide)), fun _ => ?_⟩
    rw [nI_1]
    exact sp_X7_canRetime (R.1.keep hy.1) E2 hs hh (fun z hz => ⟨fun w => n1 _ (if_pos w) z (hy.tr hz), fun w => n1 _ (if_neg w) z (hy.tr hz)⟩)
end
/-! 42.full.lean.txt -/
section
/-! sums of numbers -/
def sN (f : Nat → Nat) : Nat → Nat
  | 0 => 0
  | n + 1 => sN f n + f n
theorem sN_cg {f g : Nat → Nat} : ∀ n, (∀ i, i < n → f i = g i) → sN f n = sN g n := by
  intro n
  induction n with
  | zero => intro _; rfl
  | succ n ih =>
    intro h
    simp only [sN]
    rw [ih (fun i hi => h i (by omega)), h n (by omega)]
theorem sN_add (f g : Nat → Nat) : ∀ n, sN (fun i => f i + g i) n = sN f n + sN g n := by
  intro n
  induction n with
  | zero => rfl
  | succ n ih =>
    simp only [sN]
    rw [ih]
    omega
theorem sN_0 {f : Nat → Nat} : ∀ n, (∀ i, i < n → f i = 0) → sN f n = 0 := by
  intro n
  induction n with
  | zero => intro _; rfl
  | succ n ih =>
    intro h
    simp only [sN]
    rw [ih (fun i hi => h i (by omega)), h n (by omega)]
theorem sN_swap (f : Nat → Nat → Nat) (m : Nat) : ∀ n, sN (fun i => sN (f i) m) n = sN (fun j => sN (fun i => f i j) n) m := by
  intro n
  induction n with
  | zero => exact (sN_0 m (fun _ _ => rfl)).symm
  | succ n ih =>
    simp only [sN]
    rw [ih, sN_add]
theorem sN_split (f : Nat → Nat) (a : Nat) : ∀ b, sN f (a + b) = sN f a + sN (fun j => f (a + j)) b := by
  intro b
  induction b with
  | zero => rfl
  | succ b ih =>
    rw [← Nat.add_assoc]
    simp only [sN]
    rw [ih]
    omega
theorem npc_sN : ∀ k n, npc k n = sN (fun i => if n.testBit i = true then 1 else 0) k := by
  intro k
  induction k with
  | zero => intro n; rfl
  | succ k ih =>
    intro n
    rw [Nat.add_comm k 1, npc_split 1 k n, sN_split _ 1 k, ih]
    congr 1
    · simp only [sN, npc]
      rw [Nat.testBit_zero]
      by_cases h : n % 2 = 1
      · simp [h]
      · have : n % 2 = 0 := by omega
        simp [this]
    · apply sN_cg
      intro i _
      rw [show n / 2 ^ 1 = n >>> 1 from (Nat.shiftRight_eq_div_pow n 1).symm, Nat.testBit_shiftRight]
theorem cpt_sN (v : Int32) : cpt v = sN (fun i => if tb v i = true then 1 else 0) 32 := npc_sN 32 _
theorem sN_acc {f : Nat → Nat} : ∀ n, accT (fun i a => a + nI (f i)) n 0 = nI (sN f n) := by
  intro n
  induction n with
  | zero => rfl
  | succ n ih =>
    simp only [accT, sN]
    rw [ih, nI_add]
theorem tb_wtc {W N i : Nat} (hW : W ≤ 30) (hN : N ≤ W) (hi : i < 32) : tb (f_wtc (nI N) (nI W)) i = decide (N ≤ i ∧ i < W) := by
  unfold f_wtc
  by_cases c : W ≤ N
  · rw [if_pos (nI_le c (by omega)), tb_0, decide_eq_false (by omega)]
  · rw [if_neg (nI_ge (by omega) (by omega))]
    obtain ⟨w, rfl⟩ : ∃ w, W = w + 1 := ⟨W - 1, by omega⟩
    rw [nI_pred, tb_sb0 N (by omega) w (by omega) (by omega) i hi]
    apply decide_eq_decide.mpr
    omega
/-- an hour is full in a week to come -/
def fuI (T : TT) (S W N : Nat) (d : Int32) (h i : Nat) : Nat := if N ≤ i ∧ i < W ∧ T (6 + 2 * h) ≤ nI (nW T S i d (nI h) 0 0) then 1 else 0
theorem fuI0 {T : TT} {S W N : Nat} {d : Int32} {h i : Nat} (c : ¬ (N ≤ i ∧ i < W)) : fuI T S W N d h i = 0 := if_neg (fun u => c ⟨u.1, u.2.1⟩)
theorem nI_z {n : Nat} (h : n < 2 ^ 31) : nI n = 0 ↔ n = 0 := nI_eq (b := 0) h (by decide)
theorem fuI_sum {T : TT} {S W N : Nat} {d : Int32} (hW : W ≤ 30) (hN : N ≤ W) : sN (fun h => sN (fuI T S W N d h) 32) 24 = sN (fun j => sN (fun h => fuI T S W N d h (N + j)) 24) (W - N) := by
  have e : sN (fun i => sN (fun h => fuI T S W N d h i) 24) (N + ((W - N) + (32 - W))) = sN (fun j => sN (fun h => fuI T S W N d h (N + j)) 24) (W - N) := by
    rw [sN_split, sN_split]
    have h1 : sN (fun i => sN (fun h => fuI T S W N d h i) 24) N = 0 := sN_0 N (fun i hi => sN_0 24 (fun h _ => fuI0 (by omega)))
    have h2 : sN (fun j => sN (fun h => fuI T S W N d h (N + (W - N + j))) 24) (32 - W) = 0 := sN_0 (32 - W) (fun i hi => sN_0 24 (fun h _ => fuI0 (by omega)))
    rw [h1, h2, Nat.zero_add, Nat.add_zero]
  rw [sN_swap, ← e]
  congr 1
  omega
/-- nothing stands in an hour from now on -/
def idl (T : TT) (S W N : Nat) (d : Int32) (h : Nat) : Prop := ∀ i, N ≤ i → i < W → nW T S i d (nI h) 0 0 = 0
set_option maxHeartbeats 2000000 in
theorem v_X7_full_0 {K : Sh} {x : Cn} {Q : Int32 → Cn → Prop} {b0 : Nat} {l1 : Int32} {b0_2 : Nat} (k_b0 : kk K b0 = some (7, 0)) (g_b0_2 : gr x b0 2 = some b0_2) (k_b0_2 : kk K b0_2 = some (4, 0)) (K0 : ((0 < gi x b0_2 0 ∧ 0 ≤ l1 ∧ l1 < 7) → (GI mX7_full 15 [some (.ref b0), some (.int l1), some (.int 0), some (.int 0), none] [] K x Q)) ∧ (¬ (0 < gi x b0_2 0 ∧ 0 ≤ l1 ∧ l1 < 7) → (Q (-2) x))) : mSI mX7_full [.ref b0, .int l1] K x Q := by
  refine s_I (by decide) (by simp [Value.category]) (Nat.le_of_ble_eq_true rfl) ?_
  show mGM mX7_full 0 [some (.ref b0), some (.int l1), none, none, none] [] (hp K x) (PI K Q)
  refine r_aload_n (pc := 0) dX7_full_0 rfl ?_
  refine r_iload_n (pc := 1) dX7_full_1 rfl ?_
  refine s_VI (pc := 2) mX7_isDay (ci := 7) (a := b0) (As := [.int l1]) dX7_full_2 lk_X7_245 in_X7_isDay mo_X7_isDay ⟨by decide, rfl⟩ ⟨by decide, by decide⟩ (Nat.le_of_ble_eq_true rfl) k_b0 (sp_X7_isDay k_b0 g_b0_2 k_b0_2 ?_)
  refine r_if_ne (pc := 5) (tgt := 11) dX7_full_5 (by decide) (fun q => ?_) (fun q => ?_)
  · have q := b2i_nz q
    have K0 := K0.1 q
    refine r_iconst (pc := 11) (v := 0) dX7_full_11 (by decide) ?_
    refine r_istore_n (pc := 12) dX7_full_12 (by decide) ?_
    refine r_iconst (pc := 13) (L := [some (.ref b0), some (.int l1), some (.int 0), none, none]) (v := 0) dX7_full_13 (by decide) ?_
    refine r_istore_n (pc := 14) dX7_full_14 (by decide) ?_
    exact r_le (L' := [some (.ref b0), some (.int l1), some (.int 0), some (.int 0), none]) ⟨rfl, ⟨rfl, ⟨rfl, ⟨rfl, trivial⟩⟩⟩⟩ K0
  · have q := (b2i_z _).mp q
    have K0 := K0.2 q
    refine r_bipush (pc := 8) (v := (-2)) dX7_full_8 (by decide) ?_
    exact s_iret rfl dX7_full_10 K0
set_option maxHeartbeats 2000000 in
theorem v_X7_full_15 {K : Sh} {x : Cn} {Q : Int32 → Cn → Prop} {b0 : Nat} {l1 : Int32} {l2 : Int32} {l3 : Int32} {b0_2 : Nat} {b0_2_5 : Nat} {n_b0_2_5 : Nat} (k_b0 : kk K b0 = some (7, 0)) (g_b0_2 : gr x b0 2 = some b0_2) (k_b0_2 : kk K b0_2 = some (4, 0)) (g_b0_2_5 : gr x b0_2 5 = some b0_2_5) (k_b0_2_5 : kk K b0_2_5 = some (20, n_b0_2_5)) (K0 : (24 ≤ l3 → (Q l2 x)) ∧ (¬ 24 ≤ l3 → (vp_in l3 n_b0_2_5 ∧ (mSI mX4_weeksLoaded [.ref b0_2, .int l1, .int l3, .int (gi x b0_2_5 (l3 : Int32).toNatClampNeg), .int 0, .int 0] K x (fun r_4 y_3 => gr y_3 b0 2 = some b0_2 ∧ (GI mX7_full 15 [some (.ref b0), some (.int l1), some (.int (l2 + (nI (cpt (r_4 &&& (f_wtc (gi y_3 b0_2 1) (gi y_3 b0_2 0))))))), some (.int (l3 + 1)), none] [] K y_3 Q)))))) : GI mX7_full 15 [some (.ref b0), some (.int l1), some (.int l2), some (.int l3), none] [] K x Q := by
  show mGM mX7_full 15 [some (.ref b0), some (.int l1), some (.int l2), some (.int l3), none] [] (hp K x) (PI K Q)
  refine r_iload_n (pc := 15) dX7_full_15 rfl ?_
  refine r_bipush (pc := 16) (v := 24) dX7_full_16 (by decide) ?_
  refine r_icmp_ge (pc := 18) (tgt := 65) dX7_full_18 (by decide) (fun q => ?_) (fun q => ?_)
  · have K0 := K0.1 q
    refine r_iload_n (pc := 65) dX7_full_65 rfl ?_
    exact s_iret rfl dX7_full_66 K0
  · have K0 := K0.2 q
    refine r_aload_n (pc := 21) dX7_full_21 rfl ?_
    refine s_getR (pc := 22) dX7_full_22 fl_X7_20 rfl k_b0 g_b0_2 ?_
    refine r_iload_n (pc := 25) dX7_full_25 rfl ?_
    refine r_iload_n (pc := 26) dX7_full_26 rfl ?_
    refine r_aload_n (pc := 27) dX7_full_27 rfl ?_
    refine s_getR (pc := 28) dX7_full_28 fl_X7_20 rfl k_b0 g_b0_2 ?_
    refine s_getR (pc := 31) dX7_full_31 fl_X7_198 rfl k_b0_2 g_b0_2_5 ?_
    refine r_iload_n (pc := 34) dX7_full_34 rfl ?_
    obtain ⟨i_2, K0⟩ := K0
    refine s_iald (pc := 35) dX7_full_35 k_b0_2_5 i_2 ?_
    refine r_iconst (pc := 36) (v := 0) dX7_full_36 (by decide) ?_
    refine r_iconst (pc := 37) (v := 0) dX7_full_37 (by decide) ?_
    refine s_VI (pc := 38) mX4_weeksLoaded (ci := 4) (a := b0_2) (As := [.int l1, .int l3, .int (gi x b0_2_5 (l3 : Int32).toNatClampNeg), .int 0, .int 0]) dX7_full_38 lk_X7_285 in_X4_weeksLoaded mo_X4_weeksLoaded ⟨by decide, rfl⟩ ⟨by decide, by decide⟩ (Nat.le_of_ble_eq_true rfl) k_b0_2 (mSI_mono K0 (fun r_4 y_3 K0 => ?_))
    refine r_istore (pc := 41) dX7_full_41 (by decide) ?_
    refine r_iload_n (pc := 43) (L := [some (.ref b0), some (.int l1), some (.int l2), some (.int l3), some (.int r_4)]) dX7_full_43 rfl ?_
    refine r_iload (pc := 44) dX7_full_44 rfl ?_
    refine r_aload_n (pc := 46) dX7_full_46 rfl ?_
    obtain ⟨g_5, K0⟩ := K0
    refine s_getR (pc := 47) dX7_full_47 fl_X7_20 rfl k_b0 g_5 ?_
    refine s_VI (pc := 50) mX4_weeksToCome (ci := 4) (a := b0_2) (As := []) dX7_full_50 lk_X7_289 in_X4_weeksToCome mo_X4_weeksToCome ⟨by decide, rfl⟩ ⟨by decide, by decide⟩ (Nat.le_of_ble_eq_true rfl) k_b0_2 (sp_X4_weeksToCome k_b0_2 ?_)
    refine r_iand (pc := 53) dX7_full_53 ?_
    refine s_SI (pc := 54) mJ6_bitCount_0f7a4 (As := [.int (r_4 &&& (f_wtc (gi y_3 b0_2 1) (gi y_3 b0_2 0)))]) dX7_full_54 lk_X7_255 st_J6_bitCount_0f7a4 mo_J6_bitCount_0f7a4 ⟨by decide, by decide⟩ (Nat.le_of_ble_eq_true rfl) (sp_bc  ?_)
    refine r_iadd (pc := 57) dX7_full_57 ?_
    refine r_istore_n (pc := 58) dX7_full_58 (by decide) ?_
    refine r_iinc (pc := 59) (L := [some (.ref b0), some (.int l1), some (.int (l2 + (nI (cpt (r_4 &&& (f_wtc (gi y_3 b0_2 1) (gi y_3 b0_2 0))))))), some (.int l3), some (.int r_4)]) (v := l3 + 1) dX7_full_59 rfl rfl (by decide) ?_
    refine r_goto (pc := 62) (L := [some (.ref b0), some (.int l1), some (.int (l2 + (nI (cpt (r_4 &&& (f_wtc (gi y_3 b0_2 1) (gi y_3 b0_2 0))))))), some (.int (l3 + 1)), some (.int r_4)]) (tgt := 15) dX7_full_62 (by decide) ?_
    exact r_le (L' := [some (.ref b0), some (.int l1), some (.int (l2 + (nI (cpt (r_4 &&& (f_wtc (gi y_3 b0_2 1) (gi y_3 b0_2 0))))))), some (.int (l3 + 1)), none]) ⟨rfl, ⟨rfl, ⟨rfl, ⟨rfl, trivial⟩⟩⟩⟩ K0
set_option maxHeartbeats 2000000 in
theorem v_X8_full_0 {K : Sh} {x : Cn} {Q : Int32 → Cn → Prop} {b0 : Nat} {l1 : Int32} {b0_1 : Nat} {n_b0_1 : Nat} (k_b0 : kk K b0 = some (8, 0)) (g_b0_1 : gr x b0 1 = some b0_1) (k_b0_1 : kk K b0_1 = some (20, n_b0_1)) (K0 : vp_in 0 n_b0_1 ∧ (((0 < gi x b0_1 0 ∧ 0 ≤ l1 ∧ l1 ≤ 6) → (vp_in 4 n_b0_1 ∧ (GI mX8_full 20 [some (.ref b0), some (.int l1), some (.int 0), some (.int (gi x b0_1 4)), none] [] K x Q))) ∧ (¬ (0 < gi x b0_1 0 ∧ 0 ≤ l1 ∧ l1 ≤ 6) → (Q (-2) x)))) : mSI mX8_full [.ref b0, .int l1] K x Q := by
  refine s_I (by decide) (by simp [Value.category]) (Nat.le_of_ble_eq_true rfl) ?_
  show mGM mX8_full 0 [some (.ref b0), some (.int l1), none, none, none] [] (hp K x) (PI K Q)
  refine r_aload_n (pc := 0) dX8_full_0 rfl ?_
  refine r_iload_n (pc := 1) dX8_full_1 rfl ?_
  obtain ⟨i_1, K0⟩ := K0
  refine s_VI (pc := 2) mX8_isDay (ci := 8) (a := b0) (As := [.int l1]) dX8_full_2 lk_X8_61 in_X8_isDay mo_X8_isDay ⟨by decide, rfl⟩ ⟨by decide, by decide⟩ (Nat.le_of_ble_eq_true rfl) k_b0 (sp_X8_isDay k_b0 g_b0_1 k_b0_1 i_1 ?_)
  refine r_if_ne (pc := 5) (tgt := 11) dX8_full_5 (by decide) (fun q => ?_) (fun q => ?_)
  · have q := b2i_nz q
    have K0 := K0.1 q
    refine r_iconst (pc := 11) (v := 0) dX8_full_11 (by decide) ?_
    refine r_istore_n (pc := 12) dX8_full_12 (by decide) ?_
    refine r_aload_n (pc := 13) (L := [some (.ref b0), some (.int l1), some (.int 0), none, none]) dX8_full_13 rfl ?_
    refine s_getR (pc := 14) dX8_full_14 fl_X8_9 rfl k_b0 g_b0_1 ?_
    refine r_iconst (pc := 17) (v := 4) dX8_full_17 (by decide) ?_
    obtain ⟨i_3, K0⟩ := K0
    refine s_iald (pc := 18) dX8_full_18 k_b0_1 i_3 ?_
    refine r_istore_n (pc := 19) dX8_full_19 (by decide) ?_
    exact r_le (L' := [some (.ref b0), some (.int l1), some (.int 0), some (.int (gi x b0_1 4)), none]) ⟨rfl, ⟨rfl, ⟨rfl, ⟨rfl, trivial⟩⟩⟩⟩ K0
  · have q := (b2i_z _).mp q
    have K0 := K0.2 q
    refine r_bipush (pc := 8) (v := (-2)) dX8_full_8 (by decide) ?_
    exact s_iret rfl dX8_full_10 K0
set_option maxHeartbeats 2000000 in
theorem v_X8_full_20 {K : Sh} {x : Cn} {Q : Int32 → Cn → Prop} {b0 : Nat} {l1 : Int32} {l2 : Int32} {l3 : Int32} {b0_1 : Nat} {n_b0_1 : Nat} (k_b0 : kk K b0 = some (8, 0)) (g_b0_1 : gr x b0 1 = some b0_1) (k_b0_1 : kk K b0_1 = some (20, n_b0_1)) (K0 : vp_in 0 n_b0_1 ∧ (((gi x b0_1 0) ≤ l3 → (Q l2 x)) ∧ (¬ (gi x b0_1 0) ≤ l3 → (GI mX8_full 33 [some (.ref b0), some (.int l1), some (.int l2), some (.int l3), some (.int 0)] [] K x Q)))) : GI mX8_full 20 [some (.ref b0), some (.int l1), some (.int l2), some (.int l3), none] [] K x Q := by
  show mGM mX8_full 20 [some (.ref b0), some (.int l1), some (.int l2), some (.int l3), none] [] (hp K x) (PI K Q)
  refine r_iload_n (pc := 20) dX8_full_20 rfl ?_
  refine r_aload_n (pc := 21) dX8_full_21 rfl ?_
  refine s_getR (pc := 22) dX8_full_22 fl_X8_9 rfl k_b0 g_b0_1 ?_
  refine r_iconst (pc := 25) (v := 0) dX8_full_25 (by decide) ?_
  obtain ⟨i_1, K0⟩ := K0
  refine s_iald (pc := 26) dX8_full_26 k_b0_1 i_1 ?_
  refine r_icmp_ge (pc := 27) (tgt := 85) dX8_full_27 (by decide) (fun q => ?_) (fun q => ?_)
  · have K0 := K0.1 q
    refine r_iload_n (pc := 85) dX8_full_85 rfl ?_
    exact s_iret rfl dX8_full_86 K0
  · have K0 := K0.2 q
    refine r_iconst (pc := 30) (v := 0) dX8_full_30 (by decide) ?_
    refine r_istore (pc := 31) dX8_full_31 (by decide) ?_
    exact r_le (L' := [some (.ref b0), some (.int l1), some (.int l2), some (.int l3), some (.int 0)]) ⟨rfl, ⟨rfl, ⟨rfl, ⟨rfl, ⟨rfl, trivial⟩⟩⟩⟩⟩ K0
set_option maxHeartbeats 2000000 in
theorem v_X8_full_33 {K : Sh} {x : Cn} {Q : Int32 → Cn → Prop} {b0 : Nat} {l1 : Int32} {l2 : Int32} {l3 : Int32} {l4 : Int32}  (k_b0 : kk K b0 = some (8, 0)) (K0 : (24 ≤ l4 → (GI mX8_full 20 [some (.ref b0), some (.int l1), some (.int l2), some (.int (l3 + 1)), none] [] K x Q)) ∧ (¬ 24 ≤ l4 → (mSI mX8_loadBut [.ref b0, .int l3, .int l1, .int l4, .int 0, .int (-1)] K x (fun r_3 y_2 => ∃ c_4 : Nat, gr y_2 b0 1 = some c_4 ∧ (∃ n_7 : Nat, kk K c_4 = some (20, n_7) ∧ (vp_in (6 + (2 * l4)) n_7 ∧ ((r_3 < (gi y_2 c_4 ((6 + (2 * l4)) : Int32).toNatClampNeg) → (GI mX8_full 33 [some (.ref b0), some (.int l1), some (.int (l2 + 0)), some (.int l3), some (.int (l4 + 1))] [] K y_2 Q)) ∧ (¬ r_3 < (gi y_2 c_4 ((6 + (2 * l4)) : Int32).toNatClampNeg) → (GI mX8_full 33 [some (.ref b0), some (.int l1), some (.int (l2 + 1)), some (.int l3), some (.int (l4 + 1))] [] K y_2 Q))))))))) : GI mX8_full 33 [some (.ref b0), some (.int l1), some (.int l2), some (.int l3), some (.int l4)] [] K x Q := by
  show mGM mX8_full 33 [some (.ref b0), some (.int l1), some (.int l2), some (.int l3), some (.int l4)] [] (hp K x) (PI K Q)
  refine r_iload (pc := 33) dX8_full_33 rfl ?_
  refine r_bipush (pc := 35) (v := 24) dX8_full_35 (by decide) ?_
  refine r_icmp_ge (pc := 37) (tgt := 79) dX8_full_37 (by decide) (fun q => ?_) (fun q => ?_)
  · have K0 := K0.1 q
    refine r_iinc (pc := 79) (v := l3 + 1) dX8_full_79 rfl rfl (by decide) ?_
    refine r_goto (pc := 82) (L := [some (.ref b0), some (.int l1), some (.int l2), some (.int (l3 + 1)), some (.int l4)]) (tgt := 20) dX8_full_82 (by decide) ?_
    exact r_le (L' := [some (.ref b0), some (.int l1), some (.int l2), some (.int (l3 + 1)), none]) ⟨rfl, ⟨rfl, ⟨rfl, ⟨rfl, trivial⟩⟩⟩⟩ K0
  · have K0 := K0.2 q
    refine r_iload_n (pc := 40) dX8_full_40 rfl ?_
    refine r_aload_n (pc := 41) dX8_full_41 rfl ?_
    refine r_iload_n (pc := 42) dX8_full_42 rfl ?_
    refine r_iload_n (pc := 43) dX8_full_43 rfl ?_
    refine r_iload (pc := 44) dX8_full_44 rfl ?_
    refine r_iconst (pc := 46) (v := 0) dX8_full_46 (by decide) ?_
    refine r_iconst (pc := 47) (v := (-1)) dX8_full_47 (by decide) ?_
    refine s_VI (pc := 48) mX8_loadBut (ci := 8) (a := b0) (As := [.int l3, .int l1, .int l4, .int 0, .int (-1)]) dX8_full_48 lk_X8_86 in_X8_loadBut mo_X8_loadBut ⟨by decide, rfl⟩ ⟨by decide, by decide⟩ (Nat.le_of_ble_eq_true rfl) k_b0 (mSI_mono K0 (fun r_3 y_2 K0 => ?_))
    refine r_aload_n (pc := 51) dX8_full_51 rfl ?_
    obtain ⟨c_4, g_5, K0⟩ := K0
    refine s_getR (pc := 52) dX8_full_52 fl_X8_9 rfl k_b0 g_5 ?_
    refine r_bipush (pc := 55) (v := 6) dX8_full_55 (by decide) ?_
    refine r_iconst (pc := 57) (v := 2) dX8_full_57 (by decide) ?_
    refine r_iload (pc := 58) dX8_full_58 rfl ?_
    refine r_imul (pc := 60) dX8_full_60 ?_
    refine r_iadd (pc := 61) dX8_full_61 ?_
    obtain ⟨n_7, e_6, K0⟩ := K0
    obtain ⟨i_8, K0⟩ := K0
    refine s_iald (pc := 62) dX8_full_62 e_6 i_8 ?_
    refine r_icmp_lt (pc := 63) (tgt := 70) dX8_full_63 (by decide) (fun q => ?_) (fun q => ?_)
    · have K0 := K0.1 q
      refine r_iconst (pc := 70) (v := 0) dX8_full_70 (by decide) ?_
      refine r_iadd (pc := 71) dX8_full_71 ?_
      refine r_istore_n (pc := 72) dX8_full_72 (by decide) ?_
      refine r_iinc (pc := 73) (L := [some (.ref b0), some (.int l1), some (.int (l2 + 0)), some (.int l3), some (.int l4)]) (v := l4 + 1) dX8_full_73 rfl rfl (by decide) ?_
      refine r_goto (pc := 76) (L := [some (.ref b0), some (.int l1), some (.int (l2 + 0)), some (.int l3), some (.int (l4 + 1))]) (tgt := 33) dX8_full_76 (by decide) ?_
      exact r_le (L' := [some (.ref b0), some (.int l1), some (.int (l2 + 0)), some (.int l3), some (.int (l4 + 1))]) ⟨rfl, ⟨rfl, ⟨rfl, ⟨rfl, ⟨rfl, trivial⟩⟩⟩⟩⟩ K0
    · have K0 := K0.2 q
      refine r_iconst (pc := 66) (v := 1) dX8_full_66 (by decide) ?_
      refine r_goto (pc := 67) (tgt := 71) dX8_full_67 (by decide) ?_
      refine r_iadd (pc := 71) dX8_full_71 ?_
      refine r_istore_n (pc := 72) dX8_full_72 (by decide) ?_
      refine r_iinc (pc := 73) (L := [some (.ref b0), some (.int l1), some (.int (l2 + 1)), some (.int l3), some (.int l4)]) (v := l4 + 1) dX8_full_73 rfl rfl (by decide) ?_
      refine r_goto (pc := 76) (L := [some (.ref b0), some (.int l1), some (.int (l2 + 1)), some (.int l3), some (.int (l4 + 1))]) (tgt := 33) dX8_full_76 (by decide) ?_
      exact r_le (L' := [some (.ref b0), some (.int l1), some (.int (l2 + 1)), some (.int l3), some (.int (l4 + 1))]) ⟨rfl, ⟨rfl, ⟨rfl, ⟨rfl, ⟨rfl, trivial⟩⟩⟩⟩⟩ K0
set_option maxHeartbeats 2000000 in
theorem v_X7_idle_0 {K : Sh} {x : Cn} {Q : Int32 → Cn → Prop} {b0 : Nat} {l1 : Int32} {b0_2 : Nat} (k_b0 : kk K b0 = some (7, 0)) (g_b0_2 : gr x b0 2 = some b0_2) (k_b0_2 : kk K b0_2 = some (4, 0)) (K0 : ((0 < gi x b0_2 0 ∧ 0 ≤ l1 ∧ l1 < 7) → (GI mX7_idle 15 [some (.ref b0), some (.int l1), some (.int 0), some (.int 0), none] [] K x Q)) ∧ (¬ (0 < gi x b0_2 0 ∧ 0 ≤ l1 ∧ l1 < 7) → (Q (-2) x))) : mSI mX7_idle [.ref b0, .int l1] K x Q := by
  refine s_I (by decide) (by simp [Value.category]) (Nat.le_of_ble_eq_true rfl) ?_
  show mGM mX7_idle 0 [some (.ref b0), some (.int l1), none, none, none] [] (hp K x) (PI K Q)
  refine r_aload_n (pc := 0) dX7_idle_0 rfl ?_
  refine r_iload_n (pc := 1) dX7_idle_1 rfl ?_
  refine s_VI (pc := 2) mX7_isDay (ci := 7) (a := b0) (As := [.int l1]) dX7_idle_2 lk_X7_245 in_X7_isDay mo_X7_isDay ⟨by decide, rfl⟩ ⟨by decide, by decide⟩ (Nat.le_of_ble_eq_true rfl) k_b0 (sp_X7_isDay k_b0 g_b0_2 k_b0_2 ?_)
  refine r_if_ne (pc := 5) (tgt := 11) dX7_idle_5 (by decide) (fun q => ?_) (fun q => ?_)
  · have q := b2i_nz q
    have K0 := K0.1 q
    refine r_iconst (pc := 11) (v := 0) dX7_idle_11 (by decide) ?_
    refine r_istore_n (pc := 12) dX7_idle_12 (by decide) ?_
    refine r_iconst (pc := 13) (L := [some (.ref b0), some (.int l1), some (.int 0), none, none]) (v := 0) dX7_idle_13 (by decide) ?_
    refine r_istore_n (pc := 14) dX7_idle_14 (by decide) ?_
    exact r_le (L' := [some (.ref b0), some (.int l1), some (.int 0), some (.int 0), none]) ⟨rfl, ⟨rfl, ⟨rfl, ⟨rfl, trivial⟩⟩⟩⟩ K0
  · have q := (b2i_z _).mp q
    have K0 := K0.2 q
    refine r_bipush (pc := 8) (v := (-2)) dX7_idle_8 (by decide) ?_
    exact s_iret rfl dX7_idle_10 K0
set_option maxHeartbeats 2000000 in
theorem v_X7_idle_15 {K : Sh} {x : Cn} {Q : Int32 → Cn → Prop} {b0 : Nat} {l1 : Int32} {l2 : Int32} {l3 : Int32} {b0_2 : Nat} (k_b0 : kk K b0 = some (7, 0)) (g_b0_2 : gr x b0 2 = some b0_2) (k_b0_2 : kk K b0_2 = some (4, 0)) (K0 : (24 ≤ l3 → (Q l2 x)) ∧ (¬ 24 ≤ l3 → (mSI mX4_weeksLoaded [.ref b0_2, .int l1, .int l3, .int 1, .int 0, .int 0] K x (fun r_3 y_2 => gr y_2 b0 2 = some b0_2 ∧ ((¬ (r_3 &&& (f_wtc (gi y_2 b0_2 1) (gi y_2 b0_2 0))) = 0 → (GI mX7_idle 15 [some (.ref b0), some (.int l1), some (.int l2), some (.int (l3 + 1)), none] [] K y_2 Q)) ∧ ((r_3 &&& (f_wtc (gi y_2 b0_2 1) (gi y_2 b0_2 0))) = 0 → (GI mX7_idle 15 [some (.ref b0), some (.int l1), some (.int (l2 ||| (1 <<< (l3 &&& 31)))), some (.int (l3 + 1)), none] [] K y_2 Q))))))) : GI mX7_idle 15 [some (.ref b0), some (.int l1), some (.int l2), some (.int l3), none] [] K x Q := by
  show mGM mX7_idle 15 [some (.ref b0), some (.int l1), some (.int l2), some (.int l3), none] [] (hp K x) (PI K Q)
  refine r_iload_n (pc := 15) dX7_idle_15 rfl ?_
  refine r_bipush (pc := 16) (v := 24) dX7_idle_16 (by decide) ?_
  refine r_icmp_ge (pc := 18) (tgt := 60) dX7_idle_18 (by decide) (fun q => ?_) (fun q => ?_)
  · have K0 := K0.1 q
    refine r_iload_n (pc := 60) dX7_idle_60 rfl ?_
    exact s_iret rfl dX7_idle_61 K0
  · have K0 := K0.2 q
    refine r_aload_n (pc := 21) dX7_idle_21 rfl ?_
    refine s_getR (pc := 22) dX7_idle_22 fl_X7_20 rfl k_b0 g_b0_2 ?_
    refine r_iload_n (pc := 25) dX7_idle_25 rfl ?_
    refine r_iload_n (pc := 26) dX7_idle_26 rfl ?_
    refine r_iconst (pc := 27) (v := 1) dX7_idle_27 (by decide) ?_
    refine r_iconst (pc := 28) (v := 0) dX7_idle_28 (by decide) ?_
    refine r_iconst (pc := 29) (v := 0) dX7_idle_29 (by decide) ?_
    refine s_VI (pc := 30) mX4_weeksLoaded (ci := 4) (a := b0_2) (As := [.int l1, .int l3, .int 1, .int 0, .int 0]) dX7_idle_30 lk_X7_285 in_X4_weeksLoaded mo_X4_weeksLoaded ⟨by decide, rfl⟩ ⟨by decide, by decide⟩ (Nat.le_of_ble_eq_true rfl) k_b0_2 (mSI_mono K0 (fun r_3 y_2 K0 => ?_))
    refine r_istore (pc := 33) dX7_idle_33 (by decide) ?_
    refine r_iload (pc := 35) (L := [some (.ref b0), some (.int l1), some (.int l2), some (.int l3), some (.int r_3)]) dX7_idle_35 rfl ?_
    refine r_aload_n (pc := 37) dX7_idle_37 rfl ?_
    obtain ⟨g_4, K0⟩ := K0
    refine s_getR (pc := 38) dX7_idle_38 fl_X7_20 rfl k_b0 g_4 ?_
    refine s_VI (pc := 41) mX4_weeksToCome (ci := 4) (a := b0_2) (As := []) dX7_idle_41 lk_X7_289 in_X4_weeksToCome mo_X4_weeksToCome ⟨by decide, rfl⟩ ⟨by decide, by decide⟩ (Nat.le_of_ble_eq_true rfl) k_b0_2 (sp_X4_weeksToCome k_b0_2 ?_)
    refine r_iand (pc := 44) dX7_idle_44 ?_
    refine r_if_ne (pc := 45) (tgt := 54) dX7_idle_45 (by decide) (fun q => ?_) (fun q => ?_)
    · have K0 := K0.1 q
      refine r_iinc (pc := 54) (v := l3 + 1) dX7_idle_54 rfl rfl (by decide) ?_
      refine r_goto (pc := 57) (L := [some (.ref b0), some (.int l1), some (.int l2), some (.int (l3 + 1)), some (.int r_3)]) (tgt := 15) dX7_idle_57 (by decide) ?_
      exact r_le (L' := [some (.ref b0), some (.int l1), some (.int l2), some (.int (l3 + 1)), none]) ⟨rfl, ⟨rfl, ⟨rfl, ⟨rfl, trivial⟩⟩⟩⟩ K0
    · have K0 := K0.2 q
      refine r_iload_n (pc := 48) dX7_idle_48 rfl ?_
      refine r_iconst (pc := 49) (v := 1) dX7_idle_49 (by decide) ?_
      refine r_iload_n (pc := 50) dX7_idle_50 rfl ?_
      refine r_ishl (pc := 51) dX7_idle_51 ?_
      refine r_ior (pc := 52) dX7_idle_52 ?_
      refine r_istore_n (pc := 53) dX7_idle_53 (by decide) ?_
      refine r_iinc (pc := 54) (L := [some (.ref b0), some (.int l1), some (.int (l2 ||| (1 <<< (l3 &&& 31)))), some (.int l3), some (.int r_3)]) (v := l3 + 1) dX7_idle_54 rfl rfl (by decide) ?_
      refine r_goto (pc := 57) (L := [some (.ref b0), some (.int l1), some (.int (l2 ||| (1 <<< (l3 &&& 31)))), some (.int (l3 + 1)), some (.int r_3)]) (tgt := 15) dX7_idle_57 (by decide) ?_
      exact r_le (L' := [some (.ref b0), some (.int l1), some (.int (l2 ||| (1 <<< (l3 &&& 31)))), some (.int (l3 + 1)), none]) ⟨rfl, ⟨rfl, ⟨rfl, ⟨rfl, trivial⟩⟩⟩⟩ K0
set_option maxHeartbeats 2000000 in
theorem v_X8_idle_0 {K : Sh} {x : Cn} {Q : Int32 → Cn → Prop} {b0 : Nat} {l1 : Int32} {b0_1 : Nat} {n_b0_1 : Nat} (k_b0 : kk K b0 = some (8, 0)) (g_b0_1 : gr x b0 1 = some b0_1) (k_b0_1 : kk K b0_1 = some (20, n_b0_1)) (K0 : vp_in 0 n_b0_1 ∧ (((0 < gi x b0_1 0 ∧ 0 ≤ l1 ∧ l1 ≤ 6) → (GI mX8_idle 15 [some (.ref b0), some (.int l1), some (.int 0), some (.int 0), none, none] [] K x Q)) ∧ (¬ (0 < gi x b0_1 0 ∧ 0 ≤ l1 ∧ l1 ≤ 6) → (Q (-2) x)))) : mSI mX8_idle [.ref b0, .int l1] K x Q := by
  refine s_I (by decide) (by simp [Value.category]) (Nat.le_of_ble_eq_true rfl) ?_
  show mGM mX8_idle 0 [some (.ref b0), some (.int l1), none, none, none, none] [] (hp K x) (PI K Q)
  refine r_aload_n (pc := 0) dX8_idle_0 rfl ?_
  refine r_iload_n (pc := 1) dX8_idle_1 rfl ?_
  obtain ⟨i_1, K0⟩ := K0
  refine s_VI (pc := 2) mX8_isDay (ci := 8) (a := b0) (As := [.int l1]) dX8_idle_2 lk_X8_61 in_X8_isDay mo_X8_isDay ⟨by decide, rfl⟩ ⟨by decide, by decide⟩ (Nat.le_of_ble_eq_true rfl) k_b0 (sp_X8_isDay k_b0 g_b0_1 k_b0_1 i_1 ?_)
  refine r_if_ne (pc := 5) (tgt := 11) dX8_idle_5 (by decide) (fun q => ?_) (fun q => ?_)
  · have q := b2i_nz q
    have K0 := K0.1 q
    refine r_iconst (pc := 11) (v := 0) dX8_idle_11 (by decide) ?_
    refine r_istore_n (pc := 12) dX8_idle_12 (by decide) ?_
    refine r_iconst (pc := 13) (L := [some (.ref b0), some (.int l1), some (.int 0), none, none, none]) (v := 0) dX8_idle_13 (by decide) ?_
    refine r_istore_n (pc := 14) dX8_idle_14 (by decide) ?_
    exact r_le (L' := [some (.ref b0), some (.int l1), some (.int 0), some (.int 0), none, none]) ⟨rfl, ⟨rfl, ⟨rfl, ⟨rfl, trivial⟩⟩⟩⟩ K0
  · have q := (b2i_z _).mp q
    have K0 := K0.2 q
    refine r_bipush (pc := 8) (v := (-2)) dX8_idle_8 (by decide) ?_
    exact s_iret rfl dX8_idle_10 K0
set_option maxHeartbeats 2000000 in
theorem v_X8_idle_15 {K : Sh} {x : Cn} {Q : Int32 → Cn → Prop} {b0 : Nat} {l1 : Int32} {l2 : Int32} {l3 : Int32} {b0_1 : Nat} {n_b0_1 : Nat} (k_b0 : kk K b0 = some (8, 0)) (g_b0_1 : gr x b0 1 = some b0_1) (k_b0_1 : kk K b0_1 = some (20, n_b0_1)) (K0 : (24 ≤ l3 → (Q l2 x)) ∧ (¬ 24 ≤ l3 → (vp_in 4 n_b0_1 ∧ (GI mX8_idle 32 [some (.ref b0), some (.int l1), some (.int l2), some (.int l3), some (.int 1), some (.int (gi x b0_1 4))] [] K x Q)))) : GI mX8_idle 15 [some (.ref b0), some (.int l1), some (.int l2), some (.int l3), none, none] [] K x Q := by
  show mGM mX8_idle 15 [some (.ref b0), some (.int l1), some (.int l2), some (.int l3), none, none] [] (hp K x) (PI K Q)
  refine r_iload_n (pc := 15) dX8_idle_15 rfl ?_
  refine r_bipush (pc := 16) (v := 24) dX8_idle_16 (by decide) ?_
  refine r_icmp_ge (pc := 18) (tgt := 95) dX8_idle_18 (by decide) (fun q => ?_) (fun q => ?_)
  · have K0 := K0.1 q
    refine r_iload_n (pc := 95) dX8_idle_95 rfl ?_
    exact s_iret rfl dX8_idle_96 K0
  · have K0 := K0.2 q
    refine r_iconst (pc := 21) (v := 1) dX8_idle_21 (by decide) ?_
    refine r_istore (pc := 22) dX8_idle_22 (by decide) ?_
    refine r_aload_n (pc := 24) (L := [some (.ref b0), some (.int l1), some (.int l2), some (.int l3), some (.int 1), none]) dX8_idle_24 rfl ?_
    refine s_getR (pc := 25) dX8_idle_25 fl_X8_9 rfl k_b0 g_b0_1 ?_
    refine r_iconst (pc := 28) (v := 4) dX8_idle_28 (by decide) ?_
    obtain ⟨i_2, K0⟩ := K0
    refine s_iald (pc := 29) dX8_idle_29 k_b0_1 i_2 ?_
    refine r_istore (pc := 30) dX8_idle_30 (by decide) ?_
    exact r_le (L' := [some (.ref b0), some (.int l1), some (.int l2), some (.int l3), some (.int 1), some (.int (gi x b0_1 4))]) ⟨rfl, ⟨rfl, ⟨rfl, ⟨rfl, ⟨rfl, ⟨rfl, trivial⟩⟩⟩⟩⟩⟩ K0
set_option maxHeartbeats 2000000 in
theorem v_X8_idle_32 {K : Sh} {x : Cn} {Q : Int32 → Cn → Prop} {b0 : Nat} {l1 : Int32} {l2 : Int32} {l3 : Int32} {l4 : Int32} {l5 : Int32} {b0_1 : Nat} {n_b0_1 : Nat} (k_b0 : kk K b0 = some (8, 0)) (g_b0_1 : gr x b0 1 = some b0_1) (k_b0_1 : kk K b0_1 = some (20, n_b0_1)) (K0 : vp_in 0 n_b0_1 ∧ (((gi x b0_1 0) ≤ l5 → ((l4 = 0 → (GI mX8_idle 15 [some (.ref b0), some (.int l1), some (.int (l2 ||| 0)), some (.int (l3 + 1)), none, none] [] K x Q)) ∧ (¬ l4 = 0 → (GI mX8_idle 15 [some (.ref b0), some (.int l1), some (.int (l2 ||| (1 <<< (l3 &&& 31)))), some (.int (l3 + 1)), none, none] [] K x Q)))) ∧ (¬ (gi x b0_1 0) ≤ l5 → ((l4 = 0 → ((l4 = 0 → (GI mX8_idle 15 [some (.ref b0), some (.int l1), some (.int (l2 ||| 0)), some (.int (l3 + 1)), none, none] [] K x Q)) ∧ (¬ l4 = 0 → (GI mX8_idle 15 [some (.ref b0), some (.int l1), some (.int (l2 ||| (1 <<< (l3 &&& 31)))), some (.int (l3 + 1)), none, none] [] K x Q)))) ∧ (¬ l4 = 0 → (mSI mX8_loadBut [.ref b0, .int l5, .int l1, .int l3, .int 0, .int (-1)] K x (fun r_7 y_6 => (¬ r_7 = 0 → (GI mX8_idle 32 [some (.ref b0), some (.int l1), some (.int l2), some (.int l3), some (.int 0), some (.int (l5 + 1))] [] K y_6 Q)) ∧ (r_7 = 0 → (GI mX8_idle 32 [some (.ref b0), some (.int l1), some (.int l2), some (.int l3), some (.int 1), some (.int (l5 + 1))] [] K y_6 Q))))))))) : GI mX8_idle 32 [some (.ref b0), some (.int l1), some (.int l2), some (.int l3), some (.int l4), some (.int l5)] [] K x Q := by
  show mGM mX8_idle 32 [some (.ref b0), some (.int l1), some (.int l2), some (.int l3), some (.int l4), some (.int l5)] [] (hp K x) (PI K Q)
  refine r_iload (pc := 32) dX8_idle_32 rfl ?_
  refine r_aload_n (pc := 34) dX8_idle_34 rfl ?_
  refine s_getR (pc := 35) dX8_idle_35 fl_X8_9 rfl k_b0 g_b0_1 ?_
  refine r_iconst (pc := 38) (v := 0) dX8_idle_38 (by decide) ?_
  obtain ⟨i_1, K0⟩ := K0
  refine s_iald (pc := 39) dX8_idle_39 k_b0_1 i_1 ?_
  refine r_icmp_ge (pc := 40) (tgt := 74) dX8_idle_40 (by decide) (fun q => ?_) (fun q => ?_)
  · have K0 := K0.1 q
    refine r_iload_n (pc := 74) dX8_idle_74 rfl ?_
    refine r_iload (pc := 75) dX8_idle_75 rfl ?_
    refine r_if_eq (pc := 77) (tgt := 86) dX8_idle_77 (by decide) (fun q => ?_) (fun q => ?_)
    · have K0 := K0.1 q
      refine r_iconst (pc := 86) (v := 0) dX8_idle_86 (by decide) ?_
      refine r_ior (pc := 87) dX8_idle_87 ?_
      refine r_istore_n (pc := 88) dX8_idle_88 (by decide) ?_
      refine r_iinc (pc := 89) (L := [some (.ref b0), some (.int l1), some (.int (l2 ||| 0)), some (.int l3), some (.int l4), some (.int l5)]) (v := l3 + 1) dX8_idle_89 rfl rfl (by decide) ?_
      refine r_goto (pc := 92) (L := [some (.ref b0), some (.int l1), some (.int (l2 ||| 0)), some (.int (l3 + 1)), some (.int l4), some (.int l5)]) (tgt := 15) dX8_idle_92 (by decide) ?_
      exact r_le (L' := [some (.ref b0), some (.int l1), some (.int (l2 ||| 0)), some (.int (l3 + 1)), none, none]) ⟨rfl, ⟨rfl, ⟨rfl, ⟨rfl, trivial⟩⟩⟩⟩ K0
    · have K0 := K0.2 q
      refine r_iconst (pc := 80) (v := 1) dX8_idle_80 (by decide) ?_
      refine r_iload_n (pc := 81) dX8_idle_81 rfl ?_
      refine r_ishl (pc := 82) dX8_idle_82 ?_
      refine r_goto (pc := 83) (tgt := 87) dX8_idle_83 (by decide) ?_
      refine r_ior (pc := 87) dX8_idle_87 ?_
      refine r_istore_n (pc := 88) dX8_idle_88 (by decide) ?_
      refine r_iinc (pc := 89) (L := [some (.ref b0), some (.int l1), some (.int (l2 ||| (1 <<< (l3 &&& 31)))), some (.int l3), some (.int l4), some (.int l5)]) (v := l3 + 1) dX8_idle_89 rfl rfl (by decide) ?_
      refine r_goto (pc := 92) (L := [some (.ref b0), some (.int l1), some (.int (l2 ||| (1 <<< (l3 &&& 31)))), some (.int (l3 + 1)), some (.int l4), some (.int l5)]) (tgt := 15) dX8_idle_92 (by decide) ?_
      exact r_le (L' := [some (.ref b0), some (.int l1), some (.int (l2 ||| (1 <<< (l3 &&& 31)))), some (.int (l3 + 1)), none, none]) ⟨rfl, ⟨rfl, ⟨rfl, ⟨rfl, trivial⟩⟩⟩⟩ K0
  · have K0 := K0.2 q
    refine r_iload (pc := 43) dX8_idle_43 rfl ?_
    refine r_if_eq (pc := 45) (tgt := 74) dX8_idle_45 (by decide) (fun q => ?_) (fun q => ?_)
    · have K0 := K0.1 q
      refine r_iload_n (pc := 74) dX8_idle_74 rfl ?_
      refine r_iload (pc := 75) dX8_idle_75 rfl ?_
      refine r_if_eq (pc := 77) (tgt := 86) dX8_idle_77 (by decide) (fun q => ?_) (fun q => ?_)
      · have K0 := K0.1 q
        refine r_iconst (pc := 86) (v := 0) dX8_idle_86 (by decide) ?_
        refine r_ior (pc := 87) dX8_idle_87 ?_
        refine r_istore_n (pc := 88) dX8_idle_88 (by decide) ?_
        refine r_iinc (pc := 89) (L := [some (.ref b0), some (.int l1), some (.int (l2 ||| 0)), some (.int l3), some (.int l4), some (.int l5)]) (v := l3 + 1) dX8_idle_89 rfl rfl (by decide) ?_
        refine r_goto (pc := 92) (L := [some (.ref b0), some (.int l1), some (.int (l2 ||| 0)), some (.int (l3 + 1)), some (.int l4), some (.int l5)]) (tgt := 15) dX8_idle_92 (by decide) ?_
        exact r_le (L' := [some (.ref b0), some (.int l1), some (.int (l2 ||| 0)), some (.int (l3 + 1)), none, none]) ⟨rfl, ⟨rfl, ⟨rfl, ⟨rfl, trivial⟩⟩⟩⟩ K0
      · have K0 := K0.2 q
        refine r_iconst (pc := 80) (v := 1) dX8_idle_80 (by decide) ?_
        refine r_iload_n (pc := 81) dX8_idle_81 rfl ?_
        refine r_ishl (pc := 82) dX8_idle_82 ?_
        refine r_goto (pc := 83) (tgt := 87) dX8_idle_83 (by decide) ?_
        refine r_ior (pc := 87) dX8_idle_87 ?_
        refine r_istore_n (pc := 88) dX8_idle_88 (by decide) ?_
        refine r_iinc (pc := 89) (L := [some (.ref b0), some (.int l1), some (.int (l2 ||| (1 <<< (l3 &&& 31)))), some (.int l3), some (.int l4), some (.int l5)]) (v := l3 + 1) dX8_idle_89 rfl rfl (by decide) ?_
        refine r_goto (pc := 92) (L := [some (.ref b0), some (.int l1), some (.int (l2 ||| (1 <<< (l3 &&& 31)))), some (.int (l3 + 1)), some (.int l4), some (.int l5)]) (tgt := 15) dX8_idle_92 (by decide) ?_
        exact r_le (L' := [some (.ref b0), some (.int l1), some (.int (l2 ||| (1 <<< (l3 &&& 31)))), some (.int (l3 + 1)), none, none]) ⟨rfl, ⟨rfl, ⟨rfl, ⟨rfl, trivial⟩⟩⟩⟩ K0
    · have K0 := K0.2 q
      refine r_aload_n (pc := 48) dX8_idle_48 rfl ?_
      refine r_iload (pc := 49) dX8_idle_49 rfl ?_
      refine r_iload_n (pc := 51) dX8_idle_51 rfl ?_
      refine r_iload_n (pc := 52) dX8_idle_52 rfl ?_
      refine r_iconst (pc := 53) (v := 0) dX8_idle_53 (by decide) ?_
      refine r_iconst (pc := 54) (v := (-1)) dX8_idle_54 (by decide) ?_
      refine s_VI (pc := 55) mX8_loadBut (ci := 8) (a := b0) (As := [.int l5, .int l1, .int l3, .int 0, .int (-1)]) dX8_idle_55 lk_X8_86 in_X8_loadBut mo_X8_loadBut ⟨by decide, rfl⟩ ⟨by decide, by decide⟩ (Nat.le_of_ble_eq_true rfl) k_b0 (mSI_mono K0 (fun r_7 y_6 K0 => ?_))
      refine r_if_ne (pc := 58) (tgt := 65) dX8_idle_58 (by decide) (fun q => ?_) (fun q => ?_)
      · have K0 := K0.1 q
        refine r_iconst (pc := 65) (v := 0) dX8_idle_65 (by decide) ?_
        refine r_istore (pc := 66) dX8_idle_66 (by decide) ?_
        refine r_iinc (pc := 68) (L := [some (.ref b0), some (.int l1), some (.int l2), some (.int l3), some (.int 0), some (.int l5)]) (v := l5 + 1) dX8_idle_68 rfl rfl (by decide) ?_
        refine r_goto (pc := 71) (L := [some (.ref b0), some (.int l1), some (.int l2), some (.int l3), some (.int 0), some (.int (l5 + 1))]) (tgt := 32) dX8_idle_71 (by decide) ?_
        exact r_le (L' := [some (.ref b0), some (.int l1), some (.int l2), some (.int l3), some (.int 0), some (.int (l5 + 1))]) ⟨rfl, ⟨rfl, ⟨rfl, ⟨rfl, ⟨rfl, ⟨rfl, trivial⟩⟩⟩⟩⟩⟩ K0
      · have K0 := K0.2 q
        refine r_iconst (pc := 61) (v := 1) dX8_idle_61 (by decide) ?_
        refine r_goto (pc := 62) (tgt := 66) dX8_idle_62 (by decide) ?_
        refine r_istore (pc := 66) dX8_idle_66 (by decide) ?_
        refine r_iinc (pc := 68) (L := [some (.ref b0), some (.int l1), some (.int l2), some (.int l3), some (.int 1), some (.int l5)]) (v := l5 + 1) dX8_idle_68 rfl rfl (by decide) ?_
        refine r_goto (pc := 71) (L := [some (.ref b0), some (.int l1), some (.int l2), some (.int l3), some (.int 1), some (.int (l5 + 1))]) (tgt := 32) dX8_idle_71 (by decide) ?_
        exact r_le (L' := [some (.ref b0), some (.int l1), some (.int l2), some (.int l3), some (.int 1), some (.int (l5 + 1))]) ⟨rfl, ⟨rfl, ⟨rfl, ⟨rfl, ⟨rfl, ⟨rfl, trivial⟩⟩⟩⟩⟩⟩ K0
theorem eq_full (a : Int32) : Both mX7_full mX8_full [.int a] := by
  intro x R
  obtain ⟨W, C, S, A, N, E, -, -⟩ := R.sea
  have hn := E.nums
  have hS : S ≤ 24 := hn.2.2.2.2.2.2.1
  have hW : W ≤ 30 := hn.2.2.2.2.1
  have hN : N ≤ W := hn.2.2.2.2.2.2.2.2
  let F : TT → Int32 := fun T => if 0 < nI W ∧ 0 ≤ a ∧ a < 7 then nI (sN (fun h => sN (fuI T S W N a h) 32) 24) else -2
  have rf : ∀ y, EQx x y 7 → mSI mX8_full [.ref 717, .int a] KW y (fun r' z => F (gi x 718) = r' ∧ Rel z) := by
    intro y hy
    obtain ⟨R2, eT⟩ := R.e7 hy
    have E2 := E.eqx hy (Or.inl rfl)
    rw [← eT] at E2 ⊢
    have ht := Rel.t2 E2
    refine v_X8_full_0 km R2.2.1.1 km1 ⟨v0 (k := 0) (by decide) rfl rfl, ?_⟩
    rw [ht.1, d7, ht.2.2.2.2]
    refine ⟨fun z => ⟨v0 (k := 4) (by decide) rfl rfl, ?_⟩, fun z => ⟨if_neg z, R2⟩⟩
    have eF : F (gi y 718) = nI (sN (fun h => sN (fuI (gi y 718) S W N a h) 32) 24) := if_pos z
    rw [eF, fuI_sum hW hN]
    refine lp_acc (fun j a' => a' + nI (sN (fun h => fuI (gi y 718) S W N a h (N + j)) 24)) (fun j n => GI mX8_full 20 [some (.ref 717), some (.int a), some (.int n), some (.int (nI (N + j))), none] [] KW y _) (W - N) 0 ?_ (fun j n hj n1 => ?_)
    · refine v_X8_full_20 km R2.2.1.1 km1 ⟨v0 (k := 0) (by decide) rfl rfl, fun _ => ⟨?_, R2⟩, fun z => absurd (by rw [ht.1]; exact nI_le (by omega) (by omega)) z⟩
      rw [sN_acc (f := fun j => sN (fun h => fuI (gi y 718) S W N a h (N + j)) 24)]
    · refine v_X8_full_20 km R2.2.1.1 km1 ⟨v0 (k := 0) (by decide) rfl rfl, fun z => absurd (by rw [ht.1] at z; exact z) (nI_ge (by omega) (by omega)), fun _ => ?_⟩
      have key : ∀ m h, h + m = 24 → GI mX8_full 33 [some (.ref 717), some (.int a), some (.int (n + nI (sN (fun h => fuI (gi y 718) S W N a h (N + j)) h))), some (.int (nI (N + j))), some (.int (nI h))] [] KW y (fun r' z => nI (sN (fun j => sN (fun i => fuI (gi y 718) S W N a i (N + j)) 24) (W - N)) = r' ∧ Rel z) := by
        intro m
        induction m with
        | zero =>
          intro h hh
          have : h = 24 := by omega
          subst this
          refine v_X8_full_33 km ⟨fun _ => ?_, fun z => absurd (Int32.le_refl _) z⟩
          rw [nI_1]
          exact n1 _ rfl
        | succ m ih =>
          intro h hh
          refine v_X8_full_33 km ⟨fun z => absurd z (nI_ge (b := 24) (by omega) (by decide)), fun _ => ?_⟩
          refine sp_X8_loadBut R2.2.1 km1 ht.2.2.1 hS (by omega) ⟨718, R2.2.1.1, 518, km1, ?_⟩
          have nx := ih (h + 1) (by omega)
          simp only [sN] at nx
          rw [ixh, nI_clamp (show 6 + 2 * h < 2 ^ 31 by omega), ldB_nW0 wo_0 S hS, nI_1, Int32.add_zero]
          refine ⟨vp_in_nI (by omega) (by decide), fun w => ?_, fun w => ?_⟩
          · rw [show fuI (gi y 718) S W N a h (N + j) = 0 from if_neg (fun u => Int32.not_le.mpr w u.2.2), Nat.add_zero] at nx
            exact nx
          · rw [show fuI (gi y 718) S W N a h (N + j) = 1 from if_pos ⟨by omega, by omega, Int32.not_lt.mp w⟩, ← nI_1, ← Int32.add_assoc] at nx
            exact nx
      have := key 24 0 (by omega)
      simp only [sN, nI_0, Int32.add_zero] at this
      exact this
  refine v_X7_full_0 k0 R.1.2.1 (ks0 E.1) ?_
  rw [hn.1]
  refine ⟨fun z => ?_, fun z => by have := rf x (EQx.rf _ _); rwa [show F (gi x 718) = -2 from if_neg z] at this⟩
  have eF : F (gi x 718) = nI (sN (fun h => sN (fuI (gi x 718) S W N a h) 32) 24) := if_pos z
  rw [eF, ← sN_acc] at rf
  refine lp_acc (fun h a' => a' + nI (sN (fuI (gi x 718) S W N a h) 32)) (fun h n => ∀ y, EQx x y 7 → GI mX7_full 15 [some (.ref 0), some (.int a), some (.int n), some (.int (nI h)), none] [] KW y _) 24 0 ?_ (fun h n hh n1 => ?_) x (EQx.rf _ _)
  · intro y hy
    have c1 := R.1.keep hy.1
    have E2 := E.eqx hy (Or.inl rfl)
    exact v_X7_full_15 k0 c1.2.1 (ks0 E.1) E2.2.1.1 (ks1 E.1) ⟨fun _ => rf y hy, fun z => absurd (Int32.le_refl _) z⟩
  · intro y hy
    have c1 := R.1.keep hy.1
    have E2 := E.eqx hy (Or.inl rfl)
    refine v_X7_full_15 k0 c1.2.1 (ks0 E.1) E2.2.1.1 (ks1 E.1) ⟨fun z => absurd z (nI_ge (b := 24) hh (by decide)), fun _ => ⟨vp_in_nI hh (by decide), ?_⟩⟩
    rw [nI_clamp (show h < 2 ^ 31 by omega), (E2.2.2.1.2.2.2.2.2.1 h hh).1, nI_1]
    refine sp_X4_weeksLoaded E2 (fun r z hz hr => ⟨(c1.keep hz.1).2.1, ?_⟩)
    have hn3 := (E2.eqx hz (Or.inl rfl)).nums
    rw [hn3.1, hn3.2.1]
    refine n1 _ ?_ z (hy.tr hz)
    show n + nI (sN (fuI (gi x 718) S W N a h) 32) = _
    rw [cpt_sN]
    congr 2
    apply sN_cg
    intro i hi
    unfold fuI
    rw [tb_and, tb_wtc hW hN hi]
    by_cases c : N ≤ i ∧ i < W
    · rw [decide_eq_true c, Bool.and_true]
      by_cases c2 : tb r i = true
      · rw [if_pos ⟨c.1, c.2, (hr i hi).mp c2⟩, if_pos c2]
      · rw [if_neg (fun u => c2 ((hr i hi).mpr u.2.2)), if_neg c2]
    · rw [decide_eq_false c, Bool.and_false, if_neg (by omega), if_neg (by decide)]
theorem eq_idle (a : Int32) : Both mX7_idle mX8_idle [.int a] := by
  intro x R
  obtain ⟨W, C, S, A, N, E, -, -⟩ := R.sea
  have hn := E.nums
  have hS : S ≤ 24 := hn.2.2.2.2.2.2.1
  have hW : W ≤ 30 := hn.2.2.2.2.1
  have hN : N ≤ W := hn.2.2.2.2.2.2.2.2
  have nWl : ∀ (T : TT) i (d h : Int32), nW T S i d h 0 0 ≤ 24 := fun T i d h => Nat.le_trans (cnt_le _ _) hS
  let g : TT → Nat → Int32 → Int32 := fun T => orP (fun h => bP (idl T S W N a h))
  have rf : ∀ y, EQx x y 7 → mSI mX8_idle [.ref 717, .int a] KW y (fun r' z => (if 0 < nI W ∧ 0 ≤ a ∧ a < 7 then accT (g (gi x 718)) 24 0 else -2) = r' ∧ Rel z) := by
    intro y hy
    obtain ⟨R2, eT⟩ := R.e7 hy
    have E2 := E.eqx hy (Or.inl rfl)
    rw [← eT] at E2 ⊢
    have ht := Rel.t2 E2
    refine v_X8_idle_0 km R2.2.1.1 km1 ⟨v0 (k := 0) (by decide) rfl rfl, ?_⟩
    rw [ht.1, d7]
    refine ⟨fun z => ?_, fun z => ⟨if_neg z, R2⟩⟩
    rw [if_pos z]
    refine lp_acc (g (gi y 718)) (fun h n => GI mX8_idle 15 [some (.ref 717), some (.int a), some (.int n), some (.int (nI h)), none, none] [] KW y _) 24 0 ?_ (fun h n hh n1 => ?_)
    · exact v_X8_idle_15 km R2.2.1.1 km1 ⟨fun _ => ⟨rfl, R2⟩, fun z => absurd (Int32.le_refl _) z⟩
    · refine v_X8_idle_15 km R2.2.1.1 km1 ⟨fun z => absurd z (nI_ge (b := 24) hh (by decide)), fun _ => ⟨v0 (k := 4) (by decide) rfl rfl, ?_⟩⟩
      rw [ht.2.2.2.2]
      have fin : ∀ v : Int32, v = bP (idl (gi y 718) S W N a h) → ((v = 0 → GI mX8_idle 15 [some (.ref 717), some (.int a), some (.int (n ||| 0)), some (.int (nI h + 1)), none, none] [] KW y (fun r' z => accT (g (gi y 718)) 24 0 = r' ∧ Rel z)) ∧ (¬ v = 0 → GI mX8_idle 15 [some (.ref 717), some (.int a), some (.int (n ||| (1 <<< (nI h &&& 31)))), some (.int (nI h + 1)), none, none] [] KW y (fun r' z => accT (g (gi y 718)) 24 0 = r' ∧ Rel z))) := by
        intro v hv
        rw [nI_1, Int32.or_zero, hv]
        exact ⟨fun w => n1 _ (if_pos w), fun w => n1 _ (if_neg w)⟩
      have st0 : ∀ w, N ≤ w → w ≤ W → ¬ idl (gi y 718) S W N a h → GI mX8_idle 32 [some (.ref 717), some (.int a), some (.int n), some (.int (nI h)), some (.int 0), some (.int (nI w))] [] KW y (fun r' z => accT (g (gi y 718)) 24 0 = r' ∧ Rel z) := by
        intro w h1 h2 u
        have f0 := fin 0 (bP_f u).symm
        exact v_X8_idle_32 km R2.2.1.1 km1 ⟨v0 (k := 0) (by decide) rfl rfl, fun _ => f0, fun _ => ⟨fun _ => f0, fun z => absurd rfl z⟩⟩
      have key : ∀ m w, w + m = W → N ≤ w → (∀ i, N ≤ i → i < w → nW (gi y 718) S i a (nI h) 0 0 = 0) → GI mX8_idle 32 [some (.ref 717), some (.int a), some (.int n), some (.int (nI h)), some (.int 1), some (.int (nI w))] [] KW y (fun r' z => accT (g (gi y 718)) 24 0 = r' ∧ Rel z) := by
        intro m
        induction m with
        | zero =>
          intro w h1 h2 u
          have : w = W := by omega
          subst this
          exact v_X8_idle_32 km R2.2.1.1 km1 ⟨v0 (k := 0) (by decide) rfl rfl, fun _ => fin 1 (bP_t u).symm, fun z => absurd (by rw [ht.1]; exact Int32.le_refl _) z⟩
        | succ m ih =>
          intro w h1 h2 u
          refine v_X8_idle_32 km R2.2.1.1 km1 ⟨v0 (k := 0) (by decide) rfl rfl, fun z => absurd (by rw [ht.1] at z; exact z) (nI_ge (by omega) (by omega)), fun _ => ⟨fun z => absurd z (by decide), fun _ => ?_⟩⟩
          refine sp_X8_loadBut R2.2.1 km1 ht.2.2.1 hS (by omega) ?_
          have := nWl (gi y 718) w a (nI h)
          rw [ldB_nW0 wo_0 S hS, nI_1, nI_z (by omega)]
          refine ⟨fun z => st0 (w + 1) (by omega) (by omega) (fun g => z (g w h2 (by omega))), fun z => ih (w + 1) (by omega) (by omega) (fun i g1 g2 => ?_)⟩
          by_cases c : i = w
          · rw [c]; exact z
          · exact u i g1 (by omega)
      exact key (W - N) N (by omega) (Nat.le_refl _) (fun i g1 g2 => absurd g1 (by omega))
  refine v_X7_idle_0 k0 R.1.2.1 (ks0 E.1) ?_
  rw [hn.1]
  refine ⟨fun z => ?_, fun z => by have := rf x (EQx.rf _ _); rwa [if_neg z] at this⟩
  rw [if_pos z] at rf
  refine lp_acc (g (gi x 718)) (fun h n => ∀ y, EQx x y 7 → GI mX7_idle 15 [some (.ref 0), some (.int a), some (.int n), some (.int (nI h)), none] [] KW y _) 24 0 ?_ (fun h n hh n1 => ?_) x (EQx.rf _ _)
  · intro y hy
    exact v_X7_idle_15 k0 (R.1.keep hy.1).2.1 (ks0 E.1) ⟨fun _ => rf y hy, fun z => absurd (Int32.le_refl _) z⟩
  · intro y hy
    have c1 := R.1.keep hy.1
    have E2 := E.eqx hy (Or.inl rfl)
    refine v_X7_idle_15 k0 c1.2.1 (ks0 E.1) ⟨fun z => absurd z (nI_ge (b := 24) hh (by decide)), fun _ => ?_⟩
    refine sp_X4_weeksLoaded E2 (fun r z hz hr => ⟨(c1.keep hz.1).2.1, ?_⟩)
    have hn3 := (E2.eqx hz (Or.inl rfl)).nums
    rw [hn3.1, hn3.2.1, nI_1]
    have hz2 := hy.tr hz
    have iff : (r &&& f_wtc (nI N) (nI W)) = 0 ↔ idl (gi x 718) S W N a h := by
      constructor
      · intro u i h1 h2
        have v := congrArg (fun v => tb v i) u
        simp only [tb_0, tb_and, tb_wtc hW hN (show i < 32 by omega), decide_eq_true (show N ≤ i ∧ i < W from ⟨h1, h2⟩), Bool.and_true] at v
        have h3 := (hr i (by omega))
        rw [v, show (1 : Int32) = nI 1 by decide, nI_leI (by decide) (by have := nWl (gi x 718) i a (nI h); omega)] at h3
        have h4 : ¬ 1 ≤ nW (gi x 718) S i a (nI h) 0 0 := fun e => absurd (h3.mpr e) (by decide)
        omega
      · intro u
        apply tb_ext
        intro i hi
        rw [tb_0, tb_and, tb_wtc hW hN hi]
        by_cases c : N ≤ i ∧ i < W
        · have h3 := hr i hi
          rw [u i c.1 c.2] at h3
          have h4 : ¬ tb r i = true := fun e => absurd (h3.mp e) (by decide)
          rw [Bool.eq_false_iff.mpr h4, Bool.false_and]
        · rw [decide_eq_false c, Bool.and_false]
    rw [iff]
    exact ⟨fun w => n1 _ (if_pos (bP_f w)) z hz2, fun w => n1 _ (if_neg (fun u => absurd w (bP_z.mp u))) z hz2⟩
end
/-! 43.peak.lean.txt -/
section
theorem cnt_pos {f : Nat → Bool} : ∀ n, 0 < cnt f n → ∃ i, i < n ∧ f i = true := by
  intro n
  induction n with
  | zero => intro h; exact absurd h (by simp [cnt])
  | succ n ih =>
    intro h
    simp only [cnt] at h
    by_cases c : f n = true
    · exact ⟨n, by omega, c⟩
    · rw [if_neg c, Nat.add_zero] at h
      obtain ⟨i, hi, e⟩ := ih h
      exact ⟨i, by omega, e⟩
theorem cnt_pos' {f : Nat → Bool} {i : Nat} (hf : f i = true) : ∀ n, i < n → 0 < cnt f n := by
  intro n
  induction n with
  | zero => intro h; exact absurd h (by omega)
  | succ n ih =>
    intro h
    simp only [cnt]
    by_cases c : i = n
    · rw [← c, if_pos hf]; omega
    · have := ih (by omega)
      omega
def Lw (T : TT) (S w d h : Nat) : Nat := nW T S w (nI d) (nI h) 0 0
def inR (N W w d h : Nat) : Prop := N ≤ w ∧ w < W ∧ d < 7 ∧ h < 24
def ky (w d h : Nat) : Nat := 1000 * w + 100 * d + h
/-- the greatest so far, of the keys below K, and the first place that has it -/
def PKv (T : TT) (S W N K g p : Nat) : Prop := (∃ w d h, inR N W w d h ∧ ky w d h < K ∧ Lw T S w d h = g ∧ p = ky w d h) ∧ ∀ w d h, inR N W w d h → ky w d h < K → Lw T S w d h < g ∨ (Lw T S w d h = g ∧ p ≤ ky w d h)
theorem PKv.uq {T : TT} {S W N g p g' p' : Nat} (a : PKv T S W N 100000 g p) (b : PKv T S W N 100000 g' p') : g = g' ∧ p = p' := by
  obtain ⟨⟨w, d, h, h1, h2, h3, h4⟩, h5⟩ := a
  obtain ⟨⟨w', d', h', i1, i2, i3, i4⟩, i5⟩ := b
  have j1 := i5 w d h h1 h2
  have j2 := h5 w' d' h' i1 i2
  omega
def sdy (T : TT) (s : Nat) : Nat := (so T s 1).toNatClampNeg
def shr (T : TT) (s : Nat) : Nat := (so T s 2).toNatClampNeg
/-- the landed one's way: held weeks of series ahead of (vw, vs) are seen -/
def CI (T : TT) (S W N vw vs g p : Nat) : Prop := ((g = 0 ∧ p = 1000 * N) ∨ (0 < g ∧ ∃ w d h, inR N W w d h ∧ Lw T S w d h = g ∧ p = ky w d h)) ∧ ∀ w s, N ≤ w → w < W → s < S → tb (bas T s) w = true → (w < vw ∨ (w = vw ∧ s < vs)) → Lw T S w (sdy T s) (shr T s) < g ∨ (Lw T S w (sdy T s) (shr T s) = g ∧ p ≤ ky w (sdy T s) (shr T s))
theorem Wse.dh {T : TT} {C W s : Nat} (w : Wse T C W s) : sdy T s < 7 ∧ so T s 1 = nI (sdy T s) ∧ shr T s < 24 ∧ so T s 2 = nI (shr T s) := by
  obtain ⟨-, ⟨d, d1, d2⟩, ⟨h, h1, h2⟩, -⟩ := w
  unfold sdy shr
  rw [d2, h2, nI_clamp (by omega), nI_clamp (by omega)]
  exact ⟨d1, rfl, h1, rfl⟩
theorem CI.fin {T : TT} {S W N C g p : Nat} (hW : W ≤ 30) (hN : N < W) (ws : ∀ s, s < S → Wse T C W s) (c : CI T S W N W 0 g p) : PKv T S W N 100000 g p := by
  obtain ⟨c1, c2⟩ := c
  have pl : ∀ w d h, inR N W w d h → ky w d h < 100000 := fun w d h z => by unfold inR at z; unfold ky; omega
  have all : ∀ w d h, inR N W w d h → Lw T S w d h < g ∨ (Lw T S w d h = g ∧ p ≤ ky w d h) := by
    intro w d h hr
    by_cases z : 0 < Lw T S w d h
    · unfold Lw nW at z
      obtain ⟨s, hs, e⟩ := cnt_pos S z
      unfold cW at e
      simp only [Bool.and_eq_true, decide_eq_true_eq] at e
      obtain ⟨k1, k2, k3, k4⟩ := (ws s hs).dh
      have h1 : sdy T s = d := (nI_eq (by omega) (by unfold inR at hr; omega)).mp (k2.symm.trans e.1.1)
      have h2 : shr T s = h := (nI_eq (by omega) (by unfold inR at hr; omega)).mp (k4.symm.trans e.1.2.1)
      have := c2 w s hr.1 hr.2.1 hs e.2 (Or.inl hr.2.1)
      rwa [h1, h2] at this
    · rcases c1 with ⟨g0, p0⟩ | ⟨g1, -⟩
      · exact Or.inr ⟨by omega, by rw [p0]; unfold inR at hr; unfold ky; omega⟩
      · exact Or.inl (by omega)
  refine ⟨?_, fun w d h hr _ => all w d h hr⟩
  rcases c1 with ⟨g0, p0⟩ | ⟨-, w, d, h, h1, h2, h3⟩
  · have hr : inR N W N 0 0 := ⟨Nat.le_refl _, hN, by omega, by omega⟩
    refine ⟨N, 0, 0, hr, pl _ _ _ hr, ?_, by rw [p0]; unfold ky; omega⟩
    have := all N 0 0 hr
    omega
  · exact ⟨w, d, h, h1, pl _ _ _ h1, h2, h3⟩
theorem CI.nx {T : TT} {S W N w g p : Nat} (c : CI T S W N w S g p) : CI T S W N (w + 1) 0 g p := ⟨c.1, fun v s h1 h2 h3 h4 h5 => c.2 v s h1 h2 h3 h4 (by omega)⟩
theorem CI.no {T : TT} {S W N w s g p : Nat} (c : CI T S W N w s g p) (h : ¬ tb (bas T s) w = true) : CI T S W N w (s + 1) g p := ⟨c.1, fun v u h1 h2 h3 h4 h5 => by
  by_cases z : v = w ∧ u = s
  · rw [z.1, z.2] at h4
    exact absurd h4 h
  · exact c.2 v u h1 h2 h3 h4 (by omega)⟩
theorem CI.up {T : TT} {S W N C w s g p g' p' : Nat} (c : CI T S W N w s g p) (ws : Wse T C W s) (h1 : N ≤ w) (h2 : w < W) (hs : s < S) (hb : tb (bas T s) w = true) (k : (g < Lw T S w (sdy T s) (shr T s) ∧ g' = Lw T S w (sdy T s) (shr T s) ∧ p' = ky w (sdy T s) (shr T s)) ∨ (Lw T S w (sdy T s) (shr T s) = g ∧ ky w (sdy T s) (shr T s) < p ∧ g' = g ∧ p' = ky w (sdy T s) (shr T s)) ∨ ((Lw T S w (sdy T s) (shr T s) < g ∨ (Lw T S w (sdy T s) (shr T s) = g ∧ p ≤ ky w (sdy T s) (shr T s))) ∧ g' = g ∧ p' = p)) : CI T S W N w (s + 1) g' p' := by
  obtain ⟨k1, k2, k3, k4⟩ := ws.dh
  have hpos : 0 < Lw T S w (sdy T s) (shr T s) := by
    unfold Lw nW
    refine cnt_pos' (i := s) ?_ S hs
    unfold cW
    rw [hb, Bool.and_true, decide_eq_true_eq]
    exact ⟨k2, k4, by rw [tb_0]; decide, Or.inr rfl⟩
  have hr : inR N W w (sdy T s) (shr T s) := ⟨h1, h2, k1, k3⟩
  refine ⟨?_, fun v u i1 i2 i3 i4 i5 => ?_⟩
  · rcases k with ⟨a1, a2, a3⟩ | ⟨a1, a2, a3, a4⟩ | ⟨a1, a2, a3⟩
    · exact Or.inr ⟨by omega, w, _, _, hr, a2.symm, a3⟩
    · exact Or.inr ⟨by omega, w, _, _, hr, by omega, a4⟩
    · rw [a2, a3]; exact c.1
  · by_cases z : v = w ∧ u = s
    · rw [z.1, z.2]
      omega
    · have := c.2 v u i1 i2 i3 i4 (by omega)
      omega
theorem PKv.up {T : TT} {S W N w d h : Nat} (hr : inR N W w d h) {g p g' p' : Nat} (c : PKv T S W N (ky w d h) g p) (k : (g < Lw T S w d h ∧ g' = Lw T S w d h ∧ p' = ky w d h) ∨ (Lw T S w d h ≤ g ∧ g' = g ∧ p' = p)) : PKv T S W N (ky w d (h + 1)) g' p' := by
  obtain ⟨⟨w1, d1, e1, i1, i2, i3, i4⟩, c2⟩ := c
  refine ⟨?_, fun w2 d2 e2 j1 j2 => ?_⟩
  · rcases k with ⟨a1, a2, a3⟩ | ⟨a1, a2, a3⟩
    · exact ⟨w, d, h, hr, by unfold ky; omega, a2.symm, a3⟩
    · exact ⟨w1, d1, e1, i1, by unfold ky at i2 ⊢; omega, by omega, by omega⟩
  · by_cases z : w2 = w ∧ d2 = d ∧ e2 = h
    · rw [z.1, z.2.1, z.2.2]
      have : p < ky w d h := by omega
      omega
    · have h3 : ky w2 d2 e2 < ky w d h := by
        unfold inR at hr j1
        unfold ky at j2 ⊢
        omega
      have := c2 w2 d2 e2 j1 h3
      omega
theorem PKv.st {T : TT} {S W N : Nat} (h0 : N < W) : PKv T S W N (ky N 0 1) (Lw T S N 0 0) (ky N 0 0) := by
  refine ⟨⟨N, 0, 0, ⟨Nat.le_refl _, h0, by omega, by omega⟩, by unfold ky; omega, rfl, rfl⟩, fun w d h hr hk => ?_⟩
  have : w = N ∧ d = 0 ∧ h = 0 := by
    unfold inR at hr
    unfold ky at hk
    omega
  rw [this.1, this.2.1, this.2.2]
  exact Or.inr ⟨rfl, Nat.le_refl _⟩
theorem PKv.cg {T : TT} {S W N K K' g p : Nat} (c : PKv T S W N K g p) (h : ∀ w d h, inR N W w d h → (ky w d h < K ↔ ky w d h < K')) : PKv T S W N K' g p := by
  obtain ⟨⟨w1, d1, e1, i1, i2, i3, i4⟩, c2⟩ := c
  exact ⟨⟨w1, d1, e1, i1, (h _ _ _ i1).mp i2, i3, i4⟩, fun w d e j1 j2 => c2 w d e j1 ((h _ _ _ j1).mpr j2)⟩
/-- the reference's way, at key K -/
def RI (T : TT) (S W N K : Nat) (m v : Int32) : Prop := (K = ky N 0 0 ∧ m = -1 ∧ v = -1) ∨ ∃ g p, m = nI g ∧ v = nI p ∧ PKv T S W N K g p
theorem RI.cg {T : TT} {S W N K K' : Nat} {m v : Int32} (c : RI T S W N K m v) (hk : ky N 0 0 < K) (h : ∀ w d h, inR N W w d h → (ky w d h < K ↔ ky w d h < K')) : RI T S W N K' m v := by
  rcases c with ⟨c1, -, -⟩ | ⟨g, p, c1, c2, c3⟩
  · omega
  · exact Or.inr ⟨g, p, c1, c2, c3.cg h⟩
theorem Lw_le {T : TT} {S w d h : Nat} (hS : S ≤ 24) : Lw T S w d h ≤ 24 := Nat.le_trans (cnt_le _ _) hS
theorem RI.up {T : TT} {S W N w d h : Nat} (hS : S ≤ 24) (hr : inR N W w d h) {m v : Int32} (c : RI T S W N (ky w d h) m v) : (m < nI (Lw T S w d h) → RI T S W N (ky w d (h + 1)) (nI (Lw T S w d h)) (nI (ky w d h))) ∧ (¬ m < nI (Lw T S w d h) → RI T S W N (ky w d (h + 1)) m v) := by
  have hl := Lw_le (T := T) (w := w) (d := d) (h := h) hS
  rcases c with ⟨c1, c2, c3⟩ | ⟨g, p, c1, c2, c3⟩
  · have e : w = N ∧ d = 0 ∧ h = 0 := by
      unfold inR at hr
      unfold ky at c1
      omega
    obtain ⟨rfl, rfl, rfl⟩ := e
    refine ⟨fun _ => Or.inr ⟨_, _, rfl, rfl, PKv.st hr.2.1⟩, fun z => absurd ?_ z⟩
    rw [c2]
    have : (0 : Int32) ≤ nI (Lw T S w 0 0) := nI_pos' (by omega)
    exact Int32.lt_of_lt_of_le (by decide) this
  · have hg : g ≤ 24 := by
      obtain ⟨⟨w1, d1, e1, i1, i2, i3, i4⟩, -⟩ := c3
      rw [← i3]
      exact Lw_le hS
    rw [c1, nI_ltI (by omega) (by omega)]
    exact ⟨fun z => Or.inr ⟨_, _, rfl, rfl, c3.up hr (Or.inl ⟨z, rfl, rfl⟩)⟩, fun z => Or.inr ⟨g, p, rfl, c2, c3.up hr (Or.inr ⟨by omega, rfl, rfl⟩)⟩⟩
theorem i_ky (w d h : Nat) : (((1000 : Int32) * nI w) + (100 * nI d)) + nI h = nI (ky w d h) := by
  unfold ky
  rw [show (1000 : Int32) = nI 1000 by decide, show (100 : Int32) = nI 100 by decide, pk_mul, pk_mul, nI_add, nI_add]
/-- what peak answers -/
def Pr (T : TT) (S W N : Nat) (a r : Int32) : Prop := (¬ (0 < nI W ∧ 0 ≤ a ∧ a ≤ 1) → r = -2) ∧ ((0 < nI W ∧ 0 ≤ a ∧ a ≤ 1) → W ≤ N → r = -1) ∧ ((0 < nI W ∧ 0 ≤ a ∧ a ≤ 1) → N < W → ∃ g p, PKv T S W N 100000 g p ∧ r = if a = 0 then nI g else nI p)
theorem Pr.uq {T : TT} {S W N : Nat} {a r r' : Int32} (h : Pr T S W N a r) (k : Pr T S W N a r') : r = r' := by
  by_cases z : 0 < nI W ∧ 0 ≤ a ∧ a ≤ 1
  · by_cases c : W ≤ N
    · rw [h.2.1 z c, k.2.1 z c]
    · obtain ⟨g, p, h1, h2⟩ := h.2.2 z (by omega)
      obtain ⟨g', p', k1, k2⟩ := k.2.2 z (by omega)
      obtain ⟨e1, e2⟩ := h1.uq k1
      rw [h2, k2, e1, e2]
  · rw [h.1 z, k.1 z]
set_option maxHeartbeats 2000000 in
theorem v_X7_peak_0 {K : Sh} {x : Cn} {Q : Int32 → Cn → Prop} {b0 : Nat} {l1 : Int32} {b0_2 : Nat} (k_b0 : kk K b0 = some (7, 0)) (g_b0_2 : gr x b0 2 = some b0_2) (k_b0_2 : kk K b0_2 = some (4, 0)) (K0 : (¬ (0 < gi x b0_2 0) → (Q (-2) x)) ∧ ((0 < gi x b0_2 0) → (((0 ≤ l1 ∧ l1 ≤ 1) → ((¬ (gi x b0_2 0 ≤ gi x b0_2 1) → (GI mX7_peak 54 [some (.ref b0), some (.int l1), some (.int 0), some (.int (1000 * (gi x b0_2 1))), some (.int (gi x b0_2 1)), none, none, none, none] [] K x Q)) ∧ ((gi x b0_2 0 ≤ gi x b0_2 1) → (Q (-1) x)))) ∧ (¬ (0 ≤ l1 ∧ l1 ≤ 1) → (Q (-2) x))))) : mSI mX7_peak [.ref b0, .int l1] K x Q := by
  refine s_I (by decide) (by simp [Value.category]) (Nat.le_of_ble_eq_true rfl) ?_
  show mGM mX7_peak 0 [some (.ref b0), some (.int l1), none, none, none, none, none, none, none] [] (hp K x) (PI K Q)
  refine r_aload_n (pc := 0) dX7_peak_0 rfl ?_
  refine s_VI (pc := 1) mX7_hasText (ci := 7) (a := b0) (As := []) dX7_peak_1 lk_X7_121 in_X7_hasText mo_X7_hasText ⟨by decide, rfl⟩ ⟨by decide, by decide⟩ (Nat.le_of_ble_eq_true rfl) k_b0 (sp_X7_hasText k_b0 g_b0_2 k_b0_2 ?_)
  refine r_if_eq (pc := 4) (tgt := 16) dX7_peak_4 (by decide) (fun q => ?_) (fun q => ?_)
  · have q := (b2i_z _).mp q
    have K0 := K0.1 q
    refine r_bipush (pc := 16) (v := (-2)) dX7_peak_16 (by decide) ?_
    exact s_iret rfl dX7_peak_18 K0
  · have q := b2i_nz q
    have K0 := K0.2 q
    refine r_iload_n (pc := 7) dX7_peak_7 rfl ?_
    refine r_iconst (pc := 8) (v := 0) dX7_peak_8 (by decide) ?_
    refine r_iconst (pc := 9) (v := 1) dX7_peak_9 (by decide) ?_
    refine s_SI (pc := 10) mX7_isWithin (As := [.int l1, .int 0, .int 1]) dX7_peak_10 lk_X7_113 st_X7_isWithin mo_X7_isWithin ⟨by decide, by decide⟩ (Nat.le_of_ble_eq_true rfl) (sp_X7_isWithin  ?_)
    refine r_if_ne (pc := 13) (tgt := 19) dX7_peak_13 (by decide) (fun q => ?_) (fun q => ?_)
    · have q := b2i_nz q
      have K0 := K0.1 q
      refine r_aload_n (pc := 19) dX7_peak_19 rfl ?_
      refine s_getR (pc := 20) dX7_peak_20 fl_X7_20 rfl k_b0 g_b0_2 ?_
      refine s_VI (pc := 23) mX4_isOver (ci := 4) (a := b0_2) (As := []) dX7_peak_23 lk_X7_279 in_X4_isOver mo_X4_isOver ⟨by decide, rfl⟩ ⟨by decide, by decide⟩ (Nat.le_of_ble_eq_true rfl) k_b0_2 (sp_X4_isOver k_b0_2 ?_)
      refine r_if_eq (pc := 26) (tgt := 31) dX7_peak_26 (by decide) (fun q => ?_) (fun q => ?_)
      · have q := (b2i_z _).mp q
        have K0 := K0.1 q
        refine r_iconst (pc := 31) (v := 0) dX7_peak_31 (by decide) ?_
        refine r_istore_n (pc := 32) dX7_peak_32 (by decide) ?_
        refine r_sipush (pc := 33) (L := [some (.ref b0), some (.int l1), some (.int 0), none, none, none, none, none, none]) (v := 1000) dX7_peak_33 (by decide) ?_
        refine r_aload_n (pc := 36) dX7_peak_36 rfl ?_
        refine s_getR (pc := 37) dX7_peak_37 fl_X7_20 rfl k_b0 g_b0_2 ?_
        refine s_getI (pc := 40) dX7_peak_40 fl_X7_103 rfl k_b0_2 ?_
        refine r_imul (pc := 43) dX7_peak_43 ?_
        refine r_istore_n (pc := 44) dX7_peak_44 (by decide) ?_
        refine r_aload_n (pc := 45) (L := [some (.ref b0), some (.int l1), some (.int 0), some (.int (1000 * (gi x b0_2 1))), none, none, none, none, none]) dX7_peak_45 rfl ?_
        refine s_getR (pc := 46) dX7_peak_46 fl_X7_20 rfl k_b0 g_b0_2 ?_
        refine s_getI (pc := 49) dX7_peak_49 fl_X7_103 rfl k_b0_2 ?_
        refine r_istore (pc := 52) dX7_peak_52 (by decide) ?_
        exact r_le (L' := [some (.ref b0), some (.int l1), some (.int 0), some (.int (1000 * (gi x b0_2 1))), some (.int (gi x b0_2 1)), none, none, none, none]) ⟨rfl, ⟨rfl, ⟨rfl, ⟨rfl, ⟨rfl, trivial⟩⟩⟩⟩⟩ K0
      · have q := b2i_nz q
        have K0 := K0.2 q
        refine r_iconst (pc := 29) (v := (-1)) dX7_peak_29 (by decide) ?_
        exact s_iret rfl dX7_peak_30 K0
    · have q := (b2i_z _).mp q
      have K0 := K0.2 q
      refine r_bipush (pc := 16) (v := (-2)) dX7_peak_16 (by decide) ?_
      exact s_iret rfl dX7_peak_18 K0
set_option maxHeartbeats 2000000 in
theorem v_X7_peak_54 {K : Sh} {x : Cn} {Q : Int32 → Cn → Prop} {b0 : Nat} {l1 : Int32} {l2 : Int32} {l3 : Int32} {l4 : Int32} {b0_2 : Nat} (k_b0 : kk K b0 = some (7, 0)) (g_b0_2 : gr x b0 2 = some b0_2) (k_b0_2 : kk K b0_2 = some (4, 0)) (K0 : ((gi x b0_2 0) ≤ l4 → ((¬ l1 = 0 → (Q l3 x)) ∧ (l1 = 0 → (Q l2 x)))) ∧ (¬ (gi x b0_2 0) ≤ l4 → (GI mX7_peak 69 [some (.ref b0), some (.int l1), some (.int l2), some (.int l3), some (.int l4), some (.int 0), none, none, none] [] K x Q))) : GI mX7_peak 54 [some (.ref b0), some (.int l1), some (.int l2), some (.int l3), some (.int l4), none, none, none, none] [] K x Q := by
  show mGM mX7_peak 54 [some (.ref b0), some (.int l1), some (.int l2), some (.int l3), some (.int l4), none, none, none, none] [] (hp K x) (PI K Q)
  refine r_iload (pc := 54) dX7_peak_54 rfl ?_
  refine r_aload_n (pc := 56) dX7_peak_56 rfl ?_
  refine s_getR (pc := 57) dX7_peak_57 fl_X7_20 rfl k_b0 g_b0_2 ?_
  refine s_getI (pc := 60) dX7_peak_60 fl_X7_91 rfl k_b0_2 ?_
  refine r_icmp_ge (pc := 63) (tgt := 183) dX7_peak_63 (by decide) (fun q => ?_) (fun q => ?_)
  · have K0 := K0.1 q
    refine r_iload_n (pc := 183) dX7_peak_183 rfl ?_
    refine r_if_ne (pc := 184) (tgt := 191) dX7_peak_184 (by decide) (fun q => ?_) (fun q => ?_)
    · have K0 := K0.1 q
      refine r_iload_n (pc := 191) dX7_peak_191 rfl ?_
      exact s_iret rfl dX7_peak_192 K0
    · have K0 := K0.2 q
      refine r_iload_n (pc := 187) dX7_peak_187 rfl ?_
      refine r_goto (pc := 188) (tgt := 192) dX7_peak_188 (by decide) ?_
      exact s_iret rfl dX7_peak_192 K0
  · have K0 := K0.2 q
    refine r_iconst (pc := 66) (v := 0) dX7_peak_66 (by decide) ?_
    refine r_istore (pc := 67) dX7_peak_67 (by decide) ?_
    exact r_le (L' := [some (.ref b0), some (.int l1), some (.int l2), some (.int l3), some (.int l4), some (.int 0), none, none, none]) ⟨rfl, ⟨rfl, ⟨rfl, ⟨rfl, ⟨rfl, ⟨rfl, trivial⟩⟩⟩⟩⟩⟩ K0
set_option maxHeartbeats 2000000 in
theorem v_X7_peak_69 {K : Sh} {x : Cn} {Q : Int32 → Cn → Prop} {b0 : Nat} {l1 : Int32} {l2 : Int32} {l3 : Int32} {l4 : Int32} {l5 : Int32} {b0_2 : Nat} {b0_2_7 : Nat} {n_b0_2_7 : Nat} (k_b0 : kk K b0 = some (7, 0)) (g_b0_2 : gr x b0 2 = some b0_2) (k_b0_2 : kk K b0_2 = some (4, 0)) (g_b0_2_7 : gr x b0_2 7 = some b0_2_7) (k_b0_2_7 : kk K b0_2_7 = some (23, n_b0_2_7)) (K0 : ((gi x b0_2 3) ≤ l5 → (GI mX7_peak 54 [some (.ref b0), some (.int l1), some (.int l2), some (.int l3), some (.int (l4 + 1)), none, none, none, none] [] K x Q)) ∧ (¬ (gi x b0_2 3) ≤ l5 → (vp_in l5 n_b0_2_7 ∧ (∃ c_3 : Nat, gr x b0_2_7 ((l5 : Int32).toNatClampNeg) = some c_3 ∧ (kk K c_3 = some (5, 0) ∧ ((¬ (f_bit (f_held x c_3) l4) → (GI mX7_peak 69 [some (.ref b0), some (.int l1), some (.int l2), some (.int l3), some (.int l4), some (.int (l5 + 1)), none, none, none] [] K x Q)) ∧ ((f_bit (f_held x c_3) l4) → (mSI mX4_loadOf [.ref b0_2, .int l4, .int (gi x c_3 1), .int (gi x c_3 2)] K x (fun r_8 y_7 => (l2 < r_8 → (GI mX7_peak 69 [some (.ref b0), some (.int l1), some (.int r_8), some (.int (((1000 * l4) + (100 * (gi y_7 c_3 1))) + (gi y_7 c_3 2))), some (.int l4), some (.int (l5 + 1)), none, none, none] [] K y_7 Q)) ∧ (¬ l2 < r_8 → ((¬ r_8 = l2 → (GI mX7_peak 69 [some (.ref b0), some (.int l1), some (.int l2), some (.int l3), some (.int l4), some (.int (l5 + 1)), none, none, none] [] K y_7 Q)) ∧ (r_8 = l2 → ((l3 ≤ (((1000 * l4) + (100 * (gi y_7 c_3 1))) + (gi y_7 c_3 2)) → (GI mX7_peak 69 [some (.ref b0), some (.int l1), some (.int l2), some (.int l3), some (.int l4), some (.int (l5 + 1)), none, none, none] [] K y_7 Q)) ∧ (¬ l3 ≤ (((1000 * l4) + (100 * (gi y_7 c_3 1))) + (gi y_7 c_3 2)) → (GI mX7_peak 69 [some (.ref b0), some (.int l1), some (.int r_8), some (.int (((1000 * l4) + (100 * (gi y_7 c_3 1))) + (gi y_7 c_3 2))), some (.int l4), some (.int (l5 + 1)), none, none, none] [] K y_7 Q))))))))))))))) : GI mX7_peak 69 [some (.ref b0), some (.int l1), some (.int l2), some (.int l3), some (.int l4), some (.int l5), none, none, none] [] K x Q := by
  show mGM mX7_peak 69 [some (.ref b0), some (.int l1), some (.int l2), some (.int l3), some (.int l4), some (.int l5), none, none, none] [] (hp K x) (PI K Q)
  refine r_iload (pc := 69) dX7_peak_69 rfl ?_
  refine r_aload_n (pc := 71) dX7_peak_71 rfl ?_
  refine s_getR (pc := 72) dX7_peak_72 fl_X7_20 rfl k_b0 g_b0_2 ?_
  refine s_getI (pc := 75) dX7_peak_75 fl_X7_97 rfl k_b0_2 ?_
  refine r_icmp_ge (pc := 78) (tgt := 177) dX7_peak_78 (by decide) (fun q => ?_) (fun q => ?_)
  · have K0 := K0.1 q
    refine r_iinc (pc := 177) (v := l4 + 1) dX7_peak_177 rfl rfl (by decide) ?_
    refine r_goto (pc := 180) (L := [some (.ref b0), some (.int l1), some (.int l2), some (.int l3), some (.int (l4 + 1)), some (.int l5), none, none, none]) (tgt := 54) dX7_peak_180 (by decide) ?_
    exact r_le (L' := [some (.ref b0), some (.int l1), some (.int l2), some (.int l3), some (.int (l4 + 1)), none, none, none, none]) ⟨rfl, ⟨rfl, ⟨rfl, ⟨rfl, ⟨rfl, trivial⟩⟩⟩⟩⟩ K0
  · have K0 := K0.2 q
    refine r_aload_n (pc := 81) dX7_peak_81 rfl ?_
    refine s_getR (pc := 82) dX7_peak_82 fl_X7_20 rfl k_b0 g_b0_2 ?_
    refine s_getR (pc := 85) dX7_peak_85 fl_X7_135 rfl k_b0_2 g_b0_2_7 ?_
    refine r_iload (pc := 88) dX7_peak_88 rfl ?_
    obtain ⟨i_2, K0⟩ := K0
    obtain ⟨c_3, g_4, K0⟩ := K0
    refine s_aald (pc := 90) dX7_peak_90 (by decide) rfl k_b0_2_7 i_2 g_4 ?_
    refine r_astore (pc := 91) dX7_peak_91 (by decide) ?_
    refine r_aload (pc := 93) (L := [some (.ref b0), some (.int l1), some (.int l2), some (.int l3), some (.int l4), some (.int l5), some (.ref c_3), none, none]) dX7_peak_93 rfl ?_
    refine r_iload (pc := 95) dX7_peak_95 rfl ?_
    obtain ⟨e_5, K0⟩ := K0
    refine s_VI (pc := 97) mX5_holds (ci := 5) (a := c_3) (As := [.int l4]) dX7_peak_97 lk_X7_282 in_X5_holds mo_X5_holds ⟨by decide, rfl⟩ ⟨by decide, by decide⟩ (Nat.le_of_ble_eq_true rfl) e_5 (sp_X5_holds e_5 ?_)
    refine r_if_eq (pc := 100) (tgt := 171) dX7_peak_100 (by decide) (fun q => ?_) (fun q => ?_)
    · have q := (b2i_z _).mp q
      have K0 := K0.1 q
      refine r_iinc (pc := 171) (v := l5 + 1) dX7_peak_171 rfl rfl (by decide) ?_
      refine r_goto (pc := 174) (L := [some (.ref b0), some (.int l1), some (.int l2), some (.int l3), some (.int l4), some (.int (l5 + 1)), some (.ref c_3), none, none]) (tgt := 69) dX7_peak_174 (by decide) ?_
      exact r_le (L' := [some (.ref b0), some (.int l1), some (.int l2), some (.int l3), some (.int l4), some (.int (l5 + 1)), none, none, none]) ⟨rfl, ⟨rfl, ⟨rfl, ⟨rfl, ⟨rfl, ⟨rfl, trivial⟩⟩⟩⟩⟩⟩ K0
    · have q := b2i_nz q
      have K0 := K0.2 q
      refine r_aload_n (pc := 103) dX7_peak_103 rfl ?_
      refine s_getR (pc := 104) dX7_peak_104 fl_X7_20 rfl k_b0 g_b0_2 ?_
      refine r_iload (pc := 107) dX7_peak_107 rfl ?_
      refine r_aload (pc := 109) dX7_peak_109 rfl ?_
      refine s_getI (pc := 111) dX7_peak_111 fl_X7_144 rfl e_5 ?_
      refine r_aload (pc := 114) dX7_peak_114 rfl ?_
      refine s_getI (pc := 116) dX7_peak_116 fl_X7_147 rfl e_5 ?_
      refine s_VI (pc := 119) mX4_loadOf (ci := 4) (a := b0_2) (As := [.int l4, .int (gi x c_3 1), .int (gi x c_3 2)]) dX7_peak_119 lk_X7_208 in_X4_loadOf mo_X4_loadOf ⟨by decide, rfl⟩ ⟨by decide, by decide⟩ (Nat.le_of_ble_eq_true rfl) k_b0_2 (mSI_mono K0 (fun r_8 y_7 K0 => ?_))
      refine r_istore (pc := 122) dX7_peak_122 (by decide) ?_
      refine r_sipush (pc := 124) (L := [some (.ref b0), some (.int l1), some (.int l2), some (.int l3), some (.int l4), some (.int l5), some (.ref c_3), some (.int r_8), none]) (v := 1000) dX7_peak_124 (by decide) ?_
      refine r_iload (pc := 127) dX7_peak_127 rfl ?_
      refine r_imul (pc := 129) dX7_peak_129 ?_
      refine r_bipush (pc := 130) (v := 100) dX7_peak_130 (by decide) ?_
      refine r_aload (pc := 132) dX7_peak_132 rfl ?_
      refine s_getI (pc := 134) dX7_peak_134 fl_X7_144 rfl e_5 ?_
      refine r_imul (pc := 137) dX7_peak_137 ?_
      refine r_iadd (pc := 138) dX7_peak_138 ?_
      refine r_aload (pc := 139) dX7_peak_139 rfl ?_
      refine s_getI (pc := 141) dX7_peak_141 fl_X7_147 rfl e_5 ?_
      refine r_iadd (pc := 144) dX7_peak_144 ?_
      refine r_istore (pc := 145) dX7_peak_145 (by decide) ?_
      refine r_iload (pc := 147) (L := [some (.ref b0), some (.int l1), some (.int l2), some (.int l3), some (.int l4), some (.int l5), some (.ref c_3), some (.int r_8), some (.int (((1000 * l4) + (100 * (gi y_7 c_3 1))) + (gi y_7 c_3 2)))]) dX7_peak_147 rfl ?_
      refine r_iload_n (pc := 149) dX7_peak_149 rfl ?_
      refine r_icmp_gt (pc := 150) (tgt := 165) dX7_peak_150 (by decide) (fun q => ?_) (fun q => ?_)
      · have K0 := K0.1 q
        refine r_iload (pc := 165) dX7_peak_165 rfl ?_
        refine r_istore_n (pc := 167) dX7_peak_167 (by decide) ?_
        refine r_iload (pc := 168) (L := [some (.ref b0), some (.int l1), some (.int r_8), some (.int l3), some (.int l4), some (.int l5), some (.ref c_3), some (.int r_8), some (.int (((1000 * l4) + (100 * (gi y_7 c_3 1))) + (gi y_7 c_3 2)))]) dX7_peak_168 rfl ?_
        refine r_istore_n (pc := 170) dX7_peak_170 (by decide) ?_
        refine r_iinc (pc := 171) (L := [some (.ref b0), some (.int l1), some (.int r_8), some (.int (((1000 * l4) + (100 * (gi y_7 c_3 1))) + (gi y_7 c_3 2))), some (.int l4), some (.int l5), some (.ref c_3), some (.int r_8), some (.int (((1000 * l4) + (100 * (gi y_7 c_3 1))) + (gi y_7 c_3 2)))]) (v := l5 + 1) dX7_peak_171 rfl rfl (by decide) ?_
        refine r_goto (pc := 174) (L := [some (.ref b0), some (.int l1), some (.int r_8), some (.int (((1000 * l4) + (100 * (gi y_7 c_3 1))) + (gi y_7 c_3 2))), some (.int l4), some (.int (l5 + 1)), some (.ref c_3), some (.int r_8), some (.int (((1000 * l4) + (100 * (gi y_7 c_3 1))) + (gi y_7 c_3 2)))]) (tgt := 69) dX7_peak_174 (by decide) ?_
        exact r_le (L' := [some (.ref b0), some (.int l1), some (.int r_8), some (.int (((1000 * l4) + (100 * (gi y_7 c_3 1))) + (gi y_7 c_3 2))), some (.int l4), some (.int (l5 + 1)), none, none, none]) ⟨rfl, ⟨rfl, ⟨rfl, ⟨rfl, ⟨rfl, ⟨rfl, trivial⟩⟩⟩⟩⟩⟩ K0
      · have K0 := K0.2 q
        refine r_iload (pc := 153) dX7_peak_153 rfl ?_
        refine r_iload_n (pc := 155) dX7_peak_155 rfl ?_
        refine r_icmp_ne (pc := 156) (tgt := 171) dX7_peak_156 (by decide) (fun q => ?_) (fun q => ?_)
        · have K0 := K0.1 q
          refine r_iinc (pc := 171) (v := l5 + 1) dX7_peak_171 rfl rfl (by decide) ?_
          refine r_goto (pc := 174) (L := [some (.ref b0), some (.int l1), some (.int l2), some (.int l3), some (.int l4), some (.int (l5 + 1)), some (.ref c_3), some (.int r_8), some (.int (((1000 * l4) + (100 * (gi y_7 c_3 1))) + (gi y_7 c_3 2)))]) (tgt := 69) dX7_peak_174 (by decide) ?_
          exact r_le (L' := [some (.ref b0), some (.int l1), some (.int l2), some (.int l3), some (.int l4), some (.int (l5 + 1)), none, none, none]) ⟨rfl, ⟨rfl, ⟨rfl, ⟨rfl, ⟨rfl, ⟨rfl, trivial⟩⟩⟩⟩⟩⟩ K0
        · have K0 := K0.2 q
          refine r_iload (pc := 159) dX7_peak_159 rfl ?_
          refine r_iload_n (pc := 161) dX7_peak_161 rfl ?_
          refine r_icmp_ge (pc := 162) (tgt := 171) dX7_peak_162 (by decide) (fun q => ?_) (fun q => ?_)
          · have K0 := K0.1 q
            refine r_iinc (pc := 171) (v := l5 + 1) dX7_peak_171 rfl rfl (by decide) ?_
            refine r_goto (pc := 174) (L := [some (.ref b0), some (.int l1), some (.int l2), some (.int l3), some (.int l4), some (.int (l5 + 1)), some (.ref c_3), some (.int r_8), some (.int (((1000 * l4) + (100 * (gi y_7 c_3 1))) + (gi y_7 c_3 2)))]) (tgt := 69) dX7_peak_174 (by decide) ?_
            exact r_le (L' := [some (.ref b0), some (.int l1), some (.int l2), some (.int l3), some (.int l4), some (.int (l5 + 1)), none, none, none]) ⟨rfl, ⟨rfl, ⟨rfl, ⟨rfl, ⟨rfl, ⟨rfl, trivial⟩⟩⟩⟩⟩⟩ K0
          · have K0 := K0.2 q
            refine r_iload (pc := 165) dX7_peak_165 rfl ?_
            refine r_istore_n (pc := 167) dX7_peak_167 (by decide) ?_
            refine r_iload (pc := 168) (L := [some (.ref b0), some (.int l1), some (.int r_8), some (.int l3), some (.int l4), some (.int l5), some (.ref c_3), some (.int r_8), some (.int (((1000 * l4) + (100 * (gi y_7 c_3 1))) + (gi y_7 c_3 2)))]) dX7_peak_168 rfl ?_
            refine r_istore_n (pc := 170) dX7_peak_170 (by decide) ?_
            refine r_iinc (pc := 171) (L := [some (.ref b0), some (.int l1), some (.int r_8), some (.int (((1000 * l4) + (100 * (gi y_7 c_3 1))) + (gi y_7 c_3 2))), some (.int l4), some (.int l5), some (.ref c_3), some (.int r_8), some (.int (((1000 * l4) + (100 * (gi y_7 c_3 1))) + (gi y_7 c_3 2)))]) (v := l5 + 1) dX7_peak_171 rfl rfl (by decide) ?_
            refine r_goto (pc := 174) (L := [some (.ref b0), some (.int l1), some (.int r_8), some (.int (((1000 * l4) + (100 * (gi y_7 c_3 1))) + (gi y_7 c_3 2))), some (.int l4), some (.int (l5 + 1)), some (.ref c_3), some (.int r_8), some (.int (((1000 * l4) + (100 * (gi y_7 c_3 1))) + (gi y_7 c_3 2)))]) (tgt := 69) dX7_peak_174 (by decide) ?_
            exact r_le (L' := [some (.ref b0), some (.int l1), some (.int r_8), some (.int (((1000 * l4) + (100 * (gi y_7 c_3 1))) + (gi y_7 c_3 2))), some (.int l4), some (.int (l5 + 1)), none, none, none]) ⟨rfl, ⟨rfl, ⟨rfl, ⟨rfl, ⟨rfl, ⟨rfl, trivial⟩⟩⟩⟩⟩⟩ K0
set_option maxHeartbeats 2000000 in
theorem v_X8_peak_0 {K : Sh} {x : Cn} {Q : Int32 → Cn → Prop} {b0 : Nat} {l1 : Int32} {b0_1 : Nat} {n_b0_1 : Nat} (k_b0 : kk K b0 = some (8, 0)) (g_b0_1 : gr x b0 1 = some b0_1) (k_b0_1 : kk K b0_1 = some (20, n_b0_1)) (K0 : vp_in 0 n_b0_1 ∧ ((¬ (0 < gi x b0_1 0) → (Q (-2) x)) ∧ ((0 < gi x b0_1 0) → (((0 ≤ l1 ∧ l1 ≤ 1) → (vp_in 4 n_b0_1 ∧ ((¬ (gi x b0_1 4) = (gi x b0_1 0) → (GI mX8_peak 49 [some (.ref b0), some (.int l1), some (.int (-1)), some (.int (-1)), some (.int (gi x b0_1 4)), none, none, none] [] K x Q)) ∧ ((gi x b0_1 4) = (gi x b0_1 0) → (Q (-1) x))))) ∧ (¬ (0 ≤ l1 ∧ l1 ≤ 1) → (Q (-2) x)))))) : mSI mX8_peak [.ref b0, .int l1] K x Q := by
  refine s_I (by decide) (by simp [Value.category]) (Nat.le_of_ble_eq_true rfl) ?_
  show mGM mX8_peak 0 [some (.ref b0), some (.int l1), none, none, none, none, none, none] [] (hp K x) (PI K Q)
  refine r_aload_n (pc := 0) dX8_peak_0 rfl ?_
  obtain ⟨i_1, K0⟩ := K0
  refine s_VI (pc := 1) mX8_isThere (ci := 8) (a := b0) (As := []) dX8_peak_1 lk_X8_49 in_X8_isThere mo_X8_isThere ⟨by decide, rfl⟩ ⟨by decide, by decide⟩ (Nat.le_of_ble_eq_true rfl) k_b0 (sp_X8_isThere k_b0 g_b0_1 k_b0_1 i_1 ?_)
  refine r_if_eq (pc := 4) (tgt := 17) dX8_peak_4 (by decide) (fun q => ?_) (fun q => ?_)
  · have q := (b2i_z _).mp q
    have K0 := K0.1 q
    refine r_bipush (pc := 17) (v := (-2)) dX8_peak_17 (by decide) ?_
    exact s_iret rfl dX8_peak_19 K0
  · have q := b2i_nz q
    have K0 := K0.2 q
    refine r_iload_n (pc := 7) dX8_peak_7 rfl ?_
    refine r_i2l (pc := 8) dX8_peak_8 ?_
    refine r_lconst (pc := 9) (v := 0) dX8_peak_9 (by decide) ?_
    refine r_lconst (pc := 10) (v := 1) dX8_peak_10 (by decide) ?_
    refine s_SI (pc := 11) mX8_in (As := [.long ((l1 : Int32).toInt64), .long 0, .long 1]) dX8_peak_11 lk_X8_45 st_X8_in mo_X8_in ⟨by decide, by decide⟩ (Nat.le_of_ble_eq_true rfl) (sq_X8_in (v := l1) (lo := 0) (hi := 1) rfl (by decide) (by decide) ?_)
    refine r_if_ne (pc := 14) (tgt := 20) dX8_peak_14 (by decide) (fun q => ?_) (fun q => ?_)
    · have q := b2i_nz q
      have K0 := K0.1 q
      refine r_aload_n (pc := 20) dX8_peak_20 rfl ?_
      refine s_getR (pc := 21) dX8_peak_21 fl_X8_9 rfl k_b0 g_b0_1 ?_
      refine r_iconst (pc := 24) (v := 4) dX8_peak_24 (by decide) ?_
      obtain ⟨i_4, K0⟩ := K0
      refine s_iald (pc := 25) dX8_peak_25 k_b0_1 i_4 ?_
      refine r_aload_n (pc := 26) dX8_peak_26 rfl ?_
      refine s_getR (pc := 27) dX8_peak_27 fl_X8_9 rfl k_b0 g_b0_1 ?_
      refine r_iconst (pc := 30) (v := 0) dX8_peak_30 (by decide) ?_
      refine s_iald (pc := 31) dX8_peak_31 k_b0_1 i_1 ?_
      refine r_icmp_ne (pc := 32) (tgt := 37) dX8_peak_32 (by decide) (fun q => ?_) (fun q => ?_)
      · have K0 := K0.1 q
        refine r_iconst (pc := 37) (v := (-1)) dX8_peak_37 (by decide) ?_
        refine r_istore_n (pc := 38) dX8_peak_38 (by decide) ?_
        refine r_iconst (pc := 39) (L := [some (.ref b0), some (.int l1), some (.int (-1)), none, none, none, none, none]) (v := (-1)) dX8_peak_39 (by decide) ?_
        refine r_istore_n (pc := 40) dX8_peak_40 (by decide) ?_
        refine r_aload_n (pc := 41) (L := [some (.ref b0), some (.int l1), some (.int (-1)), some (.int (-1)), none, none, none, none]) dX8_peak_41 rfl ?_
        refine s_getR (pc := 42) dX8_peak_42 fl_X8_9 rfl k_b0 g_b0_1 ?_
        refine r_iconst (pc := 45) (v := 4) dX8_peak_45 (by decide) ?_
        refine s_iald (pc := 46) dX8_peak_46 k_b0_1 i_4 ?_
        refine r_istore (pc := 47) dX8_peak_47 (by decide) ?_
        exact r_le (L' := [some (.ref b0), some (.int l1), some (.int (-1)), some (.int (-1)), some (.int (gi x b0_1 4)), none, none, none]) ⟨rfl, ⟨rfl, ⟨rfl, ⟨rfl, ⟨rfl, trivial⟩⟩⟩⟩⟩ K0
      · have K0 := K0.2 q
        refine r_iconst (pc := 35) (v := (-1)) dX8_peak_35 (by decide) ?_
        exact s_iret rfl dX8_peak_36 K0
    · have q := (b2i_z _).mp q
      have K0 := K0.2 q
      refine r_bipush (pc := 17) (v := (-2)) dX8_peak_17 (by decide) ?_
      exact s_iret rfl dX8_peak_19 K0
set_option maxHeartbeats 2000000 in
theorem v_X8_peak_49 {K : Sh} {x : Cn} {Q : Int32 → Cn → Prop} {b0 : Nat} {l1 : Int32} {l2 : Int32} {l3 : Int32} {l4 : Int32} {b0_1 : Nat} {n_b0_1 : Nat} (k_b0 : kk K b0 = some (8, 0)) (g_b0_1 : gr x b0 1 = some b0_1) (k_b0_1 : kk K b0_1 = some (20, n_b0_1)) (K0 : vp_in 0 n_b0_1 ∧ (((gi x b0_1 0) ≤ l4 → ((¬ l1 = 0 → (Q l3 x)) ∧ (l1 = 0 → (Q l2 x)))) ∧ (¬ (gi x b0_1 0) ≤ l4 → (GI mX8_peak 63 [some (.ref b0), some (.int l1), some (.int l2), some (.int l3), some (.int l4), some (.int 0), none, none] [] K x Q)))) : GI mX8_peak 49 [some (.ref b0), some (.int l1), some (.int l2), some (.int l3), some (.int l4), none, none, none] [] K x Q := by
  show mGM mX8_peak 49 [some (.ref b0), some (.int l1), some (.int l2), some (.int l3), some (.int l4), none, none, none] [] (hp K x) (PI K Q)
  refine r_iload (pc := 49) dX8_peak_49 rfl ?_
  refine r_aload_n (pc := 51) dX8_peak_51 rfl ?_
  refine s_getR (pc := 52) dX8_peak_52 fl_X8_9 rfl k_b0 g_b0_1 ?_
  refine r_iconst (pc := 55) (v := 0) dX8_peak_55 (by decide) ?_
  obtain ⟨i_1, K0⟩ := K0
  refine s_iald (pc := 56) dX8_peak_56 k_b0_1 i_1 ?_
  refine r_icmp_ge (pc := 57) (tgt := 140) dX8_peak_57 (by decide) (fun q => ?_) (fun q => ?_)
  · have K0 := K0.1 q
    refine r_iload_n (pc := 140) dX8_peak_140 rfl ?_
    refine r_if_ne (pc := 141) (tgt := 148) dX8_peak_141 (by decide) (fun q => ?_) (fun q => ?_)
    · have K0 := K0.1 q
      refine r_iload_n (pc := 148) dX8_peak_148 rfl ?_
      exact s_iret rfl dX8_peak_149 K0
    · have K0 := K0.2 q
      refine r_iload_n (pc := 144) dX8_peak_144 rfl ?_
      refine r_goto (pc := 145) (tgt := 149) dX8_peak_145 (by decide) ?_
      exact s_iret rfl dX8_peak_149 K0
  · have K0 := K0.2 q
    refine r_iconst (pc := 60) (v := 0) dX8_peak_60 (by decide) ?_
    refine r_istore (pc := 61) dX8_peak_61 (by decide) ?_
    exact r_le (L' := [some (.ref b0), some (.int l1), some (.int l2), some (.int l3), some (.int l4), some (.int 0), none, none]) ⟨rfl, ⟨rfl, ⟨rfl, ⟨rfl, ⟨rfl, ⟨rfl, trivial⟩⟩⟩⟩⟩⟩ K0
set_option maxHeartbeats 2000000 in
theorem v_X8_peak_63 {K : Sh} {x : Cn} {Q : Int32 → Cn → Prop} {b0 : Nat} {l1 : Int32} {l2 : Int32} {l3 : Int32} {l4 : Int32} {l5 : Int32}   (K0 : (7 ≤ l5 → (GI mX8_peak 49 [some (.ref b0), some (.int l1), some (.int l2), some (.int l3), some (.int (l4 + 1)), none, none, none] [] K x Q)) ∧ (¬ 7 ≤ l5 → (GI mX8_peak 73 [some (.ref b0), some (.int l1), some (.int l2), some (.int l3), some (.int l4), some (.int l5), some (.int 0), none] [] K x Q))) : GI mX8_peak 63 [some (.ref b0), some (.int l1), some (.int l2), some (.int l3), some (.int l4), some (.int l5), none, none] [] K x Q := by
  show mGM mX8_peak 63 [some (.ref b0), some (.int l1), some (.int l2), some (.int l3), some (.int l4), some (.int l5), none, none] [] (hp K x) (PI K Q)
  refine r_iload (pc := 63) dX8_peak_63 rfl ?_
  refine r_bipush (pc := 65) (v := 7) dX8_peak_65 (by decide) ?_
  refine r_icmp_ge (pc := 67) (tgt := 134) dX8_peak_67 (by decide) (fun q => ?_) (fun q => ?_)
  · have K0 := K0.1 q
    refine r_iinc (pc := 134) (v := l4 + 1) dX8_peak_134 rfl rfl (by decide) ?_
    refine r_goto (pc := 137) (L := [some (.ref b0), some (.int l1), some (.int l2), some (.int l3), some (.int (l4 + 1)), some (.int l5), none, none]) (tgt := 49) dX8_peak_137 (by decide) ?_
    exact r_le (L' := [some (.ref b0), some (.int l1), some (.int l2), some (.int l3), some (.int (l4 + 1)), none, none, none]) ⟨rfl, ⟨rfl, ⟨rfl, ⟨rfl, ⟨rfl, trivial⟩⟩⟩⟩⟩ K0
  · have K0 := K0.2 q
    refine r_iconst (pc := 70) (v := 0) dX8_peak_70 (by decide) ?_
    refine r_istore (pc := 71) dX8_peak_71 (by decide) ?_
    exact r_le (L' := [some (.ref b0), some (.int l1), some (.int l2), some (.int l3), some (.int l4), some (.int l5), some (.int 0), none]) ⟨rfl, ⟨rfl, ⟨rfl, ⟨rfl, ⟨rfl, ⟨rfl, ⟨rfl, trivial⟩⟩⟩⟩⟩⟩⟩ K0
set_option maxHeartbeats 2000000 in
theorem v_X8_peak_73 {K : Sh} {x : Cn} {Q : Int32 → Cn → Prop} {b0 : Nat} {l1 : Int32} {l2 : Int32} {l3 : Int32} {l4 : Int32} {l5 : Int32} {l6 : Int32}  (k_b0 : kk K b0 = some (8, 0)) (K0 : (24 ≤ l6 → (GI mX8_peak 63 [some (.ref b0), some (.int l1), some (.int l2), some (.int l3), some (.int l4), some (.int (l5 + 1)), none, none] [] K x Q)) ∧ (¬ 24 ≤ l6 → (mSI mX8_loadBut [.ref b0, .int l4, .int l5, .int l6, .int 0, .int (-1)] K x (fun r_3 y_2 => (l2 < r_3 → (GI mX8_peak 73 [some (.ref b0), some (.int l1), some (.int r_3), some (.int (((1000 * l4) + (100 * l5)) + l6)), some (.int l4), some (.int l5), some (.int (l6 + 1)), none] [] K y_2 Q)) ∧ (¬ l2 < r_3 → (GI mX8_peak 73 [some (.ref b0), some (.int l1), some (.int l2), some (.int l3), some (.int l4), some (.int l5), some (.int (l6 + 1)), none] [] K y_2 Q)))))) : GI mX8_peak 73 [some (.ref b0), some (.int l1), some (.int l2), some (.int l3), some (.int l4), some (.int l5), some (.int l6), none] [] K x Q := by
  show mGM mX8_peak 73 [some (.ref b0), some (.int l1), some (.int l2), some (.int l3), some (.int l4), some (.int l5), some (.int l6), none] [] (hp K x) (PI K Q)
  refine r_iload (pc := 73) dX8_peak_73 rfl ?_
  refine r_bipush (pc := 75) (v := 24) dX8_peak_75 (by decide) ?_
  refine r_icmp_ge (pc := 77) (tgt := 128) dX8_peak_77 (by decide) (fun q => ?_) (fun q => ?_)
  · have K0 := K0.1 q
    refine r_iinc (pc := 128) (v := l5 + 1) dX8_peak_128 rfl rfl (by decide) ?_
    refine r_goto (pc := 131) (L := [some (.ref b0), some (.int l1), some (.int l2), some (.int l3), some (.int l4), some (.int (l5 + 1)), some (.int l6), none]) (tgt := 63) dX8_peak_131 (by decide) ?_
    exact r_le (L' := [some (.ref b0), some (.int l1), some (.int l2), some (.int l3), some (.int l4), some (.int (l5 + 1)), none, none]) ⟨rfl, ⟨rfl, ⟨rfl, ⟨rfl, ⟨rfl, ⟨rfl, trivial⟩⟩⟩⟩⟩⟩ K0
  · have K0 := K0.2 q
    refine r_aload_n (pc := 80) dX8_peak_80 rfl ?_
    refine r_iload (pc := 81) dX8_peak_81 rfl ?_
    refine r_iload (pc := 83) dX8_peak_83 rfl ?_
    refine r_iload (pc := 85) dX8_peak_85 rfl ?_
    refine r_iconst (pc := 87) (v := 0) dX8_peak_87 (by decide) ?_
    refine r_iconst (pc := 88) (v := (-1)) dX8_peak_88 (by decide) ?_
    refine s_VI (pc := 89) mX8_loadBut (ci := 8) (a := b0) (As := [.int l4, .int l5, .int l6, .int 0, .int (-1)]) dX8_peak_89 lk_X8_86 in_X8_loadBut mo_X8_loadBut ⟨by decide, rfl⟩ ⟨by decide, by decide⟩ (Nat.le_of_ble_eq_true rfl) k_b0 (mSI_mono K0 (fun r_3 y_2 K0 => ?_))
    refine r_istore (pc := 92) dX8_peak_92 (by decide) ?_
    refine r_iload (pc := 94) (L := [some (.ref b0), some (.int l1), some (.int l2), some (.int l3), some (.int l4), some (.int l5), some (.int l6), some (.int r_3)]) dX8_peak_94 rfl ?_
    refine r_iload_n (pc := 96) dX8_peak_96 rfl ?_
    refine r_icmp_gt (pc := 97) (tgt := 103) dX8_peak_97 (by decide) (fun q => ?_) (fun q => ?_)
    · have K0 := K0.1 q
      refine r_iload (pc := 103) dX8_peak_103 rfl ?_
      refine r_istore_n (pc := 105) dX8_peak_105 (by decide) ?_
      refine r_sipush (pc := 106) (L := [some (.ref b0), some (.int l1), some (.int r_3), some (.int l3), some (.int l4), some (.int l5), some (.int l6), some (.int r_3)]) (v := 1000) dX8_peak_106 (by decide) ?_
      refine r_iload (pc := 109) dX8_peak_109 rfl ?_
      refine r_imul (pc := 111) dX8_peak_111 ?_
      refine r_bipush (pc := 112) (v := 100) dX8_peak_112 (by decide) ?_
      refine r_iload (pc := 114) dX8_peak_114 rfl ?_
      refine r_imul (pc := 116) dX8_peak_116 ?_
      refine r_iadd (pc := 117) dX8_peak_117 ?_
      refine r_iload (pc := 118) dX8_peak_118 rfl ?_
      refine r_iadd (pc := 120) dX8_peak_120 ?_
      refine r_istore_n (pc := 121) dX8_peak_121 (by decide) ?_
      refine r_iinc (pc := 122) (L := [some (.ref b0), some (.int l1), some (.int r_3), some (.int (((1000 * l4) + (100 * l5)) + l6)), some (.int l4), some (.int l5), some (.int l6), some (.int r_3)]) (v := l6 + 1) dX8_peak_122 rfl rfl (by decide) ?_
      refine r_goto (pc := 125) (L := [some (.ref b0), some (.int l1), some (.int r_3), some (.int (((1000 * l4) + (100 * l5)) + l6)), some (.int l4), some (.int l5), some (.int (l6 + 1)), some (.int r_3)]) (tgt := 73) dX8_peak_125 (by decide) ?_
      exact r_le (L' := [some (.ref b0), some (.int l1), some (.int r_3), some (.int (((1000 * l4) + (100 * l5)) + l6)), some (.int l4), some (.int l5), some (.int (l6 + 1)), none]) ⟨rfl, ⟨rfl, ⟨rfl, ⟨rfl, ⟨rfl, ⟨rfl, ⟨rfl, trivial⟩⟩⟩⟩⟩⟩⟩ K0
    · have K0 := K0.2 q
      refine r_goto (pc := 100) (tgt := 122) dX8_peak_100 (by decide) ?_
      refine r_iinc (pc := 122) (v := l6 + 1) dX8_peak_122 rfl rfl (by decide) ?_
      refine r_goto (pc := 125) (L := [some (.ref b0), some (.int l1), some (.int l2), some (.int l3), some (.int l4), some (.int l5), some (.int (l6 + 1)), some (.int r_3)]) (tgt := 73) dX8_peak_125 (by decide) ?_
      exact r_le (L' := [some (.ref b0), some (.int l1), some (.int l2), some (.int l3), some (.int l4), some (.int l5), some (.int (l6 + 1)), none]) ⟨rfl, ⟨rfl, ⟨rfl, ⟨rfl, ⟨rfl, ⟨rfl, ⟨rfl, trivial⟩⟩⟩⟩⟩⟩⟩ K0
theorem eq_peak (a : Int32) : Both mX7_peak mX8_peak [.int a] := by
  intro x R
  obtain ⟨W, C, S, A, N, E, -, -⟩ := R.sea
  have hn := E.nums
  have ht := Rel.t2 E
  have hS : S ≤ 24 := hn.2.2.2.2.2.2.1
  have hW : W ≤ 30 := hn.2.2.2.2.1
  have hN : N ≤ W := hn.2.2.2.2.2.2.2.2
  have ws : ∀ s, s < S → Wse (gi x 718) C W s := E.2.2.2.2.2.2.2.2.2.2.2.2.2.2.2.1
  have rf : mSI mX8_peak [.ref 717, .int a] KW x (fun r' z => Pr (gi x 718) S W N a r' ∧ Rel z) := by
    refine v_X8_peak_0 km R.2.1.1 km1 ⟨v0 (k := 0) (by decide) rfl rfl, ?_⟩
    rw [ht.1, ht.2.2.2.2, nI_eq (by omega) (by omega)]
    refine ⟨fun z => ⟨⟨fun _ => rfl, fun w => absurd w.1 z, fun w => absurd w.1 z⟩, R⟩, fun z1 => ⟨fun z2 => ⟨v0 (k := 4) (by decide) rfl rfl, fun z3 => ?_, fun z3 => ⟨⟨fun w => absurd ⟨z1, z2⟩ w, fun _ _ => rfl, fun _ w => by omega⟩, R⟩⟩, fun z => ⟨⟨fun _ => rfl, fun w => absurd w.2 z, fun w => absurd w.2 z⟩, R⟩⟩⟩
    have hNW : N < W := by omega
    have done : ∀ m v, RI (gi x 718) S W N (ky W 0 0) m v → ((¬ a = 0 → Pr (gi x 718) S W N a v ∧ Rel x) ∧ (a = 0 → Pr (gi x 718) S W N a m ∧ Rel x)) := by
      intro m v c
      rcases c with ⟨c1, -, -⟩ | ⟨g, p, c1, c2, c3⟩
      · unfold ky at c1
        omega
      · have c4 : PKv (gi x 718) S W N 100000 g p := c3.cg (fun w d h z => by unfold inR at z; unfold ky; omega)
        exact ⟨fun w => ⟨⟨fun u => absurd ⟨z1, z2⟩ u, fun _ u => by omega, fun _ _ => ⟨g, p, c4, by rw [if_neg w]; exact c2⟩⟩, R⟩, fun w => ⟨⟨fun u => absurd ⟨z1, z2⟩ u, fun _ u => by omega, fun _ _ => ⟨g, p, c4, by rw [if_pos w]; exact c1⟩⟩, R⟩⟩
    have key : ∀ k w, w + k = W → N ≤ w → ∀ m v, RI (gi x 718) S W N (ky w 0 0) m v → GI mX8_peak 49 [some (.ref 717), some (.int a), some (.int m), some (.int v), some (.int (nI w)), none, none, none] [] KW x (fun r' z => Pr (gi x 718) S W N a r' ∧ Rel z) := by
      intro k
      induction k with
      | zero =>
        intro w h1 h2 m v c
        have : w = W := by omega
        subst this
        exact v_X8_peak_49 km R.2.1.1 km1 ⟨v0 (k := 0) (by decide) rfl rfl, fun _ => done m v c, fun z => absurd (by rw [ht.1]; exact Int32.le_refl _) z⟩
      | succ k ih =>
        intro w h1 h2 m v c
        refine v_X8_peak_49 km R.2.1.1 km1 ⟨v0 (k := 0) (by decide) rfl rfl, fun z => absurd (by rw [ht.1] at z; exact z) (nI_ge (by omega) (by omega)), fun _ => ?_⟩
        have key2 : ∀ k2 d, d + k2 = 7 → ∀ m v, RI (gi x 718) S W N (ky w d 0) m v → GI mX8_peak 63 [some (.ref 717), some (.int a), some (.int m), some (.int v), some (.int (nI w)), some (.int (nI d)), none, none] [] KW x (fun r' z => Pr (gi x 718) S W N a r' ∧ Rel z) := by
          intro k2
          induction k2 with
          | zero =>
            intro d hd m v c
            have : d = 7 := by omega
            subst this
            refine v_X8_peak_63 ⟨fun _ => ?_, fun z => absurd (Int32.le_refl _) z⟩
            rw [nI_1]
            exact ih (w + 1) (by omega) (by omega) m v (c.cg (by unfold ky; omega) (fun w1 d1 e1 z => by unfold inR at z; unfold ky; omega))
          | succ k2 ih2 =>
            intro d hd m v c
            refine v_X8_peak_63 ⟨fun z => absurd z (nI_ge (b := 7) (by omega) (by decide)), fun _ => ?_⟩
            have key3 : ∀ k3 h, h + k3 = 24 → ∀ m v, RI (gi x 718) S W N (ky w d h) m v → GI mX8_peak 73 [some (.ref 717), some (.int a), some (.int m), some (.int v), some (.int (nI w)), some (.int (nI d)), some (.int (nI h)), none] [] KW x (fun r' z => Pr (gi x 718) S W N a r' ∧ Rel z) := by
              intro k3
              induction k3 with
              | zero =>
                intro h hh m v c
                have : h = 24 := by omega
                subst this
                refine v_X8_peak_73 km ⟨fun _ => ?_, fun z => absurd (Int32.le_refl _) z⟩
                rw [nI_1]
                exact ih2 (d + 1) (by omega) m v (c.cg (by unfold ky; omega) (fun w1 d1 e1 z => by unfold inR at z; unfold ky; omega))
              | succ k3 ih3 =>
                intro h hh m v c
                refine v_X8_peak_73 km ⟨fun z => absurd z (nI_ge (b := 24) (by omega) (by decide)), fun _ => ?_⟩
                have hr : inR N W w d h := ⟨h2, by omega, by omega, by omega⟩
                have u := c.up hS hr
                refine sp_X8_loadBut R.2.1 km1 ht.2.2.1 hS (by omega) ?_
                rw [ldB_nW0 wo_0 S hS, nI_1, i_ky]
                exact ⟨fun z => ih3 (h + 1) (by omega) _ _ (u.1 z), fun z => ih3 (h + 1) (by omega) _ _ (u.2 z)⟩
            exact key3 24 0 (by omega) m v c
        exact key2 7 0 (by omega) m v c
    exact key (W - N) N (by omega) (Nat.le_refl _) _ _ (Or.inl ⟨rfl, rfl, rfl⟩)
  have out : ∀ r, Pr (gi x 718) S W N a r → mSI mX8_peak [.ref 717, .int a] KW x (fun r' z => r = r' ∧ Rel z) := fun r hr => mSI_mono rf (fun r' z w => ⟨hr.uq w.1, w.2⟩)
  refine v_X7_peak_0 k0 R.1.2.1 (ks0 E.1) ?_
  rw [hn.1, hn.2.1, nI_leI (by omega) (by omega)]
  refine ⟨fun z => out _ ⟨fun _ => rfl, fun w => absurd w.1 z, fun w => absurd w.1 z⟩, fun z1 => ⟨fun z2 => ⟨fun z3 => ?_, fun z3 => out _ ⟨fun w => absurd ⟨z1, z2⟩ w, fun _ _ => rfl, fun _ w => by omega⟩⟩, fun z => out _ ⟨fun _ => rfl, fun w => absurd w.2 z, fun w => absurd w.2 z⟩⟩⟩
  have hNW : N < W := by omega
  have key : ∀ k w, w + k = W → N ≤ w → ∀ g p, CI (gi x 718) S W N w 0 g p → GI mX7_peak 54 [some (.ref 0), some (.int a), some (.int (nI g)), some (.int (nI p)), some (.int (nI w)), none, none, none, none] [] KW x (fun r y => mSI mX8_peak [.ref 717, .int a] KW y (fun r' z => r = r' ∧ Rel z)) := by
    intro k
    induction k with
    | zero =>
      intro w h1 h2 g p c
      have : w = W := by omega
      subst this
      have c4 := c.fin hW hNW ws
      exact v_X7_peak_54 k0 R.1.2.1 (ks0 E.1) ⟨fun _ => ⟨fun z => out _ ⟨fun u => absurd ⟨z1, z2⟩ u, fun _ u => by omega, fun _ _ => ⟨g, p, c4, by rw [if_neg z]⟩⟩, fun z => out _ ⟨fun u => absurd ⟨z1, z2⟩ u, fun _ u => by omega, fun _ _ => ⟨g, p, c4, by rw [if_pos z]⟩⟩⟩, fun z => absurd (by rw [hn.1]; exact Int32.le_refl _) z⟩
    | succ k ih =>
      intro w h1 h2 g p c
      refine v_X7_peak_54 k0 R.1.2.1 (ks0 E.1) ⟨fun z => absurd (by rw [hn.1] at z; exact z) (nI_ge (by omega) (by omega)), fun _ => ?_⟩
      have key2 : ∀ k2 s, s + k2 = S → ∀ g p, CI (gi x 718) S W N w s g p → GI mX7_peak 69 [some (.ref 0), some (.int a), some (.int (nI g)), some (.int (nI p)), some (.int (nI w)), some (.int (nI s)), none, none, none] [] KW x (fun r y => mSI mX8_peak [.ref 717, .int a] KW y (fun r' z => r = r' ∧ Rel z)) := by
        intro k2
        induction k2 with
        | zero =>
          intro s hs g p c
          have : s = S := by omega
          subst this
          refine v_X7_peak_69 k0 R.1.2.1 (ks0 E.1) E.2.1.2.2.1 (ks3 E.1) ⟨fun _ => ?_, fun z => absurd (by rw [hn.2.2.1]; exact Int32.le_refl _) z⟩
          rw [nI_1]
          exact ih (w + 1) (by omega) (by omega) g p c.nx
        | succ k2 ih2 =>
          intro s hs g p c
          obtain ⟨q, e1, e2, e3, e4, -, e6⟩ := E.ser (s := s) (by omega)
          obtain ⟨k1, k2', k3, k4⟩ := e6.dh
          refine v_X7_peak_69 k0 R.1.2.1 (ks0 E.1) E.2.1.2.2.1 (ks3 E.1) ⟨fun z => absurd (by rw [hn.2.2.1] at z; exact z) (nI_ge (by omega) (by omega)), fun _ => ⟨vp_in_nI (by omega) (by decide), q, by rw [nI_clamp (by omega)]; exact e1, e2, ?_⟩⟩
          rw [e4, f_bit_tb _ (by omega), nI_1, e3.1 1 (by decide) (by decide), e3.1 2 (by decide) (by decide), k2', k4]
          refine ⟨fun z => ih2 (s + 1) (by omega) g p (c.no z), fun z => sp_X4_loadOf E (by omega) ?_⟩
          rw [ldB_nW0 wo_0 S hS, e3.1 1 (by decide) (by decide), e3.1 2 (by decide) (by decide), k2', k4, i_ky]
          have hl := Lw_le (T := gi x 718) (w := w) (d := sdy (gi x 718) s) (h := shr (gi x 718) s) hS
          have hg : g < 2 ^ 31 ∧ p < 2 ^ 31 := by
            rcases c.1 with ⟨u1, u2⟩ | ⟨-, w1, d1, h1, u1, u2, u3⟩
            · omega
            · have := Lw_le (T := gi x 718) (w := w1) (d := d1) (h := h1) hS
              unfold inR at u1
              unfold ky at u3
              omega
          show (nI g < nI (Lw (gi x 718) S w (sdy (gi x 718) s) (shr (gi x 718) s)) → _) ∧ (¬ nI g < nI (Lw (gi x 718) S w (sdy (gi x 718) s) (shr (gi x 718) s)) → (¬ nI (Lw (gi x 718) S w (sdy (gi x 718) s) (shr (gi x 718) s)) = nI g → _) ∧ (nI (Lw (gi x 718) S w (sdy (gi x 718) s) (shr (gi x 718) s)) = nI g → _ ∧ _))
          have hk : ky w (sdy (gi x 718) s) (shr (gi x 718) s) < 2 ^ 31 := by unfold ky; omega
          rw [nI_ltI hg.1 (by omega), nI_eq (by omega) hg.1, nI_leI hg.2 hk]
          have up := fun g' p' => CI.up (g' := g') (p' := p') c e6 h2 (by omega) (by omega) z
          refine ⟨fun w1 => ih2 (s + 1) (by omega) _ _ (up _ _ (Or.inl ⟨w1, rfl, rfl⟩)), fun w1 => ⟨fun w2 => ih2 (s + 1) (by omega) _ _ (up _ _ (Or.inr (Or.inr ⟨Or.inl (by omega), rfl, rfl⟩))), fun w2 => ⟨fun w3 => ih2 (s + 1) (by omega) _ _ (up _ _ (Or.inr (Or.inr ⟨Or.inr ⟨w2, w3⟩, rfl, rfl⟩))), fun w3 => ?_⟩⟩⟩
          unfold Lw at w2
          rw [w2]
          exact ih2 (s + 1) (by omega) _ _ (up _ _ (Or.inr (Or.inl ⟨w2, by unfold ky at w3 ⊢; omega, rfl, rfl⟩)))
      exact key2 S 0 (by omega) g p c
  have := key (W - N) N (by omega) (Nat.le_refl _) 0 (1000 * N) ⟨Or.inl ⟨rfl, rfl⟩, fun w s i1 i2 i3 i4 i5 => by omega⟩
  rw [show (1000 : Int32) = nI 1000 by decide, pk_mul]
  exact this
end

abbrev pcr (T : TT) (wi : Int32) (s t : Nat) : Prop := so T t 0 = so T s 0 ∧ so T t 1 = so T s 1 ∧ so T t 3 = 1 ∧ (0 ≤ so T t 2 - so T s 2 ∧ so T t 2 - so T s 2 ≤ wi) ∧ ¬ (bas T t &&& bas T s) = 0
abbrev ppo (T : TT) (a b : Int32) (s : Nat) : Prop := so T s 0 = a ∧ so T s 1 = b ∧ so T s 3 = 0
theorem inc_off {c : Nat → Prop} [∀ s, Decidable (c s)] (a : Int32) : ∀ n, accT (inc c) n a = a + accT (inc c) n 0 := by
  intro n
  induction n with
  | zero => exact (Int32.add_zero a).symm
  | succ n ih =>
    simp only [accT]
    rw [ih]
    unfold inc
    by_cases h : c n
    · rw [if_pos h, if_pos h, Int32.add_assoc]
    · rw [if_neg h, if_neg h]
theorem inc_no {c : Nat → Prop} [∀ s, Decidable (c s)] (a : Int32) (h : ∀ s, ¬ c s) : ∀ n, accT (inc c) n a = a := by
  intro n
  induction n with
  | zero => rfl
  | succ n ih =>
    simp only [accT]
    rw [ih]
    exact if_neg (h n)
theorem inc_cg {c d : Nat → Prop} [∀ s, Decidable (c s)] [∀ s, Decidable (d s)] (a : Int32) (h : ∀ s, c s ↔ d s) (n : Nat) : accT (inc c) n a = accT (inc d) n a := accT_congr n (fun i b _ => by
  unfold inc
  by_cases z : c i
  · rw [if_pos z, if_pos ((h i).mp z)]
  · rw [if_neg z, if_neg (fun w => z ((h i).mpr w))])
def stP (T : TT) (S : Nat) (a b wi : Int32) : Nat → Int32 → Int32 := addS (ppo T a b) (fun s => accT (inc (pcr T wi s)) S 0)
set_option maxHeartbeats 2000000 in
theorem v_X7_departuresBehind_0 {K : Sh} {x : Cn} {Q : Int32 → Cn → Prop} {b0 : Nat} {b1 : Nat} {l2 : Int32}   (K0 : GI mX7_departuresBehind 5 [some (.ref b0), some (.ref b1), some (.int l2), some (.int 0), some (.int 0), none] [] K x Q) : mSI mX7_departuresBehind [.ref b0, .ref b1, .int l2] K x Q := by
  refine s_I (by decide) (by simp [Value.category]) (Nat.le_of_ble_eq_true rfl) ?_
  show mGM mX7_departuresBehind 0 [some (.ref b0), some (.ref b1), some (.int l2), none, none, none] [] (hp K x) (PI K Q)
  refine r_iconst (pc := 0) (v := 0) dX7_departuresBehind_0 (by decide) ?_
  refine r_istore_n (pc := 1) dX7_departuresBehind_1 (by decide) ?_
  refine r_iconst (pc := 2) (L := [some (.ref b0), some (.ref b1), some (.int l2), some (.int 0), none, none]) (v := 0) dX7_departuresBehind_2 (by decide) ?_
  refine r_istore (pc := 3) dX7_departuresBehind_3 (by decide) ?_
  exact r_le (L' := [some (.ref b0), some (.ref b1), some (.int l2), some (.int 0), some (.int 0), none]) ⟨rfl, ⟨rfl, ⟨rfl, ⟨rfl, ⟨rfl, trivial⟩⟩⟩⟩⟩ K0
set_option maxHeartbeats 2000000 in
theorem v_X7_departuresBehind_5 {K : Sh} {x : Cn} {Q : Int32 → Cn → Prop} {b0 : Nat} {b1 : Nat} {l2 : Int32} {l3 : Int32} {l4 : Int32} {b0_2 : Nat} {b0_2_7 : Nat} {n_b0_2_7 : Nat} (k_b0 : kk K b0 = some (7, 0)) (g_b0_2 : gr x b0 2 = some b0_2) (k_b0_2 : kk K b0_2 = some (4, 0)) (g_b0_2_7 : gr x b0_2 7 = some b0_2_7) (k_b0_2_7 : kk K b0_2_7 = some (23, n_b0_2_7)) (k_b1 : kk K b1 = some (5, 0)) (K0 : ((gi x b0_2 3) ≤ l4 → (Q l3 x)) ∧ (¬ (gi x b0_2 3) ≤ l4 → (vp_in l4 n_b0_2_7 ∧ (∃ c_3 : Nat, gr x b0_2_7 ((l4 : Int32).toNatClampNeg) = some c_3 ∧ (kk K c_3 = some (5, 0) ∧ ((¬ (gi x c_3 0 = (gi x b1 0) ∧ ((gi x b1 1) = -1 ∨ gi x c_3 1 = (gi x b1 1))) → (GI mX7_departuresBehind 5 [some (.ref b0), some (.ref b1), some (.int l2), some (.int l3), some (.int (l4 + 1)), none] [] K x Q)) ∧ ((gi x c_3 0 = (gi x b1 0) ∧ ((gi x b1 1) = -1 ∨ gi x c_3 1 = (gi x b1 1))) → ((¬ (gi x c_3 3) = 1 → (GI mX7_departuresBehind 5 [some (.ref b0), some (.ref b1), some (.int l2), some (.int l3), some (.int (l4 + 1)), none] [] K x Q)) ∧ ((gi x c_3 3) = 1 → ((¬ (0 ≤ ((gi x c_3 2) - (gi x b1 2)) ∧ ((gi x c_3 2) - (gi x b1 2)) ≤ l2) → (GI mX7_departuresBehind 5 [some (.ref b0), some (.ref b1), some (.int l2), some (.int l3), some (.int (l4 + 1)), none] [] K x Q)) ∧ ((0 ≤ ((gi x c_3 2) - (gi x b1 2)) ∧ ((gi x c_3 2) - (gi x b1 2)) ≤ l2) → ((((f_held x c_3) &&& (f_held x b1)) = 0 → (GI mX7_departuresBehind 5 [some (.ref b0), some (.ref b1), some (.int l2), some (.int l3), some (.int (l4 + 1)), none] [] K x Q)) ∧ (¬ ((f_held x c_3) &&& (f_held x b1)) = 0 → (GI mX7_departuresBehind 5 [some (.ref b0), some (.ref b1), some (.int l2), some (.int (l3 + 1)), some (.int (l4 + 1)), none] [] K x Q)))))))))))))) : GI mX7_departuresBehind 5 [some (.ref b0), some (.ref b1), some (.int l2), some (.int l3), some (.int l4), none] [] K x Q := by
  show mGM mX7_departuresBehind 5 [some (.ref b0), some (.ref b1), some (.int l2), some (.int l3), some (.int l4), none] [] (hp K x) (PI K Q)
  refine r_iload (pc := 5) dX7_departuresBehind_5 rfl ?_
  refine r_aload_n (pc := 7) dX7_departuresBehind_7 rfl ?_
  refine s_getR (pc := 8) dX7_departuresBehind_8 fl_X7_20 rfl k_b0 g_b0_2 ?_
  refine s_getI (pc := 11) dX7_departuresBehind_11 fl_X7_97 rfl k_b0_2 ?_
  refine r_icmp_ge (pc := 14) (tgt := 94) dX7_departuresBehind_14 (by decide) (fun q => ?_) (fun q => ?_)
  · have K0 := K0.1 q
    refine r_iload_n (pc := 94) dX7_departuresBehind_94 rfl ?_
    exact s_iret rfl dX7_departuresBehind_95 K0
  · have K0 := K0.2 q
    refine r_aload_n (pc := 17) dX7_departuresBehind_17 rfl ?_
    refine s_getR (pc := 18) dX7_departuresBehind_18 fl_X7_20 rfl k_b0 g_b0_2 ?_
    refine s_getR (pc := 21) dX7_departuresBehind_21 fl_X7_135 rfl k_b0_2 g_b0_2_7 ?_
    refine r_iload (pc := 24) dX7_departuresBehind_24 rfl ?_
    obtain ⟨i_2, K0⟩ := K0
    obtain ⟨c_3, g_4, K0⟩ := K0
    refine s_aald (pc := 26) dX7_departuresBehind_26 (by decide) rfl k_b0_2_7 i_2 g_4 ?_
    refine r_astore (pc := 27) dX7_departuresBehind_27 (by decide) ?_
    refine r_aload (pc := 29) (L := [some (.ref b0), some (.ref b1), some (.int l2), some (.int l3), some (.int l4), some (.ref c_3)]) dX7_departuresBehind_29 rfl ?_
    refine r_aload_n (pc := 31) dX7_departuresBehind_31 rfl ?_
    refine s_getI (pc := 32) dX7_departuresBehind_32 fl_X7_139 rfl k_b1 ?_
    refine r_aload_n (pc := 35) dX7_departuresBehind_35 rfl ?_
    refine s_getI (pc := 36) dX7_departuresBehind_36 fl_X7_144 rfl k_b1 ?_
    obtain ⟨e_5, K0⟩ := K0
    refine s_VI (pc := 39) mX5_isOf (ci := 5) (a := c_3) (As := [.int (gi x b1 0), .int (gi x b1 1)]) dX7_departuresBehind_39 lk_X7_248 in_X5_isOf mo_X5_isOf ⟨by decide, rfl⟩ ⟨by decide, by decide⟩ (Nat.le_of_ble_eq_true rfl) e_5 (sp_X5_isOf e_5 ?_)
    refine r_if_eq (pc := 42) (tgt := 88) dX7_departuresBehind_42 (by decide) (fun q => ?_) (fun q => ?_)
    · have q := (b2i_z _).mp q
      have K0 := K0.1 q
      refine r_iinc (pc := 88) (v := l4 + 1) dX7_departuresBehind_88 rfl rfl (by decide) ?_
      refine r_goto (pc := 91) (L := [some (.ref b0), some (.ref b1), some (.int l2), some (.int l3), some (.int (l4 + 1)), some (.ref c_3)]) (tgt := 5) dX7_departuresBehind_91 (by decide) ?_
      exact r_le (L' := [some (.ref b0), some (.ref b1), some (.int l2), some (.int l3), some (.int (l4 + 1)), none]) ⟨rfl, ⟨rfl, ⟨rfl, ⟨rfl, ⟨rfl, trivial⟩⟩⟩⟩⟩ K0
    · have q := b2i_nz q
      have K0 := K0.2 q
      refine r_aload (pc := 45) dX7_departuresBehind_45 rfl ?_
      refine s_getI (pc := 47) dX7_departuresBehind_47 fl_X7_150 rfl e_5 ?_
      refine r_iconst (pc := 50) (v := 1) dX7_departuresBehind_50 (by decide) ?_
      refine r_icmp_ne (pc := 51) (tgt := 88) dX7_departuresBehind_51 (by decide) (fun q => ?_) (fun q => ?_)
      · have K0 := K0.1 q
        refine r_iinc (pc := 88) (v := l4 + 1) dX7_departuresBehind_88 rfl rfl (by decide) ?_
        refine r_goto (pc := 91) (L := [some (.ref b0), some (.ref b1), some (.int l2), some (.int l3), some (.int (l4 + 1)), some (.ref c_3)]) (tgt := 5) dX7_departuresBehind_91 (by decide) ?_
        exact r_le (L' := [some (.ref b0), some (.ref b1), some (.int l2), some (.int l3), some (.int (l4 + 1)), none]) ⟨rfl, ⟨rfl, ⟨rfl, ⟨rfl, ⟨rfl, trivial⟩⟩⟩⟩⟩ K0
      · have K0 := K0.2 q
        refine r_aload (pc := 54) dX7_departuresBehind_54 rfl ?_
        refine s_getI (pc := 56) dX7_departuresBehind_56 fl_X7_147 rfl e_5 ?_
        refine r_aload_n (pc := 59) dX7_departuresBehind_59 rfl ?_
        refine s_getI (pc := 60) dX7_departuresBehind_60 fl_X7_147 rfl k_b1 ?_
        refine r_isub (pc := 63) dX7_departuresBehind_63 ?_
        refine r_iconst (pc := 64) (v := 0) dX7_departuresBehind_64 (by decide) ?_
        refine r_iload_n (pc := 65) dX7_departuresBehind_65 rfl ?_
        refine s_SI (pc := 66) mX7_isWithin (As := [.int ((gi x c_3 2) - (gi x b1 2)), .int 0, .int l2]) dX7_departuresBehind_66 lk_X7_113 st_X7_isWithin mo_X7_isWithin ⟨by decide, by decide⟩ (Nat.le_of_ble_eq_true rfl) (sp_X7_isWithin  ?_)
        refine r_if_eq (pc := 69) (tgt := 88) dX7_departuresBehind_69 (by decide) (fun q => ?_) (fun q => ?_)
        · have q := (b2i_z _).mp q
          have K0 := K0.1 q
          refine r_iinc (pc := 88) (v := l4 + 1) dX7_departuresBehind_88 rfl rfl (by decide) ?_
          refine r_goto (pc := 91) (L := [some (.ref b0), some (.ref b1), some (.int l2), some (.int l3), some (.int (l4 + 1)), some (.ref c_3)]) (tgt := 5) dX7_departuresBehind_91 (by decide) ?_
          exact r_le (L' := [some (.ref b0), some (.ref b1), some (.int l2), some (.int l3), some (.int (l4 + 1)), none]) ⟨rfl, ⟨rfl, ⟨rfl, ⟨rfl, ⟨rfl, trivial⟩⟩⟩⟩⟩ K0
        · have q := b2i_nz q
          have K0 := K0.2 q
          refine r_aload (pc := 72) dX7_departuresBehind_72 rfl ?_
          refine s_VI (pc := 74) mX5_heldBits (ci := 5) (a := c_3) (As := []) dX7_departuresBehind_74 lk_X7_272 in_X5_heldBits mo_X5_heldBits ⟨by decide, rfl⟩ ⟨by decide, by decide⟩ (Nat.le_of_ble_eq_true rfl) e_5 (sp_X5_heldBits e_5 ?_)
          refine r_aload_n (pc := 77) dX7_departuresBehind_77 rfl ?_
          refine s_VI (pc := 78) mX5_heldBits (ci := 5) (a := b1) (As := []) dX7_departuresBehind_78 lk_X7_272 in_X5_heldBits mo_X5_heldBits ⟨by decide, rfl⟩ ⟨by decide, by decide⟩ (Nat.le_of_ble_eq_true rfl) k_b1 (sp_X5_heldBits k_b1 ?_)
          refine r_iand (pc := 81) dX7_departuresBehind_81 ?_
          refine r_if_eq (pc := 82) (tgt := 88) dX7_departuresBehind_82 (by decide) (fun q => ?_) (fun q => ?_)
          · have K0 := K0.1 q
            refine r_iinc (pc := 88) (v := l4 + 1) dX7_departuresBehind_88 rfl rfl (by decide) ?_
            refine r_goto (pc := 91) (L := [some (.ref b0), some (.ref b1), some (.int l2), some (.int l3), some (.int (l4 + 1)), some (.ref c_3)]) (tgt := 5) dX7_departuresBehind_91 (by decide) ?_
            exact r_le (L' := [some (.ref b0), some (.ref b1), some (.int l2), some (.int l3), some (.int (l4 + 1)), none]) ⟨rfl, ⟨rfl, ⟨rfl, ⟨rfl, ⟨rfl, trivial⟩⟩⟩⟩⟩ K0
          · have K0 := K0.2 q
            refine r_iinc (pc := 85) (v := l3 + 1) dX7_departuresBehind_85 rfl rfl (by decide) ?_
            refine r_iinc (pc := 88) (L := [some (.ref b0), some (.ref b1), some (.int l2), some (.int (l3 + 1)), some (.int l4), some (.ref c_3)]) (v := l4 + 1) dX7_departuresBehind_88 rfl rfl (by decide) ?_
            refine r_goto (pc := 91) (L := [some (.ref b0), some (.ref b1), some (.int l2), some (.int (l3 + 1)), some (.int (l4 + 1)), some (.ref c_3)]) (tgt := 5) dX7_departuresBehind_91 (by decide) ?_
            exact r_le (L' := [some (.ref b0), some (.ref b1), some (.int l2), some (.int (l3 + 1)), some (.int (l4 + 1)), none]) ⟨rfl, ⟨rfl, ⟨rfl, ⟨rfl, ⟨rfl, trivial⟩⟩⟩⟩⟩ K0
section
theorem sp_X7_departuresBehind {x : Cn} {Q : Int32 → Cn → Prop} {T : TT} {W C S A N s p : Nat} {wi : Int32} (c1 : CRf x) (E : SEA x 2 T W C S A N) (hs : s < S) (hp : kk KW p = some (5, 0)) (hq : SER x p T s) (k : Q (accT (inc (pcr T wi s)) S 0) x) : mSI mX7_departuresBehind [.ref 0, .ref p, .int wi] KW x Q := by
  have hn := E.nums
  have hS : S ≤ 24 := hn.2.2.2.2.2.2.1
  obtain ⟨p', -, -, -, -, -, e9⟩ := E.ser hs
  have hh := hq.held e9
  have hd : ¬ so T s 1 = -1 := by
    obtain ⟨-, ⟨d, hd, ed⟩, -⟩ := e9
    rw [ed]
    intro z
    have := nI_pos (n := d) (by omega)
    rw [z] at this
    exact this (by decide)
  refine v_X7_departuresBehind_0 (lp_acc (inc (pcr T wi s)) (fun t c => GI mX7_departuresBehind 5 [some (.ref 0), some (.ref p), some (.int wi), some (.int c), some (.int (nI t)), none] [] KW x Q) S 0 ?_ (fun t c ht n1 => ?_))
  · exact v_X7_departuresBehind_5 k0 c1.2.1 (ks0 E.1) E.2.1.2.2.1 (ks3 E.1) hp ⟨fun _ => k, fun z => absurd (by rw [hn.2.2.1]; exact Int32.le_refl _) z⟩
  · obtain ⟨p2, e1, e2, e3, e4, -, e6⟩ := E.ser ht
    refine v_X7_departuresBehind_5 k0 c1.2.1 (ks0 E.1) E.2.1.2.2.1 (ks3 E.1) hp ⟨fun z => absurd (by rw [hn.2.2.1] at z; exact z) (nI_ge ht (by omega)), fun _ => ⟨vp_in_nI (by omega) (by decide), p2, by rw [nI_clamp (by omega)]; exact e1, e2, ?_⟩⟩
    rw [e3.1 0 (by decide) (by decide), e3.1 1 (by decide) (by decide), e3.1 2 (by decide) (by decide), e3.1 3 (by decide) (by decide), hq.1 0 (by decide) (by decide), hq.1 1 (by decide) (by decide), hq.1 2 (by decide) (by decide), e4, hh, nI_1]
    exact ⟨fun z => n1 _ (if_neg (fun w => z ⟨w.1, Or.inr w.2.1⟩)), fun z1 => ⟨fun z => n1 _ (if_neg (fun w => z w.2.2.1)), fun z2 => ⟨fun z => n1 _ (if_neg (fun w => z w.2.2.2.1)), fun z3 => ⟨fun z => n1 _ (if_neg (fun w => w.2.2.2.2 z)), fun z4 => n1 _ (if_pos ⟨z1.1, z1.2.resolve_left hd, z2, z3, z4⟩)⟩⟩⟩⟩
end
set_option maxHeartbeats 2000000 in
theorem v_X7_pairs_0 {K : Sh} {x : Cn} {Q : Int32 → Cn → Prop} {b0 : Nat} {l1 : Int32} {l2 : Int32} {l3 : Int32} {b0_3 : Nat} {b0_2 : Nat} (k_b0 : kk K b0 = some (7, 0)) (g_b0_3 : gr x b0 3 = some b0_3) (k_b0_3 : kk K b0_3 = some (1, 0)) (g_b0_2 : gr x b0 2 = some b0_2) (k_b0_2 : kk K b0_2 = some (4, 0)) (K0 : (¬ (0 ≤ l1 ∧ l1 < gi x b0_3 0) → (Q (-2) x)) ∧ ((0 ≤ l1 ∧ l1 < gi x b0_3 0) → ((¬ (0 < gi x b0_2 0 ∧ 0 ≤ l2 ∧ l2 < 7) → (Q (-2) x)) ∧ ((0 < gi x b0_2 0 ∧ 0 ≤ l2 ∧ l2 < 7) → (((0 ≤ l3 ∧ l3 ≤ 23) → (GI mX7_pairs 35 [some (.ref b0), some (.int l1), some (.int l2), some (.int l3), some (.int 0), some (.int 0), none] [] K x Q)) ∧ (¬ (0 ≤ l3 ∧ l3 ≤ 23) → (Q (-2) x))))))) : mSI mX7_pairs [.ref b0, .int l1, .int l2, .int l3] K x Q := by
  refine s_I (by decide) (by simp [Value.category]) (Nat.le_of_ble_eq_true rfl) ?_
  show mGM mX7_pairs 0 [some (.ref b0), some (.int l1), some (.int l2), some (.int l3), none, none, none] [] (hp K x) (PI K Q)
  refine r_aload_n (pc := 0) dX7_pairs_0 rfl ?_
  refine r_iload_n (pc := 1) dX7_pairs_1 rfl ?_
  refine s_VI (pc := 2) mX7_isCarrier (ci := 7) (a := b0) (As := [.int l1]) dX7_pairs_2 lk_X7_109 in_X7_isCarrier mo_X7_isCarrier ⟨by decide, rfl⟩ ⟨by decide, by decide⟩ (Nat.le_of_ble_eq_true rfl) k_b0 (sp_X7_isCarrier k_b0 g_b0_3 k_b0_3 ?_)
  refine r_if_eq (pc := 5) (tgt := 26) dX7_pairs_5 (by decide) (fun q => ?_) (fun q => ?_)
  · have q := (b2i_z _).mp q
    have K0 := K0.1 q
    refine r_bipush (pc := 26) (v := (-2)) dX7_pairs_26 (by decide) ?_
    exact s_iret rfl dX7_pairs_28 K0
  · have q := b2i_nz q
    have K0 := K0.2 q
    refine r_aload_n (pc := 8) dX7_pairs_8 rfl ?_
    refine r_iload_n (pc := 9) dX7_pairs_9 rfl ?_
    refine s_VI (pc := 10) mX7_isDay (ci := 7) (a := b0) (As := [.int l2]) dX7_pairs_10 lk_X7_245 in_X7_isDay mo_X7_isDay ⟨by decide, rfl⟩ ⟨by decide, by decide⟩ (Nat.le_of_ble_eq_true rfl) k_b0 (sp_X7_isDay k_b0 g_b0_2 k_b0_2 ?_)
    refine r_if_eq (pc := 13) (tgt := 26) dX7_pairs_13 (by decide) (fun q => ?_) (fun q => ?_)
    · have q := (b2i_z _).mp q
      have K0 := K0.1 q
      refine r_bipush (pc := 26) (v := (-2)) dX7_pairs_26 (by decide) ?_
      exact s_iret rfl dX7_pairs_28 K0
    · have q := b2i_nz q
      have K0 := K0.2 q
      refine r_iload_n (pc := 16) dX7_pairs_16 rfl ?_
      refine r_iconst (pc := 17) (v := 0) dX7_pairs_17 (by decide) ?_
      refine r_bipush (pc := 18) (v := 23) dX7_pairs_18 (by decide) ?_
      refine s_SI (pc := 20) mX7_isWithin (As := [.int l3, .int 0, .int 23]) dX7_pairs_20 lk_X7_113 st_X7_isWithin mo_X7_isWithin ⟨by decide, by decide⟩ (Nat.le_of_ble_eq_true rfl) (sp_X7_isWithin  ?_)
      refine r_if_ne (pc := 23) (tgt := 29) dX7_pairs_23 (by decide) (fun q => ?_) (fun q => ?_)
      · have q := b2i_nz q
        have K0 := K0.1 q
        refine r_iconst (pc := 29) (v := 0) dX7_pairs_29 (by decide) ?_
        refine r_istore (pc := 30) dX7_pairs_30 (by decide) ?_
        refine r_iconst (pc := 32) (L := [some (.ref b0), some (.int l1), some (.int l2), some (.int l3), some (.int 0), none, none]) (v := 0) dX7_pairs_32 (by decide) ?_
        refine r_istore (pc := 33) dX7_pairs_33 (by decide) ?_
        exact r_le (L' := [some (.ref b0), some (.int l1), some (.int l2), some (.int l3), some (.int 0), some (.int 0), none]) ⟨rfl, ⟨rfl, ⟨rfl, ⟨rfl, ⟨rfl, ⟨rfl, trivial⟩⟩⟩⟩⟩⟩ K0
      · have q := (b2i_z _).mp q
        have K0 := K0.2 q
        refine r_bipush (pc := 26) (v := (-2)) dX7_pairs_26 (by decide) ?_
        exact s_iret rfl dX7_pairs_28 K0
set_option maxHeartbeats 2000000 in
theorem v_X7_pairs_35 {K : Sh} {x : Cn} {Q : Int32 → Cn → Prop} {b0 : Nat} {l1 : Int32} {l2 : Int32} {l3 : Int32} {l4 : Int32} {l5 : Int32} {b0_2 : Nat} {b0_2_7 : Nat} {n_b0_2_7 : Nat} (k_b0 : kk K b0 = some (7, 0)) (g_b0_2 : gr x b0 2 = some b0_2) (k_b0_2 : kk K b0_2 = some (4, 0)) (g_b0_2_7 : gr x b0_2 7 = some b0_2_7) (k_b0_2_7 : kk K b0_2_7 = some (23, n_b0_2_7)) (K0 : ((gi x b0_2 3) ≤ l5 → (Q l4 x)) ∧ (¬ (gi x b0_2 3) ≤ l5 → (vp_in l5 n_b0_2_7 ∧ (∃ c_3 : Nat, gr x b0_2_7 ((l5 : Int32).toNatClampNeg) = some c_3 ∧ (kk K c_3 = some (5, 0) ∧ ((¬ (gi x c_3 0 = l1 ∧ (l2 = -1 ∨ gi x c_3 1 = l2)) → (GI mX7_pairs 35 [some (.ref b0), some (.int l1), some (.int l2), some (.int l3), some (.int l4), some (.int (l5 + 1)), none] [] K x Q)) ∧ ((gi x c_3 0 = l1 ∧ (l2 = -1 ∨ gi x c_3 1 = l2)) → ((¬ (gi x c_3 3) = 0 → (GI mX7_pairs 35 [some (.ref b0), some (.int l1), some (.int l2), some (.int l3), some (.int l4), some (.int (l5 + 1)), none] [] K x Q)) ∧ ((gi x c_3 3) = 0 → (mSI mX7_departuresBehind [.ref b0, .ref c_3, .int l3] K x (fun r_9 y_8 => GI mX7_pairs 35 [some (.ref b0), some (.int l1), some (.int l2), some (.int l3), some (.int (l4 + r_9)), some (.int (l5 + 1)), none] [] K y_8 Q))))))))))) : GI mX7_pairs 35 [some (.ref b0), some (.int l1), some (.int l2), some (.int l3), some (.int l4), some (.int l5), none] [] K x Q := by
  show mGM mX7_pairs 35 [some (.ref b0), some (.int l1), some (.int l2), some (.int l3), some (.int l4), some (.int l5), none] [] (hp K x) (PI K Q)
  refine r_iload (pc := 35) dX7_pairs_35 rfl ?_
  refine r_aload_n (pc := 37) dX7_pairs_37 rfl ?_
  refine s_getR (pc := 38) dX7_pairs_38 fl_X7_20 rfl k_b0 g_b0_2 ?_
  refine s_getI (pc := 41) dX7_pairs_41 fl_X7_97 rfl k_b0_2 ?_
  refine r_icmp_ge (pc := 44) (tgt := 95) dX7_pairs_44 (by decide) (fun q => ?_) (fun q => ?_)
  · have K0 := K0.1 q
    refine r_iload (pc := 95) dX7_pairs_95 rfl ?_
    exact s_iret rfl dX7_pairs_97 K0
  · have K0 := K0.2 q
    refine r_aload_n (pc := 47) dX7_pairs_47 rfl ?_
    refine s_getR (pc := 48) dX7_pairs_48 fl_X7_20 rfl k_b0 g_b0_2 ?_
    refine s_getR (pc := 51) dX7_pairs_51 fl_X7_135 rfl k_b0_2 g_b0_2_7 ?_
    refine r_iload (pc := 54) dX7_pairs_54 rfl ?_
    obtain ⟨i_2, K0⟩ := K0
    obtain ⟨c_3, g_4, K0⟩ := K0
    refine s_aald (pc := 56) dX7_pairs_56 (by decide) rfl k_b0_2_7 i_2 g_4 ?_
    refine r_astore (pc := 57) dX7_pairs_57 (by decide) ?_
    refine r_aload (pc := 59) (L := [some (.ref b0), some (.int l1), some (.int l2), some (.int l3), some (.int l4), some (.int l5), some (.ref c_3)]) dX7_pairs_59 rfl ?_
    refine r_iload_n (pc := 61) dX7_pairs_61 rfl ?_
    refine r_iload_n (pc := 62) dX7_pairs_62 rfl ?_
    obtain ⟨e_5, K0⟩ := K0
    refine s_VI (pc := 63) mX5_isOf (ci := 5) (a := c_3) (As := [.int l1, .int l2]) dX7_pairs_63 lk_X7_248 in_X5_isOf mo_X5_isOf ⟨by decide, rfl⟩ ⟨by decide, by decide⟩ (Nat.le_of_ble_eq_true rfl) e_5 (sp_X5_isOf e_5 ?_)
    refine r_if_eq (pc := 66) (tgt := 89) dX7_pairs_66 (by decide) (fun q => ?_) (fun q => ?_)
    · have q := (b2i_z _).mp q
      have K0 := K0.1 q
      refine r_iinc (pc := 89) (v := l5 + 1) dX7_pairs_89 rfl rfl (by decide) ?_
      refine r_goto (pc := 92) (L := [some (.ref b0), some (.int l1), some (.int l2), some (.int l3), some (.int l4), some (.int (l5 + 1)), some (.ref c_3)]) (tgt := 35) dX7_pairs_92 (by decide) ?_
      exact r_le (L' := [some (.ref b0), some (.int l1), some (.int l2), some (.int l3), some (.int l4), some (.int (l5 + 1)), none]) ⟨rfl, ⟨rfl, ⟨rfl, ⟨rfl, ⟨rfl, ⟨rfl, trivial⟩⟩⟩⟩⟩⟩ K0
    · have q := b2i_nz q
      have K0 := K0.2 q
      refine r_aload (pc := 69) dX7_pairs_69 rfl ?_
      refine s_getI (pc := 71) dX7_pairs_71 fl_X7_150 rfl e_5 ?_
      refine r_if_ne (pc := 74) (tgt := 89) dX7_pairs_74 (by decide) (fun q => ?_) (fun q => ?_)
      · have K0 := K0.1 q
        refine r_iinc (pc := 89) (v := l5 + 1) dX7_pairs_89 rfl rfl (by decide) ?_
        refine r_goto (pc := 92) (L := [some (.ref b0), some (.int l1), some (.int l2), some (.int l3), some (.int l4), some (.int (l5 + 1)), some (.ref c_3)]) (tgt := 35) dX7_pairs_92 (by decide) ?_
        exact r_le (L' := [some (.ref b0), some (.int l1), some (.int l2), some (.int l3), some (.int l4), some (.int (l5 + 1)), none]) ⟨rfl, ⟨rfl, ⟨rfl, ⟨rfl, ⟨rfl, ⟨rfl, trivial⟩⟩⟩⟩⟩⟩ K0
      · have K0 := K0.2 q
        refine r_iload (pc := 77) dX7_pairs_77 rfl ?_
        refine r_aload_n (pc := 79) dX7_pairs_79 rfl ?_
        refine r_aload (pc := 80) dX7_pairs_80 rfl ?_
        refine r_iload_n (pc := 82) dX7_pairs_82 rfl ?_
        refine s_VI (pc := 83) mX7_departuresBehind (ci := 7) (a := b0) (As := [.ref c_3, .int l3]) dX7_pairs_83 lk_X7_275 in_X7_departuresBehind mo_X7_departuresBehind ⟨by decide, rfl⟩ ⟨by decide, by decide⟩ (Nat.le_of_ble_eq_true rfl) k_b0 (mSI_mono K0 (fun r_9 y_8 K0 => ?_))
        refine r_iadd (pc := 86) dX7_pairs_86 ?_
        refine r_istore (pc := 87) dX7_pairs_87 (by decide) ?_
        refine r_iinc (pc := 89) (L := [some (.ref b0), some (.int l1), some (.int l2), some (.int l3), some (.int (l4 + r_9)), some (.int l5), some (.ref c_3)]) (v := l5 + 1) dX7_pairs_89 rfl rfl (by decide) ?_
        refine r_goto (pc := 92) (L := [some (.ref b0), some (.int l1), some (.int l2), some (.int l3), some (.int (l4 + r_9)), some (.int (l5 + 1)), some (.ref c_3)]) (tgt := 35) dX7_pairs_92 (by decide) ?_
        exact r_le (L' := [some (.ref b0), some (.int l1), some (.int l2), some (.int l3), some (.int (l4 + r_9)), some (.int (l5 + 1)), none]) ⟨rfl, ⟨rfl, ⟨rfl, ⟨rfl, ⟨rfl, ⟨rfl, trivial⟩⟩⟩⟩⟩⟩ K0
set_option maxHeartbeats 2000000 in
theorem v_X8_pairs_0 {K : Sh} {x : Cn} {Q : Int32 → Cn → Prop} {b0 : Nat} {l1 : Int32} {l2 : Int32} {l3 : Int32} {b0_1 : Nat} {n_b0_1 : Nat} (k_b0 : kk K b0 = some (8, 0)) (g_b0_1 : gr x b0 1 = some b0_1) (k_b0_1 : kk K b0_1 = some (20, n_b0_1)) (K0 : vp_in 1 n_b0_1 ∧ ((¬ (0 ≤ l1 ∧ l1 ≤ gi x b0_1 1 - 1) → (Q (-2) x)) ∧ ((0 ≤ l1 ∧ l1 ≤ gi x b0_1 1 - 1) → (vp_in 0 n_b0_1 ∧ ((¬ (0 < gi x b0_1 0 ∧ 0 ≤ l2 ∧ l2 ≤ 6) → (Q (-2) x)) ∧ ((0 < gi x b0_1 0 ∧ 0 ≤ l2 ∧ l2 ≤ 6) → (((0 ≤ l3 ∧ l3 ≤ 23) → (GI mX8_pairs 37 [some (.ref b0), some (.int l1), some (.int l2), some (.int l3), some (.int 0), some (.int 0), none, none, none] [] K x Q)) ∧ (¬ (0 ≤ l3 ∧ l3 ≤ 23) → (Q (-2) x))))))))) : mSI mX8_pairs [.ref b0, .int l1, .int l2, .int l3] K x Q := by
  refine s_I (by decide) (by simp [Value.category]) (Nat.le_of_ble_eq_true rfl) ?_
  show mGM mX8_pairs 0 [some (.ref b0), some (.int l1), some (.int l2), some (.int l3), none, none, none, none, none] [] (hp K x) (PI K Q)
  refine r_aload_n (pc := 0) dX8_pairs_0 rfl ?_
  refine r_iload_n (pc := 1) dX8_pairs_1 rfl ?_
  obtain ⟨i_1, K0⟩ := K0
  refine s_VI (pc := 2) mX8_isCarrier (ci := 8) (a := b0) (As := [.int l1]) dX8_pairs_2 lk_X8_265 in_X8_isCarrier mo_X8_isCarrier ⟨by decide, rfl⟩ ⟨by decide, by decide⟩ (Nat.le_of_ble_eq_true rfl) k_b0 (sp_X8_isCarrier k_b0 g_b0_1 k_b0_1 i_1 ?_)
  refine r_if_eq (pc := 5) (tgt := 28) dX8_pairs_5 (by decide) (fun q => ?_) (fun q => ?_)
  · have q := (b2i_z _).mp q
    have K0 := K0.1 q
    refine r_bipush (pc := 28) (v := (-2)) dX8_pairs_28 (by decide) ?_
    exact s_iret rfl dX8_pairs_30 K0
  · have q := b2i_nz q
    have K0 := K0.2 q
    refine r_aload_n (pc := 8) dX8_pairs_8 rfl ?_
    refine r_iload_n (pc := 9) dX8_pairs_9 rfl ?_
    obtain ⟨i_3, K0⟩ := K0
    refine s_VI (pc := 10) mX8_isDay (ci := 8) (a := b0) (As := [.int l2]) dX8_pairs_10 lk_X8_61 in_X8_isDay mo_X8_isDay ⟨by decide, rfl⟩ ⟨by decide, by decide⟩ (Nat.le_of_ble_eq_true rfl) k_b0 (sp_X8_isDay k_b0 g_b0_1 k_b0_1 i_3 ?_)
    refine r_if_eq (pc := 13) (tgt := 28) dX8_pairs_13 (by decide) (fun q => ?_) (fun q => ?_)
    · have q := (b2i_z _).mp q
      have K0 := K0.1 q
      refine r_bipush (pc := 28) (v := (-2)) dX8_pairs_28 (by decide) ?_
      exact s_iret rfl dX8_pairs_30 K0
    · have q := b2i_nz q
      have K0 := K0.2 q
      refine r_iload_n (pc := 16) dX8_pairs_16 rfl ?_
      refine r_i2l (pc := 17) dX8_pairs_17 ?_
      refine r_lconst (pc := 18) (v := 0) dX8_pairs_18 (by decide) ?_
      refine r_ldc2 (pc := 19) (v := 23) dX8_pairs_19 cn_X8_55 ?_
      refine s_SI (pc := 22) mX8_in (As := [.long ((l3 : Int32).toInt64), .long 0, .long 23]) dX8_pairs_22 lk_X8_45 st_X8_in mo_X8_in ⟨by decide, by decide⟩ (Nat.le_of_ble_eq_true rfl) (sq_X8_in (v := l3) (lo := 0) (hi := 23) rfl (by decide) (by decide) ?_)
      refine r_if_ne (pc := 25) (tgt := 31) dX8_pairs_25 (by decide) (fun q => ?_) (fun q => ?_)
      · have q := b2i_nz q
        have K0 := K0.1 q
        refine r_iconst (pc := 31) (v := 0) dX8_pairs_31 (by decide) ?_
        refine r_istore (pc := 32) dX8_pairs_32 (by decide) ?_
        refine r_iconst (pc := 34) (L := [some (.ref b0), some (.int l1), some (.int l2), some (.int l3), some (.int 0), none, none, none, none]) (v := 0) dX8_pairs_34 (by decide) ?_
        refine r_istore (pc := 35) dX8_pairs_35 (by decide) ?_
        exact r_le (L' := [some (.ref b0), some (.int l1), some (.int l2), some (.int l3), some (.int 0), some (.int 0), none, none, none]) ⟨rfl, ⟨rfl, ⟨rfl, ⟨rfl, ⟨rfl, ⟨rfl, trivial⟩⟩⟩⟩⟩⟩ K0
      · have q := (b2i_z _).mp q
        have K0 := K0.2 q
        refine r_bipush (pc := 28) (v := (-2)) dX8_pairs_28 (by decide) ?_
        exact s_iret rfl dX8_pairs_30 K0
set_option maxHeartbeats 2000000 in
theorem v_X8_pairs_37 {K : Sh} {x : Cn} {Q : Int32 → Cn → Prop} {b0 : Nat} {l1 : Int32} {l2 : Int32} {l3 : Int32} {l4 : Int32} {l5 : Int32} {b0_1 : Nat} {n_b0_1 : Nat} (k_b0 : kk K b0 = some (8, 0)) (g_b0_1 : gr x b0 1 = some b0_1) (k_b0_1 : kk K b0_1 = some (20, n_b0_1)) (K0 : vp_in 2 n_b0_1 ∧ (((gi x b0_1 2) ≤ l5 → (Q l4 x)) ∧ (¬ (gi x b0_1 2) ≤ l5 → (GI mX8_pairs 51 [some (.ref b0), some (.int l1), some (.int l2), some (.int l3), some (.int l4), some (.int l5), some (.int 0), none, none] [] K x Q)))) : GI mX8_pairs 37 [some (.ref b0), some (.int l1), some (.int l2), some (.int l3), some (.int l4), some (.int l5), none, none, none] [] K x Q := by
  show mGM mX8_pairs 37 [some (.ref b0), some (.int l1), some (.int l2), some (.int l3), some (.int l4), some (.int l5), none, none, none] [] (hp K x) (PI K Q)
  refine r_iload (pc := 37) dX8_pairs_37 rfl ?_
  refine r_aload_n (pc := 39) dX8_pairs_39 rfl ?_
  refine s_getR (pc := 40) dX8_pairs_40 fl_X8_9 rfl k_b0 g_b0_1 ?_
  refine r_iconst (pc := 43) (v := 2) dX8_pairs_43 (by decide) ?_
  obtain ⟨i_1, K0⟩ := K0
  refine s_iald (pc := 44) dX8_pairs_44 k_b0_1 i_1 ?_
  refine r_icmp_ge (pc := 45) (tgt := 214) dX8_pairs_45 (by decide) (fun q => ?_) (fun q => ?_)
  · have K0 := K0.1 q
    refine r_iload (pc := 214) dX8_pairs_214 rfl ?_
    exact s_iret rfl dX8_pairs_216 K0
  · have K0 := K0.2 q
    refine r_iconst (pc := 48) (v := 0) dX8_pairs_48 (by decide) ?_
    refine r_istore (pc := 49) dX8_pairs_49 (by decide) ?_
    exact r_le (L' := [some (.ref b0), some (.int l1), some (.int l2), some (.int l3), some (.int l4), some (.int l5), some (.int 0), none, none]) ⟨rfl, ⟨rfl, ⟨rfl, ⟨rfl, ⟨rfl, ⟨rfl, ⟨rfl, trivial⟩⟩⟩⟩⟩⟩⟩ K0
set_option maxHeartbeats 2000000 in
theorem v_X8_pairs_51 {K : Sh} {x : Cn} {Q : Int32 → Cn → Prop} {b0 : Nat} {l1 : Int32} {l2 : Int32} {l3 : Int32} {l4 : Int32} {l5 : Int32} {l6 : Int32} {b0_1 : Nat} {n_b0_1 : Nat} {b0_3 : Nat} {n_b0_3 : Nat} (k_b0 : kk K b0 = some (8, 0)) (g_b0_1 : gr x b0 1 = some b0_1) (k_b0_1 : kk K b0_1 = some (20, n_b0_1)) (g_b0_3 : gr x b0 3 = some b0_3) (k_b0_3 : kk K b0_3 = some (20, n_b0_3)) (K0 : vp_in 2 n_b0_1 ∧ (((gi x b0_1 2) ≤ l6 → (GI mX8_pairs 37 [some (.ref b0), some (.int l1), some (.int l2), some (.int l3), some (.int l4), some (.int (l5 + 1)), none, none, none] [] K x Q)) ∧ (¬ (gi x b0_1 2) ≤ l6 → ((l24 l5 n_b0_3) ∧ ((¬ (so (gi x b0_3) (l5 : Int32).toNatClampNeg 0) = l1 → (GI mX8_pairs 110 [some (.ref b0), some (.int l1), some (.int l2), some (.int l3), some (.int l4), some (.int l5), some (.int l6), none, none] [] K x Q)) ∧ ((so (gi x b0_3) (l5 : Int32).toNatClampNeg 0) = l1 → ((l24 l6 n_b0_3) ∧ ((¬ (so (gi x b0_3) (l6 : Int32).toNatClampNeg 0) = l1 → (GI mX8_pairs 110 [some (.ref b0), some (.int l1), some (.int l2), some (.int l3), some (.int l4), some (.int l5), some (.int l6), none, none] [] K x Q)) ∧ ((so (gi x b0_3) (l6 : Int32).toNatClampNeg 0) = l1 → ((¬ (so (gi x b0_3) (l5 : Int32).toNatClampNeg 1) = l2 → (GI mX8_pairs 110 [some (.ref b0), some (.int l1), some (.int l2), some (.int l3), some (.int l4), some (.int l5), some (.int l6), none, none] [] K x Q)) ∧ ((so (gi x b0_3) (l5 : Int32).toNatClampNeg 1) = l2 → ((¬ (so (gi x b0_3) (l6 : Int32).toNatClampNeg 1) = l2 → (GI mX8_pairs 110 [some (.ref b0), some (.int l1), some (.int l2), some (.int l3), some (.int l4), some (.int l5), some (.int l6), none, none] [] K x Q)) ∧ ((so (gi x b0_3) (l6 : Int32).toNatClampNeg 1) = l2 → ((¬ (so (gi x b0_3) (l5 : Int32).toNatClampNeg 3) = 0 → (GI mX8_pairs 163 [some (.ref b0), some (.int l1), some (.int l2), some (.int l3), some (.int l4), some (.int l5), some (.int l6), some (.int 1), none] [] K x Q)) ∧ ((so (gi x b0_3) (l5 : Int32).toNatClampNeg 3) = 0 → ((¬ (so (gi x b0_3) (l6 : Int32).toNatClampNeg 3) = 1 → (GI mX8_pairs 163 [some (.ref b0), some (.int l1), some (.int l2), some (.int l3), some (.int l4), some (.int l5), some (.int l6), some (.int 1), none] [] K x Q)) ∧ ((so (gi x b0_3) (l6 : Int32).toNatClampNeg 3) = 1 → ((¬ (0 ≤ ((so (gi x b0_3) (l6 : Int32).toNatClampNeg 2) - (so (gi x b0_3) (l5 : Int32).toNatClampNeg 2)) ∧ ((so (gi x b0_3) (l6 : Int32).toNatClampNeg 2) - (so (gi x b0_3) (l5 : Int32).toNatClampNeg 2)) ≤ l3) → (GI mX8_pairs 163 [some (.ref b0), some (.int l1), some (.int l2), some (.int l3), some (.int l4), some (.int l5), some (.int l6), some (.int 1), none] [] K x Q)) ∧ ((0 ≤ ((so (gi x b0_3) (l6 : Int32).toNatClampNeg 2) - (so (gi x b0_3) (l5 : Int32).toNatClampNeg 2)) ∧ ((so (gi x b0_3) (l6 : Int32).toNatClampNeg 2) - (so (gi x b0_3) (l5 : Int32).toNatClampNeg 2)) ≤ l3) → ((((bas (gi x b0_3) (l5 : Int32).toNatClampNeg) &&& (bas (gi x b0_3) (l6 : Int32).toNatClampNeg)) = 0 → (GI mX8_pairs 51 [some (.ref b0), some (.int l1), some (.int l2), some (.int l3), some (.int (l4 + 0)), some (.int l5), some (.int (l6 + 1)), none, none] [] K x Q)) ∧ (¬ ((bas (gi x b0_3) (l5 : Int32).toNatClampNeg) &&& (bas (gi x b0_3) (l6 : Int32).toNatClampNeg)) = 0 → (GI mX8_pairs 51 [some (.ref b0), some (.int l1), some (.int l2), some (.int l3), some (.int (l4 + 1)), some (.int l5), some (.int (l6 + 1)), none, none] [] K x Q)))))))))))))))))))))) : GI mX8_pairs 51 [some (.ref b0), some (.int l1), some (.int l2), some (.int l3), some (.int l4), some (.int l5), some (.int l6), none, none] [] K x Q := by
  show mGM mX8_pairs 51 [some (.ref b0), some (.int l1), some (.int l2), some (.int l3), some (.int l4), some (.int l5), some (.int l6), none, none] [] (hp K x) (PI K Q)
  refine r_iload (pc := 51) dX8_pairs_51 rfl ?_
  refine r_aload_n (pc := 53) dX8_pairs_53 rfl ?_
  refine s_getR (pc := 54) dX8_pairs_54 fl_X8_9 rfl k_b0 g_b0_1 ?_
  refine r_iconst (pc := 57) (v := 2) dX8_pairs_57 (by decide) ?_
  obtain ⟨i_1, K0⟩ := K0
  refine s_iald (pc := 58) dX8_pairs_58 k_b0_1 i_1 ?_
  refine r_icmp_ge (pc := 59) (tgt := 208) dX8_pairs_59 (by decide) (fun q => ?_) (fun q => ?_)
  · have K0 := K0.1 q
    refine r_iinc (pc := 208) (v := l5 + 1) dX8_pairs_208 rfl rfl (by decide) ?_
    refine r_goto (pc := 211) (L := [some (.ref b0), some (.int l1), some (.int l2), some (.int l3), some (.int l4), some (.int (l5 + 1)), some (.int l6), none, none]) (tgt := 37) dX8_pairs_211 (by decide) ?_
    exact r_le (L' := [some (.ref b0), some (.int l1), some (.int l2), some (.int l3), some (.int l4), some (.int (l5 + 1)), none, none, none]) ⟨rfl, ⟨rfl, ⟨rfl, ⟨rfl, ⟨rfl, ⟨rfl, trivial⟩⟩⟩⟩⟩⟩ K0
  · have K0 := K0.2 q
    refine r_aload_n (pc := 62) dX8_pairs_62 rfl ?_
    refine r_iload (pc := 63) dX8_pairs_63 rfl ?_
    refine r_iconst (pc := 65) (v := 0) dX8_pairs_65 (by decide) ?_
    obtain ⟨p_3, K0⟩ := K0
    refine s_VI (pc := 66) mX8_one (ci := 8) (a := b0) (As := [.int l5, .int 0]) dX8_pairs_66 lk_X8_67 in_X8_one mo_X8_one ⟨by decide, rfl⟩ ⟨by decide, by decide⟩ (Nat.le_of_ble_eq_true rfl) k_b0 (sr_X8_one k_b0 g_b0_3 k_b0_3 p_3 ⟨by decide, by decide⟩ ?_)
    refine r_iload_n (pc := 69) dX8_pairs_69 rfl ?_
    refine r_icmp_ne (pc := 70) (tgt := 110) dX8_pairs_70 (by decide) (fun q => ?_) (fun q => ?_)
    · have K0 := K0.1 q
      exact r_le (L' := [some (.ref b0), some (.int l1), some (.int l2), some (.int l3), some (.int l4), some (.int l5), some (.int l6), none, none]) ⟨rfl, ⟨rfl, ⟨rfl, ⟨rfl, ⟨rfl, ⟨rfl, ⟨rfl, trivial⟩⟩⟩⟩⟩⟩⟩ K0
    · have K0 := K0.2 q
      refine r_aload_n (pc := 73) dX8_pairs_73 rfl ?_
      refine r_iload (pc := 74) dX8_pairs_74 rfl ?_
      refine r_iconst (pc := 76) (v := 0) dX8_pairs_76 (by decide) ?_
      obtain ⟨p_5, K0⟩ := K0
      refine s_VI (pc := 77) mX8_one (ci := 8) (a := b0) (As := [.int l6, .int 0]) dX8_pairs_77 lk_X8_67 in_X8_one mo_X8_one ⟨by decide, rfl⟩ ⟨by decide, by decide⟩ (Nat.le_of_ble_eq_true rfl) k_b0 (sr_X8_one k_b0 g_b0_3 k_b0_3 p_5 ⟨by decide, by decide⟩ ?_)
      refine r_iload_n (pc := 80) dX8_pairs_80 rfl ?_
      refine r_icmp_ne (pc := 81) (tgt := 110) dX8_pairs_81 (by decide) (fun q => ?_) (fun q => ?_)
      · have K0 := K0.1 q
        exact r_le (L' := [some (.ref b0), some (.int l1), some (.int l2), some (.int l3), some (.int l4), some (.int l5), some (.int l6), none, none]) ⟨rfl, ⟨rfl, ⟨rfl, ⟨rfl, ⟨rfl, ⟨rfl, ⟨rfl, trivial⟩⟩⟩⟩⟩⟩⟩ K0
      · have K0 := K0.2 q
        refine r_aload_n (pc := 84) dX8_pairs_84 rfl ?_
        refine r_iload (pc := 85) dX8_pairs_85 rfl ?_
        refine r_iconst (pc := 87) (v := 1) dX8_pairs_87 (by decide) ?_
        refine s_VI (pc := 88) mX8_one (ci := 8) (a := b0) (As := [.int l5, .int 1]) dX8_pairs_88 lk_X8_67 in_X8_one mo_X8_one ⟨by decide, rfl⟩ ⟨by decide, by decide⟩ (Nat.le_of_ble_eq_true rfl) k_b0 (sr_X8_one k_b0 g_b0_3 k_b0_3 p_3 ⟨by decide, by decide⟩ ?_)
        refine r_iload_n (pc := 91) dX8_pairs_91 rfl ?_
        refine r_icmp_ne (pc := 92) (tgt := 110) dX8_pairs_92 (by decide) (fun q => ?_) (fun q => ?_)
        · have K0 := K0.1 q
          exact r_le (L' := [some (.ref b0), some (.int l1), some (.int l2), some (.int l3), some (.int l4), some (.int l5), some (.int l6), none, none]) ⟨rfl, ⟨rfl, ⟨rfl, ⟨rfl, ⟨rfl, ⟨rfl, ⟨rfl, trivial⟩⟩⟩⟩⟩⟩⟩ K0
        · have K0 := K0.2 q
          refine r_aload_n (pc := 95) dX8_pairs_95 rfl ?_
          refine r_iload (pc := 96) dX8_pairs_96 rfl ?_
          refine r_iconst (pc := 98) (v := 1) dX8_pairs_98 (by decide) ?_
          refine s_VI (pc := 99) mX8_one (ci := 8) (a := b0) (As := [.int l6, .int 1]) dX8_pairs_99 lk_X8_67 in_X8_one mo_X8_one ⟨by decide, rfl⟩ ⟨by decide, by decide⟩ (Nat.le_of_ble_eq_true rfl) k_b0 (sr_X8_one k_b0 g_b0_3 k_b0_3 p_5 ⟨by decide, by decide⟩ ?_)
          refine r_iload_n (pc := 102) dX8_pairs_102 rfl ?_
          refine r_icmp_ne (pc := 103) (tgt := 110) dX8_pairs_103 (by decide) (fun q => ?_) (fun q => ?_)
          · have K0 := K0.1 q
            exact r_le (L' := [some (.ref b0), some (.int l1), some (.int l2), some (.int l3), some (.int l4), some (.int l5), some (.int l6), none, none]) ⟨rfl, ⟨rfl, ⟨rfl, ⟨rfl, ⟨rfl, ⟨rfl, ⟨rfl, trivial⟩⟩⟩⟩⟩⟩⟩ K0
          · have K0 := K0.2 q
            refine r_iconst (pc := 106) (v := 1) dX8_pairs_106 (by decide) ?_
            refine r_goto (pc := 107) (tgt := 111) dX8_pairs_107 (by decide) ?_
            refine r_istore (pc := 111) dX8_pairs_111 (by decide) ?_
            refine r_aload_n (pc := 113) (L := [some (.ref b0), some (.int l1), some (.int l2), some (.int l3), some (.int l4), some (.int l5), some (.int l6), some (.int 1), none]) dX8_pairs_113 rfl ?_
            refine r_iload (pc := 114) dX8_pairs_114 rfl ?_
            refine r_iconst (pc := 116) (v := 3) dX8_pairs_116 (by decide) ?_
            refine s_VI (pc := 117) mX8_one (ci := 8) (a := b0) (As := [.int l5, .int 3]) dX8_pairs_117 lk_X8_67 in_X8_one mo_X8_one ⟨by decide, rfl⟩ ⟨by decide, by decide⟩ (Nat.le_of_ble_eq_true rfl) k_b0 (sr_X8_one k_b0 g_b0_3 k_b0_3 p_3 ⟨by decide, by decide⟩ ?_)
            refine r_if_ne (pc := 120) (tgt := 163) dX8_pairs_120 (by decide) (fun q => ?_) (fun q => ?_)
            · have K0 := K0.1 q
              exact r_le (L' := [some (.ref b0), some (.int l1), some (.int l2), some (.int l3), some (.int l4), some (.int l5), some (.int l6), some (.int 1), none]) ⟨rfl, ⟨rfl, ⟨rfl, ⟨rfl, ⟨rfl, ⟨rfl, ⟨rfl, ⟨rfl, trivial⟩⟩⟩⟩⟩⟩⟩⟩ K0
            · have K0 := K0.2 q
              refine r_aload_n (pc := 123) dX8_pairs_123 rfl ?_
              refine r_iload (pc := 124) dX8_pairs_124 rfl ?_
              refine r_iconst (pc := 126) (v := 3) dX8_pairs_126 (by decide) ?_
              refine s_VI (pc := 127) mX8_one (ci := 8) (a := b0) (As := [.int l6, .int 3]) dX8_pairs_127 lk_X8_67 in_X8_one mo_X8_one ⟨by decide, rfl⟩ ⟨by decide, by decide⟩ (Nat.le_of_ble_eq_true rfl) k_b0 (sr_X8_one k_b0 g_b0_3 k_b0_3 p_5 ⟨by decide, by decide⟩ ?_)
              refine r_iconst (pc := 130) (v := 1) dX8_pairs_130 (by decide) ?_
              refine r_icmp_ne (pc := 131) (tgt := 163) dX8_pairs_131 (by decide) (fun q => ?_) (fun q => ?_)
              · have K0 := K0.1 q
                exact r_le (L' := [some (.ref b0), some (.int l1), some (.int l2), some (.int l3), some (.int l4), some (.int l5), some (.int l6), some (.int 1), none]) ⟨rfl, ⟨rfl, ⟨rfl, ⟨rfl, ⟨rfl, ⟨rfl, ⟨rfl, ⟨rfl, trivial⟩⟩⟩⟩⟩⟩⟩⟩ K0
              · have K0 := K0.2 q
                refine r_aload_n (pc := 134) dX8_pairs_134 rfl ?_
                refine r_iload (pc := 135) dX8_pairs_135 rfl ?_
                refine r_iconst (pc := 137) (v := 2) dX8_pairs_137 (by decide) ?_
                refine s_VI (pc := 138) mX8_one (ci := 8) (a := b0) (As := [.int l6, .int 2]) dX8_pairs_138 lk_X8_67 in_X8_one mo_X8_one ⟨by decide, rfl⟩ ⟨by decide, by decide⟩ (Nat.le_of_ble_eq_true rfl) k_b0 (sr_X8_one k_b0 g_b0_3 k_b0_3 p_5 ⟨by decide, by decide⟩ ?_)
                refine r_aload_n (pc := 141) dX8_pairs_141 rfl ?_
                refine r_iload (pc := 142) dX8_pairs_142 rfl ?_
                refine r_iconst (pc := 144) (v := 2) dX8_pairs_144 (by decide) ?_
                refine s_VI (pc := 145) mX8_one (ci := 8) (a := b0) (As := [.int l5, .int 2]) dX8_pairs_145 lk_X8_67 in_X8_one mo_X8_one ⟨by decide, rfl⟩ ⟨by decide, by decide⟩ (Nat.le_of_ble_eq_true rfl) k_b0 (sr_X8_one k_b0 g_b0_3 k_b0_3 p_3 ⟨by decide, by decide⟩ ?_)
                refine r_isub (pc := 148) dX8_pairs_148 ?_
                refine r_i2l (pc := 149) dX8_pairs_149 ?_
                refine r_lconst (pc := 150) (v := 0) dX8_pairs_150 (by decide) ?_
                refine r_iload_n (pc := 151) dX8_pairs_151 rfl ?_
                refine r_i2l (pc := 152) dX8_pairs_152 ?_
                refine s_SI (pc := 153) mX8_in (As := [.long ((((so (gi x b0_3) (l6 : Int32).toNatClampNeg 2) - (so (gi x b0_3) (l5 : Int32).toNatClampNeg 2)) : Int32).toInt64), .long 0, .long ((l3 : Int32).toInt64)]) dX8_pairs_153 lk_X8_45 st_X8_in mo_X8_in ⟨by decide, by decide⟩ (Nat.le_of_ble_eq_true rfl) (sq_X8_in (v := ((so (gi x b0_3) (l6 : Int32).toNatClampNeg 2) - (so (gi x b0_3) (l5 : Int32).toNatClampNeg 2))) (lo := 0) (hi := l3) rfl (by decide) rfl ?_)
                refine r_if_eq (pc := 156) (tgt := 163) dX8_pairs_156 (by decide) (fun q => ?_) (fun q => ?_)
                · have q := (b2i_z _).mp q
                  have K0 := K0.1 q
                  exact r_le (L' := [some (.ref b0), some (.int l1), some (.int l2), some (.int l3), some (.int l4), some (.int l5), some (.int l6), some (.int 1), none]) ⟨rfl, ⟨rfl, ⟨rfl, ⟨rfl, ⟨rfl, ⟨rfl, ⟨rfl, ⟨rfl, trivial⟩⟩⟩⟩⟩⟩⟩⟩ K0
                · have q := b2i_nz q
                  have K0 := K0.2 q
                  refine r_iconst (pc := 159) (v := 1) dX8_pairs_159 (by decide) ?_
                  refine r_goto (pc := 160) (tgt := 164) dX8_pairs_160 (by decide) ?_
                  refine r_istore (pc := 164) dX8_pairs_164 (by decide) ?_
                  refine r_iload (pc := 166) (L := [some (.ref b0), some (.int l1), some (.int l2), some (.int l3), some (.int l4), some (.int l5), some (.int l6), some (.int 1), some (.int 1)]) dX8_pairs_166 rfl ?_
                  refine r_iload (pc := 168) dX8_pairs_168 rfl ?_
                  refine r_if_eq (pc := 170) (tgt := 198) dX8_pairs_170 (by decide) (fun q => by first | exact absurd q (by decide) | exact absurd (by decide) q) (fun _ => ?_)
                  refine r_iload (pc := 173) dX8_pairs_173 rfl ?_
                  refine r_if_eq (pc := 175) (tgt := 198) dX8_pairs_175 (by decide) (fun q => by first | exact absurd q (by decide) | exact absurd (by decide) q) (fun _ => ?_)
                  refine r_aload_n (pc := 178) dX8_pairs_178 rfl ?_
                  refine r_iload (pc := 179) dX8_pairs_179 rfl ?_
                  refine s_VI (pc := 181) mX8_basisOf (ci := 8) (a := b0) (As := [.int l5]) dX8_pairs_181 lk_X8_71 in_X8_basisOf mo_X8_basisOf ⟨by decide, rfl⟩ ⟨by decide, by decide⟩ (Nat.le_of_ble_eq_true rfl) k_b0 (sr_X8_basisOf k_b0 g_b0_3 k_b0_3 p_3 ?_)
                  refine r_aload_n (pc := 184) dX8_pairs_184 rfl ?_
                  refine r_iload (pc := 185) dX8_pairs_185 rfl ?_
                  refine s_VI (pc := 187) mX8_basisOf (ci := 8) (a := b0) (As := [.int l6]) dX8_pairs_187 lk_X8_71 in_X8_basisOf mo_X8_basisOf ⟨by decide, rfl⟩ ⟨by decide, by decide⟩ (Nat.le_of_ble_eq_true rfl) k_b0 (sr_X8_basisOf k_b0 g_b0_3 k_b0_3 p_5 ?_)
                  refine r_iand (pc := 190) dX8_pairs_190 ?_
                  refine r_if_eq (pc := 191) (tgt := 198) dX8_pairs_191 (by decide) (fun q => ?_) (fun q => ?_)
                  · have K0 := K0.1 q
                    refine r_iconst (pc := 198) (v := 0) dX8_pairs_198 (by decide) ?_
                    refine r_iadd (pc := 199) dX8_pairs_199 ?_
                    refine r_istore (pc := 200) dX8_pairs_200 (by decide) ?_
                    refine r_iinc (pc := 202) (L := [some (.ref b0), some (.int l1), some (.int l2), some (.int l3), some (.int (l4 + 0)), some (.int l5), some (.int l6), some (.int 1), some (.int 1)]) (v := l6 + 1) dX8_pairs_202 rfl rfl (by decide) ?_
                    refine r_goto (pc := 205) (L := [some (.ref b0), some (.int l1), some (.int l2), some (.int l3), some (.int (l4 + 0)), some (.int l5), some (.int (l6 + 1)), some (.int 1), some (.int 1)]) (tgt := 51) dX8_pairs_205 (by decide) ?_
                    exact r_le (L' := [some (.ref b0), some (.int l1), some (.int l2), some (.int l3), some (.int (l4 + 0)), some (.int l5), some (.int (l6 + 1)), none, none]) ⟨rfl, ⟨rfl, ⟨rfl, ⟨rfl, ⟨rfl, ⟨rfl, ⟨rfl, trivial⟩⟩⟩⟩⟩⟩⟩ K0
                  · have K0 := K0.2 q
                    refine r_iconst (pc := 194) (v := 1) dX8_pairs_194 (by decide) ?_
                    refine r_goto (pc := 195) (tgt := 199) dX8_pairs_195 (by decide) ?_
                    refine r_iadd (pc := 199) dX8_pairs_199 ?_
                    refine r_istore (pc := 200) dX8_pairs_200 (by decide) ?_
                    refine r_iinc (pc := 202) (L := [some (.ref b0), some (.int l1), some (.int l2), some (.int l3), some (.int (l4 + 1)), some (.int l5), some (.int l6), some (.int 1), some (.int 1)]) (v := l6 + 1) dX8_pairs_202 rfl rfl (by decide) ?_
                    refine r_goto (pc := 205) (L := [some (.ref b0), some (.int l1), some (.int l2), some (.int l3), some (.int (l4 + 1)), some (.int l5), some (.int (l6 + 1)), some (.int 1), some (.int 1)]) (tgt := 51) dX8_pairs_205 (by decide) ?_
                    exact r_le (L' := [some (.ref b0), some (.int l1), some (.int l2), some (.int l3), some (.int (l4 + 1)), some (.int l5), some (.int (l6 + 1)), none, none]) ⟨rfl, ⟨rfl, ⟨rfl, ⟨rfl, ⟨rfl, ⟨rfl, ⟨rfl, trivial⟩⟩⟩⟩⟩⟩⟩ K0
set_option maxHeartbeats 2000000 in
theorem v_X8_pairs_110 {K : Sh} {x : Cn} {Q : Int32 → Cn → Prop} {b0 : Nat} {l1 : Int32} {l2 : Int32} {l3 : Int32} {l4 : Int32} {l5 : Int32} {l6 : Int32} {b0_3 : Nat} {n_b0_3 : Nat} (k_b0 : kk K b0 = some (8, 0)) (g_b0_3 : gr x b0 3 = some b0_3) (k_b0_3 : kk K b0_3 = some (20, n_b0_3)) (K0 : (l24 l5 n_b0_3) ∧ ((¬ (so (gi x b0_3) (l5 : Int32).toNatClampNeg 3) = 0 → (GI mX8_pairs 163 [some (.ref b0), some (.int l1), some (.int l2), some (.int l3), some (.int l4), some (.int l5), some (.int l6), some (.int 0), none] [] K x Q)) ∧ ((so (gi x b0_3) (l5 : Int32).toNatClampNeg 3) = 0 → ((l24 l6 n_b0_3) ∧ ((¬ (so (gi x b0_3) (l6 : Int32).toNatClampNeg 3) = 1 → (GI mX8_pairs 163 [some (.ref b0), some (.int l1), some (.int l2), some (.int l3), some (.int l4), some (.int l5), some (.int l6), some (.int 0), none] [] K x Q)) ∧ ((so (gi x b0_3) (l6 : Int32).toNatClampNeg 3) = 1 → ((¬ (0 ≤ ((so (gi x b0_3) (l6 : Int32).toNatClampNeg 2) - (so (gi x b0_3) (l5 : Int32).toNatClampNeg 2)) ∧ ((so (gi x b0_3) (l6 : Int32).toNatClampNeg 2) - (so (gi x b0_3) (l5 : Int32).toNatClampNeg 2)) ≤ l3) → (GI mX8_pairs 163 [some (.ref b0), some (.int l1), some (.int l2), some (.int l3), some (.int l4), some (.int l5), some (.int l6), some (.int 0), none] [] K x Q)) ∧ ((0 ≤ ((so (gi x b0_3) (l6 : Int32).toNatClampNeg 2) - (so (gi x b0_3) (l5 : Int32).toNatClampNeg 2)) ∧ ((so (gi x b0_3) (l6 : Int32).toNatClampNeg 2) - (so (gi x b0_3) (l5 : Int32).toNatClampNeg 2)) ≤ l3) → (GI mX8_pairs 51 [some (.ref b0), some (.int l1), some (.int l2), some (.int l3), some (.int (l4 + 0)), some (.int l5), some (.int (l6 + 1)), none, none] [] K x Q))))))))) : GI mX8_pairs 110 [some (.ref b0), some (.int l1), some (.int l2), some (.int l3), some (.int l4), some (.int l5), some (.int l6), none, none] [] K x Q := by
  show mGM mX8_pairs 110 [some (.ref b0), some (.int l1), some (.int l2), some (.int l3), some (.int l4), some (.int l5), some (.int l6), none, none] [] (hp K x) (PI K Q)
  refine r_iconst (pc := 110) (v := 0) dX8_pairs_110 (by decide) ?_
  refine r_istore (pc := 111) dX8_pairs_111 (by decide) ?_
  refine r_aload_n (pc := 113) (L := [some (.ref b0), some (.int l1), some (.int l2), some (.int l3), some (.int l4), some (.int l5), some (.int l6), some (.int 0), none]) dX8_pairs_113 rfl ?_
  refine r_iload (pc := 114) dX8_pairs_114 rfl ?_
  refine r_iconst (pc := 116) (v := 3) dX8_pairs_116 (by decide) ?_
  obtain ⟨p_1, K0⟩ := K0
  refine s_VI (pc := 117) mX8_one (ci := 8) (a := b0) (As := [.int l5, .int 3]) dX8_pairs_117 lk_X8_67 in_X8_one mo_X8_one ⟨by decide, rfl⟩ ⟨by decide, by decide⟩ (Nat.le_of_ble_eq_true rfl) k_b0 (sr_X8_one k_b0 g_b0_3 k_b0_3 p_1 ⟨by decide, by decide⟩ ?_)
  refine r_if_ne (pc := 120) (tgt := 163) dX8_pairs_120 (by decide) (fun q => ?_) (fun q => ?_)
  · have K0 := K0.1 q
    exact r_le (L' := [some (.ref b0), some (.int l1), some (.int l2), some (.int l3), some (.int l4), some (.int l5), some (.int l6), some (.int 0), none]) ⟨rfl, ⟨rfl, ⟨rfl, ⟨rfl, ⟨rfl, ⟨rfl, ⟨rfl, ⟨rfl, trivial⟩⟩⟩⟩⟩⟩⟩⟩ K0
  · have K0 := K0.2 q
    refine r_aload_n (pc := 123) dX8_pairs_123 rfl ?_
    refine r_iload (pc := 124) dX8_pairs_124 rfl ?_
    refine r_iconst (pc := 126) (v := 3) dX8_pairs_126 (by decide) ?_
    obtain ⟨p_3, K0⟩ := K0
    refine s_VI (pc := 127) mX8_one (ci := 8) (a := b0) (As := [.int l6, .int 3]) dX8_pairs_127 lk_X8_67 in_X8_one mo_X8_one ⟨by decide, rfl⟩ ⟨by decide, by decide⟩ (Nat.le_of_ble_eq_true rfl) k_b0 (sr_X8_one k_b0 g_b0_3 k_b0_3 p_3 ⟨by decide, by decide⟩ ?_)
    refine r_iconst (pc := 130) (v := 1) dX8_pairs_130 (by decide) ?_
    refine r_icmp_ne (pc := 131) (tgt := 163) dX8_pairs_131 (by decide) (fun q => ?_) (fun q => ?_)
    · have K0 := K0.1 q
      exact r_le (L' := [some (.ref b0), some (.int l1), some (.int l2), some (.int l3), some (.int l4), some (.int l5), some (.int l6), some (.int 0), none]) ⟨rfl, ⟨rfl, ⟨rfl, ⟨rfl, ⟨rfl, ⟨rfl, ⟨rfl, ⟨rfl, trivial⟩⟩⟩⟩⟩⟩⟩⟩ K0
    · have K0 := K0.2 q
      refine r_aload_n (pc := 134) dX8_pairs_134 rfl ?_
      refine r_iload (pc := 135) dX8_pairs_135 rfl ?_
      refine r_iconst (pc := 137) (v := 2) dX8_pairs_137 (by decide) ?_
      refine s_VI (pc := 138) mX8_one (ci := 8) (a := b0) (As := [.int l6, .int 2]) dX8_pairs_138 lk_X8_67 in_X8_one mo_X8_one ⟨by decide, rfl⟩ ⟨by decide, by decide⟩ (Nat.le_of_ble_eq_true rfl) k_b0 (sr_X8_one k_b0 g_b0_3 k_b0_3 p_3 ⟨by decide, by decide⟩ ?_)
      refine r_aload_n (pc := 141) dX8_pairs_141 rfl ?_
      refine r_iload (pc := 142) dX8_pairs_142 rfl ?_
      refine r_iconst (pc := 144) (v := 2) dX8_pairs_144 (by decide) ?_
      refine s_VI (pc := 145) mX8_one (ci := 8) (a := b0) (As := [.int l5, .int 2]) dX8_pairs_145 lk_X8_67 in_X8_one mo_X8_one ⟨by decide, rfl⟩ ⟨by decide, by decide⟩ (Nat.le_of_ble_eq_true rfl) k_b0 (sr_X8_one k_b0 g_b0_3 k_b0_3 p_1 ⟨by decide, by decide⟩ ?_)
      refine r_isub (pc := 148) dX8_pairs_148 ?_
      refine r_i2l (pc := 149) dX8_pairs_149 ?_
      refine r_lconst (pc := 150) (v := 0) dX8_pairs_150 (by decide) ?_
      refine r_iload_n (pc := 151) dX8_pairs_151 rfl ?_
      refine r_i2l (pc := 152) dX8_pairs_152 ?_
      refine s_SI (pc := 153) mX8_in (As := [.long ((((so (gi x b0_3) (l6 : Int32).toNatClampNeg 2) - (so (gi x b0_3) (l5 : Int32).toNatClampNeg 2)) : Int32).toInt64), .long 0, .long ((l3 : Int32).toInt64)]) dX8_pairs_153 lk_X8_45 st_X8_in mo_X8_in ⟨by decide, by decide⟩ (Nat.le_of_ble_eq_true rfl) (sq_X8_in (v := ((so (gi x b0_3) (l6 : Int32).toNatClampNeg 2) - (so (gi x b0_3) (l5 : Int32).toNatClampNeg 2))) (lo := 0) (hi := l3) rfl (by decide) rfl ?_)
      refine r_if_eq (pc := 156) (tgt := 163) dX8_pairs_156 (by decide) (fun q => ?_) (fun q => ?_)
      · have q := (b2i_z _).mp q
        have K0 := K0.1 q
        exact r_le (L' := [some (.ref b0), some (.int l1), some (.int l2), some (.int l3), some (.int l4), some (.int l5), some (.int l6), some (.int 0), none]) ⟨rfl, ⟨rfl, ⟨rfl, ⟨rfl, ⟨rfl, ⟨rfl, ⟨rfl, ⟨rfl, trivial⟩⟩⟩⟩⟩⟩⟩⟩ K0
      · have q := b2i_nz q
        have K0 := K0.2 q
        refine r_iconst (pc := 159) (v := 1) dX8_pairs_159 (by decide) ?_
        refine r_goto (pc := 160) (tgt := 164) dX8_pairs_160 (by decide) ?_
        refine r_istore (pc := 164) dX8_pairs_164 (by decide) ?_
        refine r_iload (pc := 166) (L := [some (.ref b0), some (.int l1), some (.int l2), some (.int l3), some (.int l4), some (.int l5), some (.int l6), some (.int 0), some (.int 1)]) dX8_pairs_166 rfl ?_
        refine r_iload (pc := 168) dX8_pairs_168 rfl ?_
        refine r_if_eq (pc := 170) (tgt := 198) dX8_pairs_170 (by decide) (fun _ => ?_) (fun q => by first | exact absurd q (by decide) | exact absurd (by decide) q)
        refine r_iconst (pc := 198) (v := 0) dX8_pairs_198 (by decide) ?_
        refine r_iadd (pc := 199) dX8_pairs_199 ?_
        refine r_istore (pc := 200) dX8_pairs_200 (by decide) ?_
        refine r_iinc (pc := 202) (L := [some (.ref b0), some (.int l1), some (.int l2), some (.int l3), some (.int (l4 + 0)), some (.int l5), some (.int l6), some (.int 0), some (.int 1)]) (v := l6 + 1) dX8_pairs_202 rfl rfl (by decide) ?_
        refine r_goto (pc := 205) (L := [some (.ref b0), some (.int l1), some (.int l2), some (.int l3), some (.int (l4 + 0)), some (.int l5), some (.int (l6 + 1)), some (.int 0), some (.int 1)]) (tgt := 51) dX8_pairs_205 (by decide) ?_
        exact r_le (L' := [some (.ref b0), some (.int l1), some (.int l2), some (.int l3), some (.int (l4 + 0)), some (.int l5), some (.int (l6 + 1)), none, none]) ⟨rfl, ⟨rfl, ⟨rfl, ⟨rfl, ⟨rfl, ⟨rfl, ⟨rfl, trivial⟩⟩⟩⟩⟩⟩⟩ K0
set_option maxHeartbeats 2000000 in
theorem v_X8_pairs_163 {K : Sh} {x : Cn} {Q : Int32 → Cn → Prop} {b0 : Nat} {l1 : Int32} {l2 : Int32} {l3 : Int32} {l4 : Int32} {l5 : Int32} {l6 : Int32} {l7 : Int32}   (K0 : (l7 = 0 → (GI mX8_pairs 51 [some (.ref b0), some (.int l1), some (.int l2), some (.int l3), some (.int (l4 + 0)), some (.int l5), some (.int (l6 + 1)), none, none] [] K x Q)) ∧ (¬ l7 = 0 → (GI mX8_pairs 51 [some (.ref b0), some (.int l1), some (.int l2), some (.int l3), some (.int (l4 + 0)), some (.int l5), some (.int (l6 + 1)), none, none] [] K x Q))) : GI mX8_pairs 163 [some (.ref b0), some (.int l1), some (.int l2), some (.int l3), some (.int l4), some (.int l5), some (.int l6), some (.int l7), none] [] K x Q := by
  show mGM mX8_pairs 163 [some (.ref b0), some (.int l1), some (.int l2), some (.int l3), some (.int l4), some (.int l5), some (.int l6), some (.int l7), none] [] (hp K x) (PI K Q)
  refine r_iconst (pc := 163) (v := 0) dX8_pairs_163 (by decide) ?_
  refine r_istore (pc := 164) dX8_pairs_164 (by decide) ?_
  refine r_iload (pc := 166) (L := [some (.ref b0), some (.int l1), some (.int l2), some (.int l3), some (.int l4), some (.int l5), some (.int l6), some (.int l7), some (.int 0)]) dX8_pairs_166 rfl ?_
  refine r_iload (pc := 168) dX8_pairs_168 rfl ?_
  refine r_if_eq (pc := 170) (tgt := 198) dX8_pairs_170 (by decide) (fun q => ?_) (fun q => ?_)
  · have K0 := K0.1 q
    refine r_iconst (pc := 198) (v := 0) dX8_pairs_198 (by decide) ?_
    refine r_iadd (pc := 199) dX8_pairs_199 ?_
    refine r_istore (pc := 200) dX8_pairs_200 (by decide) ?_
    refine r_iinc (pc := 202) (L := [some (.ref b0), some (.int l1), some (.int l2), some (.int l3), some (.int (l4 + 0)), some (.int l5), some (.int l6), some (.int l7), some (.int 0)]) (v := l6 + 1) dX8_pairs_202 rfl rfl (by decide) ?_
    refine r_goto (pc := 205) (L := [some (.ref b0), some (.int l1), some (.int l2), some (.int l3), some (.int (l4 + 0)), some (.int l5), some (.int (l6 + 1)), some (.int l7), some (.int 0)]) (tgt := 51) dX8_pairs_205 (by decide) ?_
    exact r_le (L' := [some (.ref b0), some (.int l1), some (.int l2), some (.int l3), some (.int (l4 + 0)), some (.int l5), some (.int (l6 + 1)), none, none]) ⟨rfl, ⟨rfl, ⟨rfl, ⟨rfl, ⟨rfl, ⟨rfl, ⟨rfl, trivial⟩⟩⟩⟩⟩⟩⟩ K0
  · have K0 := K0.2 q
    refine r_iload (pc := 173) dX8_pairs_173 rfl ?_
    refine r_if_eq (pc := 175) (tgt := 198) dX8_pairs_175 (by decide) (fun _ => ?_) (fun q => by first | exact absurd q (by decide) | exact absurd (by decide) q)
    refine r_iconst (pc := 198) (v := 0) dX8_pairs_198 (by decide) ?_
    refine r_iadd (pc := 199) dX8_pairs_199 ?_
    refine r_istore (pc := 200) dX8_pairs_200 (by decide) ?_
    refine r_iinc (pc := 202) (L := [some (.ref b0), some (.int l1), some (.int l2), some (.int l3), some (.int (l4 + 0)), some (.int l5), some (.int l6), some (.int l7), some (.int 0)]) (v := l6 + 1) dX8_pairs_202 rfl rfl (by decide) ?_
    refine r_goto (pc := 205) (L := [some (.ref b0), some (.int l1), some (.int l2), some (.int l3), some (.int (l4 + 0)), some (.int l5), some (.int (l6 + 1)), some (.int l7), some (.int 0)]) (tgt := 51) dX8_pairs_205 (by decide) ?_
    exact r_le (L' := [some (.ref b0), some (.int l1), some (.int l2), some (.int l3), some (.int (l4 + 0)), some (.int l5), some (.int (l6 + 1)), none, none]) ⟨rfl, ⟨rfl, ⟨rfl, ⟨rfl, ⟨rfl, ⟨rfl, ⟨rfl, trivial⟩⟩⟩⟩⟩⟩⟩ K0
theorem eq_pairs (a b c : Int32) : Both mX7_pairs mX8_pairs [.int a, .int b, .int c] := by
  intro x R
  obtain ⟨W, C, S, A, N, E, ⟨hc, -⟩, -⟩ := R.sea
  have hn := E.nums
  have ht := Rel.t2 E
  have hS : S ≤ 24 := hn.2.2.2.2.2.2.1
  have hC : C ≤ 8 := hn.2.2.2.2.2.1
  have iC := inN' (v := a) (n := C) (by omega)
  have rf : mSI mX8_pairs [.ref 717, .int a, .int b, .int c] KW x (fun r' z => (if (0 ≤ a ∧ a < nI C) ∧ (0 < nI W ∧ 0 ≤ b ∧ b < 7) ∧ (0 ≤ c ∧ c ≤ 23) then accT (stP (gi x 718) S a b c) S 0 else -2) = r' ∧ Rel z) := by
    refine v_X8_pairs_0 km R.2.1.1 km1 ⟨v0 (k := 1) (by decide) rfl rfl, ?_⟩
    rw [ht.2.1, iC, ht.1, d7]
    refine ⟨fun z => ⟨if_neg (fun w => z w.1), R⟩, fun z => ⟨v0 (k := 0) (by decide) rfl rfl, fun z2 => ⟨if_neg (fun w => z2 w.2.1), R⟩, fun z2 => ⟨fun z3 => ?_, fun z3 => ⟨if_neg (fun w => z3 w.2.2), R⟩⟩⟩⟩
    rw [if_pos ⟨z, z2, z3⟩]
    refine lp_acc (stP (gi x 718) S a b c) (fun s n => GI mX8_pairs 37 [some (.ref 717), some (.int a), some (.int b), some (.int c), some (.int n), some (.int (nI s)), none, none, none] [] KW x _) S 0 ?_ (fun s n hs n1 => ?_)
    · exact v_X8_pairs_37 km R.2.1.1 km1 ⟨v0 (k := 2) (by decide) rfl rfl, fun _ => ⟨rfl, R⟩, fun z => absurd (by rw [ht.2.2.1]; exact Int32.le_refl _) z⟩
    · refine v_X8_pairs_37 km R.2.1.1 km1 ⟨v0 (k := 2) (by decide) rfl rfl, fun z => absurd (by rw [ht.2.2.1] at z; exact z) (nI_ge hs (by omega)), fun _ => ?_⟩
      refine lp_acc (inc (fun t => ppo (gi x 718) a b s ∧ pcr (gi x 718) c s t)) (fun t n => GI mX8_pairs 51 [some (.ref 717), some (.int a), some (.int b), some (.int c), some (.int n), some (.int (nI s)), some (.int (nI t)), none, none] [] KW x _) S n ?_ (fun t n ht2 m1 => ?_)
      · refine v_X8_pairs_51 km R.2.1.1 km1 R.2.1.2.2.1 km1 ⟨v0 (k := 2) (by decide) rfl rfl, fun _ => ?_, fun z => absurd (by rw [ht.2.2.1]; exact Int32.le_refl _) z⟩
        rw [nI_1]
        refine n1 _ ?_
        unfold stP addS
        by_cases h : ppo (gi x 718) a b s
        · rw [if_pos h, inc_cg (d := pcr (gi x 718) c s) n (fun t => ⟨fun z => z.2, fun z => ⟨h, z⟩⟩)]
          exact (inc_off n S).symm
        · rw [if_neg h]
          exact (inc_no n (fun t z => h z.1) S).symm
      · have l1 : l24 (nI s) 518 := l24_nI (by omega) rfl
        have l2 : l24 (nI t) 518 := l24_nI (by omega) rfl
        have m2 : ¬ (ppo (gi x 718) a b s ∧ pcr (gi x 718) c s t) → GI mX8_pairs 51 [some (.ref 717), some (.int a), some (.int b), some (.int c), some (.int (n + 0)), some (.int (nI s)), some (.int (nI t + 1)), none, none] [] KW x (fun r' z => accT (stP (gi x 718) S a b c) S 0 = r' ∧ Rel z) := fun z => by rw [Int32.add_zero, nI_1]; exact m1 _ (if_neg z)
        have m163 : ∀ v : Int32, ¬ (ppo (gi x 718) a b s ∧ pcr (gi x 718) c s t) → GI mX8_pairs 163 [some (.ref 717), some (.int a), some (.int b), some (.int c), some (.int n), some (.int (nI s)), some (.int (nI t)), some (.int v), none] [] KW x (fun r' z => accT (stP (gi x 718) S a b c) S 0 = r' ∧ Rel z) := fun v z => v_X8_pairs_163 ⟨fun _ => m2 z, fun _ => m2 z⟩
        have m110 : ¬ (ppo (gi x 718) a b s ∧ pcr (gi x 718) c s t) → GI mX8_pairs 110 [some (.ref 717), some (.int a), some (.int b), some (.int c), some (.int n), some (.int (nI s)), some (.int (nI t)), none, none] [] KW x (fun r' z => accT (stP (gi x 718) S a b c) S 0 = r' ∧ Rel z) := fun z => v_X8_pairs_110 km R.2.1.2.2.1 km1 ⟨l1, fun _ => m163 _ z, fun _ => ⟨l2, fun _ => m163 _ z, fun _ => ⟨fun _ => m163 _ z, fun _ => m2 z⟩⟩⟩
        refine v_X8_pairs_51 km R.2.1.1 km1 R.2.1.2.2.1 km1 ⟨v0 (k := 2) (by decide) rfl rfl, fun z => absurd (by rw [ht.2.2.1] at z; exact z) (nI_ge ht2 (by omega)), fun _ => ⟨l1, ?_⟩⟩
        rw [nI_clamp (show s < 2 ^ 31 by omega), nI_clamp (show t < 2 ^ 31 by omega)]
        refine ⟨fun z => m110 (fun w => z w.1.1), fun z1 => ⟨l2, fun z => m110 (fun w => z (w.2.1.trans w.1.1)), fun z2 => ⟨fun z => m110 (fun w => z w.1.2.1), fun z3 => ⟨fun z => m110 (fun w => z (w.2.2.1.trans w.1.2.1)), fun z4 => ⟨fun z => m163 _ (fun w => z w.1.2.2), fun z5 => ⟨fun z => m163 _ (fun w => z w.2.2.2.1), fun z6 => ⟨fun z => m163 _ (fun w => z w.2.2.2.2.1), fun z7 => ⟨fun z => m2 (fun w => w.2.2.2.2.2 (by rw [Int32.and_comm]; exact z)), fun z8 => ?_⟩⟩⟩⟩⟩⟩⟩⟩
        rw [nI_1]
        exact m1 _ (if_pos ⟨⟨z1, z3, z5⟩, z2.trans z1.symm, z4.trans z3.symm, z6, z7, fun z => z8 (by rw [Int32.and_comm]; exact z)⟩)
  refine v_X7_pairs_0 k0 R.1.2.2.1 (by decide) R.1.2.1 (ks0 E.1) ?_
  rw [hc, hn.1]
  refine ⟨fun z => by rwa [if_neg (fun w => z w.1)] at rf, fun z => ⟨fun z2 => by rwa [if_neg (fun w => z2 w.2.1)] at rf, fun z2 => ⟨fun z3 => ?_, fun z3 => by rwa [if_neg (fun w => z3 w.2.2)] at rf⟩⟩⟩
  rw [if_pos ⟨z, z2, z3⟩] at rf
  have hb : ¬ b = -1 := by
    intro e
    rw [e] at z2
    exact absurd z2.2.1 (by decide)
  refine lp_acc (stP (gi x 718) S a b c) (fun s n => GI mX7_pairs 35 [some (.ref 0), some (.int a), some (.int b), some (.int c), some (.int n), some (.int (nI s)), none] [] KW x _) S 0 ?_ (fun s n hs n1 => ?_)
  · exact v_X7_pairs_35 k0 R.1.2.1 (ks0 E.1) E.2.1.2.2.1 (ks3 E.1) ⟨fun _ => rf, fun z => absurd (by rw [hn.2.2.1]; exact Int32.le_refl _) z⟩
  · obtain ⟨p, e1, e2, e3, e4, -, e6⟩ := E.ser hs
    refine v_X7_pairs_35 k0 R.1.2.1 (ks0 E.1) E.2.1.2.2.1 (ks3 E.1) ⟨fun z => absurd (by rw [hn.2.2.1] at z; exact z) (nI_ge hs (by omega)), fun _ => ⟨vp_in_nI (by omega) (by decide), p, by rw [nI_clamp (by omega)]; exact e1, e2, ?_⟩⟩
    rw [e3.1 0 (by decide) (by decide), e3.1 1 (by decide) (by decide), e3.1 3 (by decide) (by decide), nI_1]
    refine ⟨fun z => n1 _ (if_neg (fun w => z ⟨w.1, Or.inr w.2.1⟩)), fun z4 => ⟨fun z => n1 _ (if_neg (fun w => z w.2.2)), fun z5 => ?_⟩⟩
    exact sp_X7_departuresBehind R.1 E hs e2 e3 (n1 _ (if_pos ⟨z4.1, z4.2.resolve_left hb, z5⟩))


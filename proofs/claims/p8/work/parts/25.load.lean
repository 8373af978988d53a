abbrev cB (T : TT) (s w : Nat) (d h k b : Int32) : Prop := ¬ nI s = b ∧ so T s 1 = d ∧ so T s 2 = h ∧ (k ≤ 0 ∨ so T s 3 = k - 1) ∧ tb (bas T s) w = true
/-- LOAD: of a kind (0 all, 1 in, 2 out), but one -/
def ldB (T : TT) (S w : Nat) (d h k b : Int32) : Int32 := sumT (fun s => if cB T s w d h k b then 1 else 0) S
theorem ldB_t {T : TT} {s w : Nat} {d h k b : Int32} (z : cB T s w d h k b) : ldB T (s + 1) w d h k b = ldB T s w d h k b + 1 := by
  show sumT _ s + (if cB T s w d h k b then 1 else 0) = _
  rw [if_pos z]
  rfl
theorem ldB_f {T : TT} {s w : Nat} {d h k b : Int32} (z : ¬ cB T s w d h k b) : ldB T (s + 1) w d h k b = ldB T s w d h k b := by
  show sumT _ s + (if cB T s w d h k b then 1 else 0) = _
  rw [if_neg z, Int32.add_zero]
  rfl
theorem SEA.ser {x : Cn} {q : Nat} {T : TT} {W C S A N s : Nat} (E : SEA x q T W C S A N) (hs : s < S) : ∃ p, gr x (q + 3) s = some p ∧ kk KW p = some (5, 0) ∧ SER x p T s ∧ f_held x p = bas T s ∧ f_open x p = so T s 7 ∧ Wse T C W s := by
  obtain ⟨h1, ⟨-, -, -, -, -, h2, -⟩, ⟨-, -, -, -, -, -, h3, -⟩, ⟨-, -, -, -, -, -, hS, -, -, -, -, -, h4, -⟩⟩ := E
  obtain ⟨j, hj, e⟩ := h2 s (by omega)
  have hse := h3 s _ hs e
  exact ⟨_, e, ks6 h1 hj, hse, hse.held (h4 s hs), hse.opn (h4 s hs), h4 s hs⟩
theorem SEA.ask {x : Cn} {q : Nat} {T : TT} {W C S A N s : Nat} (E : SEA x q T W C S A N) (hs : s < A) : ∃ p, gr x (q + 4) s = some p ∧ kk KW p = some (0, 0) ∧ ASR x p T s ∧ Was T C W s := by
  obtain ⟨h1, ⟨-, -, -, -, -, -, -, h2, -⟩, ⟨-, -, -, -, -, -, -, h3⟩, ⟨-, -, -, -, -, -, -, -, hA, -, -, -, -, h4⟩⟩ := E
  obtain ⟨j, hj, e⟩ := h2 s (by omega)
  exact ⟨_, e, ks30 h1 hj, h3 s _ hs e, h4 s hs⟩
theorem SEA.nums {x : Cn} {q : Nat} {T : TT} {W C S A N : Nat} (E : SEA x q T W C S A N) : gi x q 0 = nI W ∧ gi x q 1 = nI N ∧ gi x q 3 = nI S ∧ gi x q 4 = nI A ∧ W ≤ 30 ∧ C ≤ 8 ∧ S ≤ 24 ∧ A ≤ 24 ∧ N ≤ W := by
  obtain ⟨h1, -, ⟨v0, v1, -, v3, v4, -⟩, ⟨w0, -, w1, -, w2, w3, w4, w5, w6, w7, w8, -⟩⟩ := E
  exact ⟨v0.trans w0, v1.trans w7, v3.trans w3, v4.trans w5, w1, w2, w4, w6, w8⟩
set_option maxHeartbeats 2000000 in
theorem v_X4_loadOf_0 {K : Sh} {x : Cn} {Q : Int32 → Cn → Prop} {b0 : Nat} {l1 : Int32} {l2 : Int32} {l3 : Int32}   (K0 : GI mX4_loadOf 6 [some (.ref b0), some (.int l1), some (.int l2), some (.int l3), some (.int 0), some (.int 0)] [] K x Q) : mSI mX4_loadOf [.ref b0, .int l1, .int l2, .int l3] K x Q := by
  refine s_I (by decide) (by simp [Value.category]) (Nat.le_of_ble_eq_true rfl) ?_
  show mGM mX4_loadOf 0 [some (.ref b0), some (.int l1), some (.int l2), some (.int l3), none, none] [] (hp K x) (PI K Q)
  refine r_iconst (pc := 0) (v := 0) dX4_loadOf_0 (by decide) ?_
  refine r_istore (pc := 1) dX4_loadOf_1 (by decide) ?_
  refine r_iconst (pc := 3) (L := [some (.ref b0), some (.int l1), some (.int l2), some (.int l3), some (.int 0), none]) (v := 0) dX4_loadOf_3 (by decide) ?_
  refine r_istore (pc := 4) dX4_loadOf_4 (by decide) ?_
  exact r_le (L' := [some (.ref b0), some (.int l1), some (.int l2), some (.int l3), some (.int 0), some (.int 0)]) ⟨rfl, ⟨rfl, ⟨rfl, ⟨rfl, ⟨rfl, ⟨rfl, trivial⟩⟩⟩⟩⟩⟩ K0
set_option maxHeartbeats 2000000 in
theorem v_X4_loadOf_6 {K : Sh} {x : Cn} {Q : Int32 → Cn → Prop} {b0 : Nat} {l1 : Int32} {l2 : Int32} {l3 : Int32} {l4 : Int32} {l5 : Int32} {b0_7 : Nat} {n_b0_7 : Nat} (k_b0 : kk K b0 = some (4, 0)) (g_b0_7 : gr x b0 7 = some b0_7) (k_b0_7 : kk K b0_7 = some (23, n_b0_7)) (K0 : ((gi x b0 3) ≤ l5 → (Q l4 x)) ∧ (¬ (gi x b0 3) ≤ l5 → (vp_in l5 n_b0_7 ∧ (∃ c_3 : Nat, gr x b0_7 ((l5 : Int32).toNatClampNeg) = some c_3 ∧ (kk K c_3 = some (5, 0) ∧ ((¬ (gi x c_3 1 = l2 ∧ gi x c_3 2 = l3 ∧ f_bit (f_held x c_3) l1) → (GI mX4_loadOf 6 [some (.ref b0), some (.int l1), some (.int l2), some (.int l3), some (.int l4), some (.int (l5 + 1))] [] K x Q)) ∧ ((gi x c_3 1 = l2 ∧ gi x c_3 2 = l3 ∧ f_bit (f_held x c_3) l1) → (GI mX4_loadOf 6 [some (.ref b0), some (.int l1), some (.int l2), some (.int l3), some (.int (l4 + 1)), some (.int (l5 + 1))] [] K x Q)))))))) : GI mX4_loadOf 6 [some (.ref b0), some (.int l1), some (.int l2), some (.int l3), some (.int l4), some (.int l5)] [] K x Q := by
  show mGM mX4_loadOf 6 [some (.ref b0), some (.int l1), some (.int l2), some (.int l3), some (.int l4), some (.int l5)] [] (hp K x) (PI K Q)
  refine r_iload (pc := 6) dX4_loadOf_6 rfl ?_
  refine r_aload_n (pc := 8) dX4_loadOf_8 rfl ?_
  refine s_getI (pc := 9) dX4_loadOf_9 fl_X4_21 rfl k_b0 ?_
  refine r_icmp_ge (pc := 12) (tgt := 40) dX4_loadOf_12 (by decide) (fun q => ?_) (fun q => ?_)
  · have K0 := K0.1 q
    refine r_iload (pc := 40) dX4_loadOf_40 rfl ?_
    exact s_iret rfl dX4_loadOf_42 K0
  · have K0 := K0.2 q
    refine r_aload_n (pc := 15) dX4_loadOf_15 rfl ?_
    refine s_getR (pc := 16) dX4_loadOf_16 fl_X4_36 rfl k_b0 g_b0_7 ?_
    refine r_iload (pc := 19) dX4_loadOf_19 rfl ?_
    obtain ⟨i_2, K0⟩ := K0
    obtain ⟨c_3, g_4, K0⟩ := K0
    refine s_aald (pc := 21) dX4_loadOf_21 (by decide) rfl k_b0_7 i_2 g_4 ?_
    refine r_iload_n (pc := 22) dX4_loadOf_22 rfl ?_
    refine r_iload_n (pc := 23) dX4_loadOf_23 rfl ?_
    refine r_iload_n (pc := 24) dX4_loadOf_24 rfl ?_
    obtain ⟨e_5, K0⟩ := K0
    refine s_VI (pc := 25) mX5_fills (ci := 5) (a := c_3) (As := [.int l1, .int l2, .int l3]) dX4_loadOf_25 lk_X4_71 in_X5_fills mo_X5_fills ⟨by decide, rfl⟩ ⟨by decide, by decide⟩ (Nat.le_of_ble_eq_true rfl) e_5 (sp_X5_fills e_5 ?_)
    refine r_if_eq (pc := 28) (tgt := 34) dX4_loadOf_28 (by decide) (fun q => ?_) (fun q => ?_)
    · have q := (b2i_z _).mp q
      have K0 := K0.1 q
      refine r_iinc (pc := 34) (v := l5 + 1) dX4_loadOf_34 rfl rfl (by decide) ?_
      refine r_goto (pc := 37) (L := [some (.ref b0), some (.int l1), some (.int l2), some (.int l3), some (.int l4), some (.int (l5 + 1))]) (tgt := 6) dX4_loadOf_37 (by decide) ?_
      exact r_le (L' := [some (.ref b0), some (.int l1), some (.int l2), some (.int l3), some (.int l4), some (.int (l5 + 1))]) ⟨rfl, ⟨rfl, ⟨rfl, ⟨rfl, ⟨rfl, ⟨rfl, trivial⟩⟩⟩⟩⟩⟩ K0
    · have q := b2i_nz q
      have K0 := K0.2 q
      refine r_iinc (pc := 31) (v := l4 + 1) dX4_loadOf_31 rfl rfl (by decide) ?_
      refine r_iinc (pc := 34) (L := [some (.ref b0), some (.int l1), some (.int l2), some (.int l3), some (.int (l4 + 1)), some (.int l5)]) (v := l5 + 1) dX4_loadOf_34 rfl rfl (by decide) ?_
      refine r_goto (pc := 37) (L := [some (.ref b0), some (.int l1), some (.int l2), some (.int l3), some (.int (l4 + 1)), some (.int (l5 + 1))]) (tgt := 6) dX4_loadOf_37 (by decide) ?_
      exact r_le (L' := [some (.ref b0), some (.int l1), some (.int l2), some (.int l3), some (.int (l4 + 1)), some (.int (l5 + 1))]) ⟨rfl, ⟨rfl, ⟨rfl, ⟨rfl, ⟨rfl, ⟨rfl, trivial⟩⟩⟩⟩⟩⟩ K0
section
variable {x : Cn} {Q : Int32 → Cn → Prop} {q : Nat} {T : TT} {W C S A N : Nat}
theorem lp_X4_loadOf (E : SEA x q T W C S A N) {w : Nat} {d h : Int32} (hw : w < 32) (k : Q (ldB T S w d h 0 (-1)) x) : ∀ (n s : Nat) (acc : Int32), s + n = S → acc = ldB T s w d h 0 (-1) → GI mX4_loadOf 6 [some (.ref q), some (.int (nI w)), some (.int d), some (.int h), some (.int acc), some (.int (nI s))] [] KW x Q := by
  have hn := E.nums
  intro n
  induction n with
  | zero =>
    intro s acc hs ha
    refine v_X4_loadOf_6 (ks0 E.1) E.2.1.2.2.1 (ks3 E.1) ⟨fun _ => ?_, fun z => ?_⟩
    · rw [ha, show s = S by omega]
      exact k
    · exact absurd (by rw [hn.2.2.1]; exact nI_le (by omega) (by omega)) z
  | succ n ih =>
    intro s acc hs ha
    refine v_X4_loadOf_6 (ks0 E.1) E.2.1.2.2.1 (ks3 E.1) ⟨fun z => ?_, fun _ => ?_⟩
    · rw [hn.2.2.1] at z
      exact absurd z (nI_ge (by omega) (by omega))
    · obtain ⟨p, e1, e2, e3, e4, -, -⟩ := E.ser (s := s) (by omega)
      refine ⟨vp_in_nI (by omega) (by decide), p, by rw [nI_clamp (by omega)]; exact e1, e2, ?_⟩
      rw [e3.1 1 (by decide) (by decide), e3.1 2 (by decide) (by decide), e4, f_bit_tb _ hw, nI_1]
      have hm : ¬ nI s = -1 := fun z => absurd (show (0 : Int32) ≤ -1 by rw [← z]; exact nI_pos' (by omega)) (by decide)
      refine ⟨fun z => ih (s + 1) acc (by omega) ?_, fun z => ih (s + 1) (acc + 1) (by omega) ?_⟩
      · rw [ldB_f (fun g => z ⟨g.2.1, g.2.2.1, g.2.2.2.2⟩)]
        exact ha
      · rw [ldB_t ⟨hm, z.1, z.2.1, Or.inl (by decide), z.2.2⟩, ha]
theorem sp_X4_loadOf (E : SEA x q T W C S A N) {w : Nat} {d h : Int32} (hw : w < 32) (k : Q (ldB T S w d h 0 (-1)) x) : mSI mX4_loadOf [.ref q, .int (nI w), .int d, .int h] KW x Q := v_X4_loadOf_0 (lp_X4_loadOf E hw k S 0 0 (by omega) rfl)
end
set_option maxHeartbeats 2000000 in
theorem v_X4_loadIn_0 {K : Sh} {x : Cn} {Q : Int32 → Cn → Prop} {b0 : Nat} {l1 : Int32} {l2 : Int32} {l3 : Int32}   (K0 : GI mX4_loadIn 6 [some (.ref b0), some (.int l1), some (.int l2), some (.int l3), some (.int 0), some (.int 0)] [] K x Q) : mSI mX4_loadIn [.ref b0, .int l1, .int l2, .int l3] K x Q := by
  refine s_I (by decide) (by simp [Value.category]) (Nat.le_of_ble_eq_true rfl) ?_
  show mGM mX4_loadIn 0 [some (.ref b0), some (.int l1), some (.int l2), some (.int l3), none, none] [] (hp K x) (PI K Q)
  refine r_iconst (pc := 0) (v := 0) dX4_loadIn_0 (by decide) ?_
  refine r_istore (pc := 1) dX4_loadIn_1 (by decide) ?_
  refine r_iconst (pc := 3) (L := [some (.ref b0), some (.int l1), some (.int l2), some (.int l3), some (.int 0), none]) (v := 0) dX4_loadIn_3 (by decide) ?_
  refine r_istore (pc := 4) dX4_loadIn_4 (by decide) ?_
  exact r_le (L' := [some (.ref b0), some (.int l1), some (.int l2), some (.int l3), some (.int 0), some (.int 0)]) ⟨rfl, ⟨rfl, ⟨rfl, ⟨rfl, ⟨rfl, ⟨rfl, trivial⟩⟩⟩⟩⟩⟩ K0
set_option maxHeartbeats 2000000 in
theorem v_X4_loadIn_6 {K : Sh} {x : Cn} {Q : Int32 → Cn → Prop} {b0 : Nat} {l1 : Int32} {l2 : Int32} {l3 : Int32} {l4 : Int32} {l5 : Int32} {b0_7 : Nat} {n_b0_7 : Nat} (k_b0 : kk K b0 = some (4, 0)) (g_b0_7 : gr x b0 7 = some b0_7) (k_b0_7 : kk K b0_7 = some (23, n_b0_7)) (K0 : ((gi x b0 3) ≤ l5 → (Q l4 x)) ∧ (¬ (gi x b0 3) ≤ l5 → (vp_in l5 n_b0_7 ∧ (∃ c_3 : Nat, gr x b0_7 ((l5 : Int32).toNatClampNeg) = some c_3 ∧ (kk K c_3 = some (5, 0) ∧ ((¬ (gi x c_3 3) = 0 → (GI mX4_loadIn 6 [some (.ref b0), some (.int l1), some (.int l2), some (.int l3), some (.int l4), some (.int (l5 + 1))] [] K x Q)) ∧ ((gi x c_3 3) = 0 → ((¬ (gi x c_3 1 = l2 ∧ gi x c_3 2 = l3 ∧ f_bit (f_held x c_3) l1) → (GI mX4_loadIn 6 [some (.ref b0), some (.int l1), some (.int l2), some (.int l3), some (.int l4), some (.int (l5 + 1))] [] K x Q)) ∧ ((gi x c_3 1 = l2 ∧ gi x c_3 2 = l3 ∧ f_bit (f_held x c_3) l1) → (GI mX4_loadIn 6 [some (.ref b0), some (.int l1), some (.int l2), some (.int l3), some (.int (l4 + 1)), some (.int (l5 + 1))] [] K x Q)))))))))) : GI mX4_loadIn 6 [some (.ref b0), some (.int l1), some (.int l2), some (.int l3), some (.int l4), some (.int l5)] [] K x Q := by
  show mGM mX4_loadIn 6 [some (.ref b0), some (.int l1), some (.int l2), some (.int l3), some (.int l4), some (.int l5)] [] (hp K x) (PI K Q)
  refine r_iload (pc := 6) dX4_loadIn_6 rfl ?_
  refine r_aload_n (pc := 8) dX4_loadIn_8 rfl ?_
  refine s_getI (pc := 9) dX4_loadIn_9 fl_X4_21 rfl k_b0 ?_
  refine r_icmp_ge (pc := 12) (tgt := 53) dX4_loadIn_12 (by decide) (fun q => ?_) (fun q => ?_)
  · have K0 := K0.1 q
    refine r_iload (pc := 53) dX4_loadIn_53 rfl ?_
    exact s_iret rfl dX4_loadIn_55 K0
  · have K0 := K0.2 q
    refine r_aload_n (pc := 15) dX4_loadIn_15 rfl ?_
    refine s_getR (pc := 16) dX4_loadIn_16 fl_X4_36 rfl k_b0 g_b0_7 ?_
    refine r_iload (pc := 19) dX4_loadIn_19 rfl ?_
    obtain ⟨i_2, K0⟩ := K0
    obtain ⟨c_3, g_4, K0⟩ := K0
    refine s_aald (pc := 21) dX4_loadIn_21 (by decide) rfl k_b0_7 i_2 g_4 ?_
    obtain ⟨e_5, K0⟩ := K0
    refine s_getI (pc := 22) dX4_loadIn_22 fl_X4_75 rfl e_5 ?_
    refine r_if_ne (pc := 25) (tgt := 47) dX4_loadIn_25 (by decide) (fun q => ?_) (fun q => ?_)
    · have K0 := K0.1 q
      refine r_iinc (pc := 47) (v := l5 + 1) dX4_loadIn_47 rfl rfl (by decide) ?_
      refine r_goto (pc := 50) (L := [some (.ref b0), some (.int l1), some (.int l2), some (.int l3), some (.int l4), some (.int (l5 + 1))]) (tgt := 6) dX4_loadIn_50 (by decide) ?_
      exact r_le (L' := [some (.ref b0), some (.int l1), some (.int l2), some (.int l3), some (.int l4), some (.int (l5 + 1))]) ⟨rfl, ⟨rfl, ⟨rfl, ⟨rfl, ⟨rfl, ⟨rfl, trivial⟩⟩⟩⟩⟩⟩ K0
    · have K0 := K0.2 q
      refine r_aload_n (pc := 28) dX4_loadIn_28 rfl ?_
      refine s_getR (pc := 29) dX4_loadIn_29 fl_X4_36 rfl k_b0 g_b0_7 ?_
      refine r_iload (pc := 32) dX4_loadIn_32 rfl ?_
      refine s_aald (pc := 34) dX4_loadIn_34 (by decide) rfl k_b0_7 i_2 g_4 ?_
      refine r_iload_n (pc := 35) dX4_loadIn_35 rfl ?_
      refine r_iload_n (pc := 36) dX4_loadIn_36 rfl ?_
      refine r_iload_n (pc := 37) dX4_loadIn_37 rfl ?_
      refine s_VI (pc := 38) mX5_fills (ci := 5) (a := c_3) (As := [.int l1, .int l2, .int l3]) dX4_loadIn_38 lk_X4_71 in_X5_fills mo_X5_fills ⟨by decide, rfl⟩ ⟨by decide, by decide⟩ (Nat.le_of_ble_eq_true rfl) e_5 (sp_X5_fills e_5 ?_)
      refine r_if_eq (pc := 41) (tgt := 47) dX4_loadIn_41 (by decide) (fun q => ?_) (fun q => ?_)
      · have q := (b2i_z _).mp q
        have K0 := K0.1 q
        refine r_iinc (pc := 47) (v := l5 + 1) dX4_loadIn_47 rfl rfl (by decide) ?_
        refine r_goto (pc := 50) (L := [some (.ref b0), some (.int l1), some (.int l2), some (.int l3), some (.int l4), some (.int (l5 + 1))]) (tgt := 6) dX4_loadIn_50 (by decide) ?_
        exact r_le (L' := [some (.ref b0), some (.int l1), some (.int l2), some (.int l3), some (.int l4), some (.int (l5 + 1))]) ⟨rfl, ⟨rfl, ⟨rfl, ⟨rfl, ⟨rfl, ⟨rfl, trivial⟩⟩⟩⟩⟩⟩ K0
      · have q := b2i_nz q
        have K0 := K0.2 q
        refine r_iinc (pc := 44) (v := l4 + 1) dX4_loadIn_44 rfl rfl (by decide) ?_
        refine r_iinc (pc := 47) (L := [some (.ref b0), some (.int l1), some (.int l2), some (.int l3), some (.int (l4 + 1)), some (.int l5)]) (v := l5 + 1) dX4_loadIn_47 rfl rfl (by decide) ?_
        refine r_goto (pc := 50) (L := [some (.ref b0), some (.int l1), some (.int l2), some (.int l3), some (.int (l4 + 1)), some (.int (l5 + 1))]) (tgt := 6) dX4_loadIn_50 (by decide) ?_
        exact r_le (L' := [some (.ref b0), some (.int l1), some (.int l2), some (.int l3), some (.int (l4 + 1)), some (.int (l5 + 1))]) ⟨rfl, ⟨rfl, ⟨rfl, ⟨rfl, ⟨rfl, ⟨rfl, trivial⟩⟩⟩⟩⟩⟩ K0
section
variable {x : Cn} {Q : Int32 → Cn → Prop} {q : Nat} {T : TT} {W C S A N : Nat}
theorem lp_X4_loadIn (E : SEA x q T W C S A N) {w : Nat} {d h : Int32} (hw : w < 32) (k : Q (ldB T S w d h 1 (-1)) x) : ∀ (n s : Nat) (acc : Int32), s + n = S → acc = ldB T s w d h 1 (-1) → GI mX4_loadIn 6 [some (.ref q), some (.int (nI w)), some (.int d), some (.int h), some (.int acc), some (.int (nI s))] [] KW x Q := by
  have hn := E.nums
  intro n
  induction n with
  | zero =>
    intro s acc hs ha
    refine v_X4_loadIn_6 (ks0 E.1) E.2.1.2.2.1 (ks3 E.1) ⟨fun _ => ?_, fun z => ?_⟩
    · rw [ha, show s = S by omega]
      exact k
    · exact absurd (by rw [hn.2.2.1]; exact nI_le (by omega) (by omega)) z
  | succ n ih =>
    intro s acc hs ha
    refine v_X4_loadIn_6 (ks0 E.1) E.2.1.2.2.1 (ks3 E.1) ⟨fun z => ?_, fun _ => ?_⟩
    · rw [hn.2.2.1] at z
      exact absurd z (nI_ge (by omega) (by omega))
    · obtain ⟨p, e1, e2, e3, e4, -, -⟩ := E.ser (s := s) (by omega)
      refine ⟨vp_in_nI (by omega) (by decide), p, by rw [nI_clamp (by omega)]; exact e1, e2, ?_⟩
      rw [e3.1 1 (by decide) (by decide), e3.1 2 (by decide) (by decide), e3.1 3 (by decide) (by decide), e4, f_bit_tb _ hw, nI_1]
      have hm : ¬ nI s = -1 := fun z => absurd (show (0 : Int32) ≤ -1 by rw [← z]; exact nI_pos' (by omega)) (by decide)
      have hk : ((1 : Int32) ≤ 0 ∨ so T s 3 = 1 - 1) ↔ so T s 3 = 0 := ⟨fun z => z.elim (fun z => absurd z (by decide)) (fun z => z), fun z => Or.inr z⟩
      refine ⟨fun z => ih (s + 1) acc (by omega) ?_, fun z1 => ⟨fun z => ih (s + 1) acc (by omega) ?_, fun z => ih (s + 1) (acc + 1) (by omega) ?_⟩⟩
      · rw [ldB_f (fun g => z (hk.mp g.2.2.2.1))]
        exact ha
      · rw [ldB_f (fun g => z ⟨g.2.1, g.2.2.1, g.2.2.2.2⟩)]
        exact ha
      · rw [ldB_t ⟨hm, z.1, z.2.1, hk.mpr z1, z.2.2⟩, ha]
theorem sp_X4_loadIn (E : SEA x q T W C S A N) {w : Nat} {d h : Int32} (hw : w < 32) (k : Q (ldB T S w d h 1 (-1)) x) : mSI mX4_loadIn [.ref q, .int (nI w), .int d, .int h] KW x Q := v_X4_loadIn_0 (lp_X4_loadIn E hw k S 0 0 (by omega) rfl)
end
set_option maxHeartbeats 2000000 in
theorem v_X8_loadBut_0 {K : Sh} {x : Cn} {Q : Int32 → Cn → Prop} {b0 : Nat} {l1 : Int32} {l2 : Int32} {l3 : Int32} {l4 : Int32} {l5 : Int32}   (K0 : GI mX8_loadBut 6 [some (.ref b0), some (.int l1), some (.int l2), some (.int l3), some (.int l4), some (.int l5), some (.int 0), some (.int 0)] [] K x Q) : mSI mX8_loadBut [.ref b0, .int l1, .int l2, .int l3, .int l4, .int l5] K x Q := by
  refine s_I (by decide) (by simp [Value.category]) (Nat.le_of_ble_eq_true rfl) ?_
  show mGM mX8_loadBut 0 [some (.ref b0), some (.int l1), some (.int l2), some (.int l3), some (.int l4), some (.int l5), none, none] [] (hp K x) (PI K Q)
  refine r_iconst (pc := 0) (v := 0) dX8_loadBut_0 (by decide) ?_
  refine r_istore (pc := 1) dX8_loadBut_1 (by decide) ?_
  refine r_iconst (pc := 3) (L := [some (.ref b0), some (.int l1), some (.int l2), some (.int l3), some (.int l4), some (.int l5), some (.int 0), none]) (v := 0) dX8_loadBut_3 (by decide) ?_
  refine r_istore (pc := 4) dX8_loadBut_4 (by decide) ?_
  exact r_le (L' := [some (.ref b0), some (.int l1), some (.int l2), some (.int l3), some (.int l4), some (.int l5), some (.int 0), some (.int 0)]) ⟨rfl, ⟨rfl, ⟨rfl, ⟨rfl, ⟨rfl, ⟨rfl, ⟨rfl, ⟨rfl, trivial⟩⟩⟩⟩⟩⟩⟩⟩ K0
set_option maxHeartbeats 2000000 in
theorem v_X8_loadBut_6 {K : Sh} {x : Cn} {Q : Int32 → Cn → Prop} {b0 : Nat} {l1 : Int32} {l2 : Int32} {l3 : Int32} {l4 : Int32} {l5 : Int32} {l6 : Int32} {l7 : Int32} {b0_3 : Nat} {n_b0_3 : Nat} (k_b0 : kk K b0 = some (8, 0)) (g_b0_3 : gr x b0 3 = some b0_3) (k_b0_3 : kk K b0_3 = some (20, n_b0_3)) (K0 : vp_in 2 n_b0_3 ∧ (((gi x b0_3 2) ≤ l7 → (Q l6 x)) ∧ (¬ (gi x b0_3 2) ≤ l7 → ((l7 = l5 → (GI mX8_loadBut 6 [some (.ref b0), some (.int l1), some (.int l2), some (.int l3), some (.int l4), some (.int l5), some (.int l6), some (.int (l7 + 1))] [] K x Q)) ∧ (¬ l7 = l5 → ((l24 l7 n_b0_3) ∧ ((¬ (so (gi x b0_3) (l7 : Int32).toNatClampNeg 1) = l2 → (GI mX8_loadBut 6 [some (.ref b0), some (.int l1), some (.int l2), some (.int l3), some (.int l4), some (.int l5), some (.int l6), some (.int (l7 + 1))] [] K x Q)) ∧ ((so (gi x b0_3) (l7 : Int32).toNatClampNeg 1) = l2 → ((¬ (so (gi x b0_3) (l7 : Int32).toNatClampNeg 2) = l3 → (GI mX8_loadBut 6 [some (.ref b0), some (.int l1), some (.int l2), some (.int l3), some (.int l4), some (.int l5), some (.int l6), some (.int (l7 + 1))] [] K x Q)) ∧ ((so (gi x b0_3) (l7 : Int32).toNatClampNeg 2) = l3 → ((l4 ≤ 0 → ((¬ (f_has (bas (gi x b0_3) (l7 : Int32).toNatClampNeg) l1) → (GI mX8_loadBut 6 [some (.ref b0), some (.int l1), some (.int l2), some (.int l3), some (.int l4), some (.int l5), some (.int (l6 + 0)), some (.int (l7 + 1))] [] K x Q)) ∧ ((f_has (bas (gi x b0_3) (l7 : Int32).toNatClampNeg) l1) → (GI mX8_loadBut 6 [some (.ref b0), some (.int l1), some (.int l2), some (.int l3), some (.int l4), some (.int l5), some (.int (l6 + 1)), some (.int (l7 + 1))] [] K x Q)))) ∧ (¬ l4 ≤ 0 → (((so (gi x b0_3) (l7 : Int32).toNatClampNeg 3) = (l4 - 1) → ((¬ (f_has (bas (gi x b0_3) (l7 : Int32).toNatClampNeg) l1) → (GI mX8_loadBut 6 [some (.ref b0), some (.int l1), some (.int l2), some (.int l3), some (.int l4), some (.int l5), some (.int (l6 + 0)), some (.int (l7 + 1))] [] K x Q)) ∧ ((f_has (bas (gi x b0_3) (l7 : Int32).toNatClampNeg) l1) → (GI mX8_loadBut 6 [some (.ref b0), some (.int l1), some (.int l2), some (.int l3), some (.int l4), some (.int l5), some (.int (l6 + 1)), some (.int (l7 + 1))] [] K x Q)))) ∧ (¬ (so (gi x b0_3) (l7 : Int32).toNatClampNeg 3) = (l4 - 1) → (GI mX8_loadBut 6 [some (.ref b0), some (.int l1), some (.int l2), some (.int l3), some (.int l4), some (.int l5), some (.int l6), some (.int (l7 + 1))] [] K x Q))))))))))))))) : GI mX8_loadBut 6 [some (.ref b0), some (.int l1), some (.int l2), some (.int l3), some (.int l4), some (.int l5), some (.int l6), some (.int l7)] [] K x Q := by
  show mGM mX8_loadBut 6 [some (.ref b0), some (.int l1), some (.int l2), some (.int l3), some (.int l4), some (.int l5), some (.int l6), some (.int l7)] [] (hp K x) (PI K Q)
  refine r_iload (pc := 6) dX8_loadBut_6 rfl ?_
  refine r_aload_n (pc := 8) dX8_loadBut_8 rfl ?_
  refine s_getR (pc := 9) dX8_loadBut_9 fl_X8_16 rfl k_b0 g_b0_3 ?_
  refine r_iconst (pc := 12) (v := 2) dX8_loadBut_12 (by decide) ?_
  obtain ⟨i_1, K0⟩ := K0
  refine s_iald (pc := 13) dX8_loadBut_13 k_b0_3 i_1 ?_
  refine r_icmp_ge (pc := 14) (tgt := 97) dX8_loadBut_14 (by decide) (fun q => ?_) (fun q => ?_)
  · have K0 := K0.1 q
    refine r_iload (pc := 97) dX8_loadBut_97 rfl ?_
    exact s_iret rfl dX8_loadBut_99 K0
  · have K0 := K0.2 q
    refine r_iload (pc := 17) dX8_loadBut_17 rfl ?_
    refine r_iload (pc := 19) dX8_loadBut_19 rfl ?_
    refine r_icmp_eq (pc := 21) (tgt := 91) dX8_loadBut_21 (by decide) (fun q => ?_) (fun q => ?_)
    · have K0 := K0.1 q
      refine r_iinc (pc := 91) (v := l7 + 1) dX8_loadBut_91 rfl rfl (by decide) ?_
      refine r_goto (pc := 94) (L := [some (.ref b0), some (.int l1), some (.int l2), some (.int l3), some (.int l4), some (.int l5), some (.int l6), some (.int (l7 + 1))]) (tgt := 6) dX8_loadBut_94 (by decide) ?_
      exact r_le (L' := [some (.ref b0), some (.int l1), some (.int l2), some (.int l3), some (.int l4), some (.int l5), some (.int l6), some (.int (l7 + 1))]) ⟨rfl, ⟨rfl, ⟨rfl, ⟨rfl, ⟨rfl, ⟨rfl, ⟨rfl, ⟨rfl, trivial⟩⟩⟩⟩⟩⟩⟩⟩ K0
    · have K0 := K0.2 q
      refine r_aload_n (pc := 24) dX8_loadBut_24 rfl ?_
      refine r_iload (pc := 25) dX8_loadBut_25 rfl ?_
      refine r_iconst (pc := 27) (v := 1) dX8_loadBut_27 (by decide) ?_
      obtain ⟨p_4, K0⟩ := K0
      refine s_VI (pc := 28) mX8_one (ci := 8) (a := b0) (As := [.int l7, .int 1]) dX8_loadBut_28 lk_X8_67 in_X8_one mo_X8_one ⟨by decide, rfl⟩ ⟨by decide, by decide⟩ (Nat.le_of_ble_eq_true rfl) k_b0 (sr_X8_one k_b0 g_b0_3 k_b0_3 p_4 ⟨by decide, by decide⟩ ?_)
      refine r_iload_n (pc := 31) dX8_loadBut_31 rfl ?_
      refine r_icmp_ne (pc := 32) (tgt := 91) dX8_loadBut_32 (by decide) (fun q => ?_) (fun q => ?_)
      · have K0 := K0.1 q
        refine r_iinc (pc := 91) (v := l7 + 1) dX8_loadBut_91 rfl rfl (by decide) ?_
        refine r_goto (pc := 94) (L := [some (.ref b0), some (.int l1), some (.int l2), some (.int l3), some (.int l4), some (.int l5), some (.int l6), some (.int (l7 + 1))]) (tgt := 6) dX8_loadBut_94 (by decide) ?_
        exact r_le (L' := [some (.ref b0), some (.int l1), some (.int l2), some (.int l3), some (.int l4), some (.int l5), some (.int l6), some (.int (l7 + 1))]) ⟨rfl, ⟨rfl, ⟨rfl, ⟨rfl, ⟨rfl, ⟨rfl, ⟨rfl, ⟨rfl, trivial⟩⟩⟩⟩⟩⟩⟩⟩ K0
      · have K0 := K0.2 q
        refine r_aload_n (pc := 35) dX8_loadBut_35 rfl ?_
        refine r_iload (pc := 36) dX8_loadBut_36 rfl ?_
        refine r_iconst (pc := 38) (v := 2) dX8_loadBut_38 (by decide) ?_
        refine s_VI (pc := 39) mX8_one (ci := 8) (a := b0) (As := [.int l7, .int 2]) dX8_loadBut_39 lk_X8_67 in_X8_one mo_X8_one ⟨by decide, rfl⟩ ⟨by decide, by decide⟩ (Nat.le_of_ble_eq_true rfl) k_b0 (sr_X8_one k_b0 g_b0_3 k_b0_3 p_4 ⟨by decide, by decide⟩ ?_)
        refine r_iload_n (pc := 42) dX8_loadBut_42 rfl ?_
        refine r_icmp_ne (pc := 43) (tgt := 91) dX8_loadBut_43 (by decide) (fun q => ?_) (fun q => ?_)
        · have K0 := K0.1 q
          refine r_iinc (pc := 91) (v := l7 + 1) dX8_loadBut_91 rfl rfl (by decide) ?_
          refine r_goto (pc := 94) (L := [some (.ref b0), some (.int l1), some (.int l2), some (.int l3), some (.int l4), some (.int l5), some (.int l6), some (.int (l7 + 1))]) (tgt := 6) dX8_loadBut_94 (by decide) ?_
          exact r_le (L' := [some (.ref b0), some (.int l1), some (.int l2), some (.int l3), some (.int l4), some (.int l5), some (.int l6), some (.int (l7 + 1))]) ⟨rfl, ⟨rfl, ⟨rfl, ⟨rfl, ⟨rfl, ⟨rfl, ⟨rfl, ⟨rfl, trivial⟩⟩⟩⟩⟩⟩⟩⟩ K0
        · have K0 := K0.2 q
          refine r_iload (pc := 46) dX8_loadBut_46 rfl ?_
          refine r_if_le (pc := 48) (tgt := 68) dX8_loadBut_48 (by decide) (fun q => ?_) (fun q => ?_)
          · have K0 := K0.1 q
            refine r_iload (pc := 68) dX8_loadBut_68 rfl ?_
            refine r_aload_n (pc := 70) dX8_loadBut_70 rfl ?_
            refine r_iload (pc := 71) dX8_loadBut_71 rfl ?_
            refine s_VI (pc := 73) mX8_basisOf (ci := 8) (a := b0) (As := [.int l7]) dX8_loadBut_73 lk_X8_71 in_X8_basisOf mo_X8_basisOf ⟨by decide, rfl⟩ ⟨by decide, by decide⟩ (Nat.le_of_ble_eq_true rfl) k_b0 (sr_X8_basisOf k_b0 g_b0_3 k_b0_3 p_4 ?_)
            refine r_iload_n (pc := 76) dX8_loadBut_76 rfl ?_
            refine s_SI (pc := 77) mX8_has (As := [.int (bas (gi x b0_3) (l7 : Int32).toNatClampNeg), .int l1]) dX8_loadBut_77 lk_X8_75 st_X8_has mo_X8_has ⟨by decide, by decide⟩ (Nat.le_of_ble_eq_true rfl) (sp_X8_has  ?_)
            refine r_if_eq (pc := 80) (tgt := 87) dX8_loadBut_80 (by decide) (fun q => ?_) (fun q => ?_)
            · have q := (b2i_z _).mp q
              have K0 := K0.1 q
              refine r_iconst (pc := 87) (v := 0) dX8_loadBut_87 (by decide) ?_
              refine r_iadd (pc := 88) dX8_loadBut_88 ?_
              refine r_istore (pc := 89) dX8_loadBut_89 (by decide) ?_
              refine r_iinc (pc := 91) (L := [some (.ref b0), some (.int l1), some (.int l2), some (.int l3), some (.int l4), some (.int l5), some (.int (l6 + 0)), some (.int l7)]) (v := l7 + 1) dX8_loadBut_91 rfl rfl (by decide) ?_
              refine r_goto (pc := 94) (L := [some (.ref b0), some (.int l1), some (.int l2), some (.int l3), some (.int l4), some (.int l5), some (.int (l6 + 0)), some (.int (l7 + 1))]) (tgt := 6) dX8_loadBut_94 (by decide) ?_
              exact r_le (L' := [some (.ref b0), some (.int l1), some (.int l2), some (.int l3), some (.int l4), some (.int l5), some (.int (l6 + 0)), some (.int (l7 + 1))]) ⟨rfl, ⟨rfl, ⟨rfl, ⟨rfl, ⟨rfl, ⟨rfl, ⟨rfl, ⟨rfl, trivial⟩⟩⟩⟩⟩⟩⟩⟩ K0
            · have q := b2i_nz q
              have K0 := K0.2 q
              refine r_iconst (pc := 83) (v := 1) dX8_loadBut_83 (by decide) ?_
              refine r_goto (pc := 84) (tgt := 88) dX8_loadBut_84 (by decide) ?_
              refine r_iadd (pc := 88) dX8_loadBut_88 ?_
              refine r_istore (pc := 89) dX8_loadBut_89 (by decide) ?_
              refine r_iinc (pc := 91) (L := [some (.ref b0), some (.int l1), some (.int l2), some (.int l3), some (.int l4), some (.int l5), some (.int (l6 + 1)), some (.int l7)]) (v := l7 + 1) dX8_loadBut_91 rfl rfl (by decide) ?_
              refine r_goto (pc := 94) (L := [some (.ref b0), some (.int l1), some (.int l2), some (.int l3), some (.int l4), some (.int l5), some (.int (l6 + 1)), some (.int (l7 + 1))]) (tgt := 6) dX8_loadBut_94 (by decide) ?_
              exact r_le (L' := [some (.ref b0), some (.int l1), some (.int l2), some (.int l3), some (.int l4), some (.int l5), some (.int (l6 + 1)), some (.int (l7 + 1))]) ⟨rfl, ⟨rfl, ⟨rfl, ⟨rfl, ⟨rfl, ⟨rfl, ⟨rfl, ⟨rfl, trivial⟩⟩⟩⟩⟩⟩⟩⟩ K0
          · have K0 := K0.2 q
            refine r_aload_n (pc := 51) dX8_loadBut_51 rfl ?_
            refine r_iload (pc := 52) dX8_loadBut_52 rfl ?_
            refine r_iconst (pc := 54) (v := 3) dX8_loadBut_54 (by decide) ?_
            refine s_VI (pc := 55) mX8_one (ci := 8) (a := b0) (As := [.int l7, .int 3]) dX8_loadBut_55 lk_X8_67 in_X8_one mo_X8_one ⟨by decide, rfl⟩ ⟨by decide, by decide⟩ (Nat.le_of_ble_eq_true rfl) k_b0 (sr_X8_one k_b0 g_b0_3 k_b0_3 p_4 ⟨by decide, by decide⟩ ?_)
            refine r_iload (pc := 58) dX8_loadBut_58 rfl ?_
            refine r_iconst (pc := 60) (v := 1) dX8_loadBut_60 (by decide) ?_
            refine r_isub (pc := 61) dX8_loadBut_61 ?_
            refine r_icmp_eq (pc := 62) (tgt := 68) dX8_loadBut_62 (by decide) (fun q => ?_) (fun q => ?_)
            · have K0 := K0.1 q
              refine r_iload (pc := 68) dX8_loadBut_68 rfl ?_
              refine r_aload_n (pc := 70) dX8_loadBut_70 rfl ?_
              refine r_iload (pc := 71) dX8_loadBut_71 rfl ?_
              refine s_VI (pc := 73) mX8_basisOf (ci := 8) (a := b0) (As := [.int l7]) dX8_loadBut_73 lk_X8_71 in_X8_basisOf mo_X8_basisOf ⟨by decide, rfl⟩ ⟨by decide, by decide⟩ (Nat.le_of_ble_eq_true rfl) k_b0 (sr_X8_basisOf k_b0 g_b0_3 k_b0_3 p_4 ?_)
              refine r_iload_n (pc := 76) dX8_loadBut_76 rfl ?_
              refine s_SI (pc := 77) mX8_has (As := [.int (bas (gi x b0_3) (l7 : Int32).toNatClampNeg), .int l1]) dX8_loadBut_77 lk_X8_75 st_X8_has mo_X8_has ⟨by decide, by decide⟩ (Nat.le_of_ble_eq_true rfl) (sp_X8_has  ?_)
              refine r_if_eq (pc := 80) (tgt := 87) dX8_loadBut_80 (by decide) (fun q => ?_) (fun q => ?_)
              · have q := (b2i_z _).mp q
                have K0 := K0.1 q
                refine r_iconst (pc := 87) (v := 0) dX8_loadBut_87 (by decide) ?_
                refine r_iadd (pc := 88) dX8_loadBut_88 ?_
                refine r_istore (pc := 89) dX8_loadBut_89 (by decide) ?_
                refine r_iinc (pc := 91) (L := [some (.ref b0), some (.int l1), some (.int l2), some (.int l3), some (.int l4), some (.int l5), some (.int (l6 + 0)), some (.int l7)]) (v := l7 + 1) dX8_loadBut_91 rfl rfl (by decide) ?_
                refine r_goto (pc := 94) (L := [some (.ref b0), some (.int l1), some (.int l2), some (.int l3), some (.int l4), some (.int l5), some (.int (l6 + 0)), some (.int (l7 + 1))]) (tgt := 6) dX8_loadBut_94 (by decide) ?_
                exact r_le (L' := [some (.ref b0), some (.int l1), some (.int l2), some (.int l3), some (.int l4), some (.int l5), some (.int (l6 + 0)), some (.int (l7 + 1))]) ⟨rfl, ⟨rfl, ⟨rfl, ⟨rfl, ⟨rfl, ⟨rfl, ⟨rfl, ⟨rfl, trivial⟩⟩⟩⟩⟩⟩⟩⟩ K0
              · have q := b2i_nz q
                have K0 := K0.2 q
                refine r_iconst (pc := 83) (v := 1) dX8_loadBut_83 (by decide) ?_
                refine r_goto (pc := 84) (tgt := 88) dX8_loadBut_84 (by decide) ?_
                refine r_iadd (pc := 88) dX8_loadBut_88 ?_
                refine r_istore (pc := 89) dX8_loadBut_89 (by decide) ?_
                refine r_iinc (pc := 91) (L := [some (.ref b0), some (.int l1), some (.int l2), some (.int l3), some (.int l4), some (.int l5), some (.int (l6 + 1)), some (.int l7)]) (v := l7 + 1) dX8_loadBut_91 rfl rfl (by decide) ?_
                refine r_goto (pc := 94) (L := [some (.ref b0), some (.int l1), some (.int l2), some (.int l3), some (.int l4), some (.int l5), some (.int (l6 + 1)), some (.int (l7 + 1))]) (tgt := 6) dX8_loadBut_94 (by decide) ?_
                exact r_le (L' := [some (.ref b0), some (.int l1), some (.int l2), some (.int l3), some (.int l4), some (.int l5), some (.int (l6 + 1)), some (.int (l7 + 1))]) ⟨rfl, ⟨rfl, ⟨rfl, ⟨rfl, ⟨rfl, ⟨rfl, ⟨rfl, ⟨rfl, trivial⟩⟩⟩⟩⟩⟩⟩⟩ K0
            · have K0 := K0.2 q
              refine r_goto (pc := 65) (tgt := 91) dX8_loadBut_65 (by decide) ?_
              refine r_iinc (pc := 91) (v := l7 + 1) dX8_loadBut_91 rfl rfl (by decide) ?_
              refine r_goto (pc := 94) (L := [some (.ref b0), some (.int l1), some (.int l2), some (.int l3), some (.int l4), some (.int l5), some (.int l6), some (.int (l7 + 1))]) (tgt := 6) dX8_loadBut_94 (by decide) ?_
              exact r_le (L' := [some (.ref b0), some (.int l1), some (.int l2), some (.int l3), some (.int l4), some (.int l5), some (.int l6), some (.int (l7 + 1))]) ⟨rfl, ⟨rfl, ⟨rfl, ⟨rfl, ⟨rfl, ⟨rfl, ⟨rfl, ⟨rfl, trivial⟩⟩⟩⟩⟩⟩⟩⟩ K0
section
variable {x : Cn} {Q : Int32 → Cn → Prop} {q : Nat} {T : TT} {W C S A N : Nat}
theorem lp_X8_loadBut {t : Nat} (M : MRf x t) (ht : kk KW t = some (20, 518)) (hS : gi x t 2 = nI S) (h24 : S ≤ 24) {w : Nat} {d h kd b : Int32} (hw : w < 32) (k : Q (ldB (gi x t) S w d h kd b) x) : ∀ (n s : Nat) (acc : Int32), s + n = S → acc = ldB (gi x t) s w d h kd b → GI mX8_loadBut 6 [some (.ref 717), some (.int (nI w)), some (.int d), some (.int h), some (.int kd), some (.int b), some (.int acc), some (.int (nI s))] [] KW x Q := by
  intro n
  induction n with
  | zero =>
    intro s acc hs ha
    refine v_X8_loadBut_6 km M.2.2.1 ht ⟨iv0 2 518 (by decide) (by decide) (by decide), fun _ => ?_, fun z => ?_⟩
    · rw [ha, show s = S by omega]
      exact k
    · exact absurd (by rw [hS]; exact nI_le (by omega) (by omega)) z
  | succ n ih =>
    intro s acc hs ha
    have next0 : ¬ cB (gi x t) s w d h kd b → GI mX8_loadBut 6 [some (.ref 717), some (.int (nI w)), some (.int d), some (.int h), some (.int kd), some (.int b), some (.int acc), some (.int (nI s + 1))] [] KW x Q := by
      intro z
      rw [nI_1]
      refine ih (s + 1) acc (by omega) ?_
      rw [ldB_f z]
      exact ha
    have next1 : cB (gi x t) s w d h kd b → GI mX8_loadBut 6 [some (.ref 717), some (.int (nI w)), some (.int d), some (.int h), some (.int kd), some (.int b), some (.int (acc + 1)), some (.int (nI s + 1))] [] KW x Q := by
      intro z
      rw [nI_1]
      refine ih (s + 1) (acc + 1) (by omega) ?_
      rw [ldB_t z, ha]
    refine v_X8_loadBut_6 km M.2.2.1 ht ⟨iv0 2 518 (by decide) (by decide) (by decide), fun z => ?_, fun _ => ?_⟩
    · rw [hS] at z
      exact absurd z (nI_ge (by omega) (by omega))
    · rw [nI_clamp (show s < 2 ^ 31 by omega), f_has_tb _ hw, Int32.add_zero]
      refine ⟨fun z => next0 (fun g => g.1 z), fun z1 => ⟨l24_nI (by omega) rfl, fun z => next0 (fun g => z g.2.1), fun z2 => ⟨fun z => next0 (fun g => z g.2.2.1), fun z3 => ⟨fun z4 => ⟨fun z => next0 (fun g => z g.2.2.2.2), fun z => next1 ⟨z1, z2, z3, Or.inl z4, z⟩⟩, fun z4 => ⟨fun z5 => ⟨fun z => next0 (fun g => z g.2.2.2.2), fun z => next1 ⟨z1, z2, z3, Or.inr z5, z⟩⟩, fun z5 => next0 (fun g => g.2.2.2.1.elim z4 z5)⟩⟩⟩⟩⟩
theorem sp_X8_loadBut {t : Nat} (M : MRf x t) (ht : kk KW t = some (20, 518)) (hS : gi x t 2 = nI S) (h24 : S ≤ 24) {w : Nat} {d h kd b : Int32} (hw : w < 32) (k : Q (ldB (gi x t) S w d h kd b) x) : mSI mX8_loadBut [.ref 717, .int (nI w), .int d, .int h, .int kd, .int b] KW x Q := v_X8_loadBut_0 (lp_X8_loadBut M ht hS h24 hw k S 0 0 (by omega) rfl)
end

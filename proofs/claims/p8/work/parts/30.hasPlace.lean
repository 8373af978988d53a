/-- whether one more with these weeks FITS, some being out -/
def fitC (T : TT) (S N : Nat) (d : Int32) (h : Nat) (way bits wo : Int32) : Prop := ∀ i, i < 32 → tb bits i = true → N ≤ i → ¬ T (6 + 2 * h) ≤ nI (nW T S i d (nI h) 0 wo) ∧ (¬ way = 1 → ¬ T (7 + 2 * h) ≤ nI (nW T S i d (nI h) 1 wo))
noncomputable def bP (P : Prop) : Int32 := @ite Int32 P (Classical.propDecidable P) 1 0
theorem bP_t {P : Prop} (h : P) : bP P = 1 := by unfold bP; rw [if_pos h]
theorem bP_f {P : Prop} (h : ¬ P) : bP P = 0 := by unfold bP; rw [if_neg h]
theorem bP_01 (P : Prop) : bP P = 0 ∨ bP P = 1 := by
  by_cases h : P
  · exact Or.inr (bP_t h)
  · exact Or.inl (bP_f h)
theorem bP_z {P : Prop} : bP P = 0 ↔ ¬ P := by
  by_cases h : P
  · rw [bP_t h]
    exact ⟨fun z => absurd z (by decide), fun z => absurd h z⟩
  · rw [bP_f h]
    exact ⟨fun _ => h, fun _ => rfl⟩
theorem bP_k {P : Prop} {Q : Int32 → Cn → Prop} {y : Cn} (k : Q (bP P) y) : (P → Q 1 y) ∧ (¬ P → Q 0 y) := ⟨fun h => by rwa [bP_t h] at k, fun h => by rwa [bP_f h] at k⟩
theorem bP_congr {P R : Prop} (h : P ↔ R) : bP P = bP R := by
  by_cases g : P
  · rw [bP_t g, bP_t (h.mp g)]
  · rw [bP_f g, bP_f (fun z => g (h.mpr z))]
theorem and3_0 {bits r : Int32} {N : Nat} {c : Nat → Prop} (hN : N ≤ 30) (hr : ∀ i, i < 32 → (tb r i = true ↔ c i)) : ((bits &&& (f_bf (nI N))) &&& r) = 0 ↔ ∀ i, i < 32 → tb bits i = true → N ≤ i → ¬ c i := by
  constructor
  · intro z i hi h1 h2 h3
    have : tb ((bits &&& (f_bf (nI N))) &&& r) i = true := by
      rw [tb_and, tb_and, h1, tb_bf0 N (by omega) i hi, decide_eq_true h2, (hr i hi).mpr h3]
      rfl
    rw [z, tb_0] at this
    cases this
  · intro g
    apply tb_ext
    intro i hi
    rw [tb_0, tb_and, tb_and, tb_bf0 N (by omega) i hi]
    cases h1 : tb bits i with
    | false => rfl
    | true =>
      by_cases h2 : N ≤ i
      · have h3 := g i hi h1 h2
        have h4 : ¬ tb r i = true := fun z => h3 ((hr i hi).mp z)
        have h5 : tb r i = false := by simpa using h4
        rw [h5]
        simp
      · rw [decide_eq_false h2]
        rfl
set_option maxHeartbeats 2000000 in
theorem v_X4_hasPlace_0 {K : Sh} {x : Cn} {Q : Int32 → Cn → Prop} {b0 : Nat} {l1 : Int32} {l2 : Int32} {l3 : Int32} {l4 : Int32} {l5 : Int32} {b0_5 : Nat} {n_b0_5 : Nat} (k_b0 : kk K b0 = some (4, 0)) (g_b0_5 : gr x b0 5 = some b0_5) (k_b0_5 : kk K b0_5 = some (20, n_b0_5)) (K0 : vp_in l2 n_b0_5 ∧ (mSI mX4_weeksLoaded [.ref b0, .int l1, .int l2, .int (gi x b0_5 (l2 : Int32).toNatClampNeg), .int 0, .int l5] K x (fun r_3 y_2 => (((l4 &&& (f_bf (gi x b0 1))) &&& r_3) = 0 → ((l3 = 1 → (Q 1 y_2)) ∧ (¬ l3 = 1 → (∃ c_6 : Nat, gr y_2 b0 6 = some c_6 ∧ (∃ n_9 : Nat, kk K c_6 = some (20, n_9) ∧ (vp_in l2 n_9 ∧ (mSI mX4_weeksLoaded [.ref b0, .int l1, .int l2, .int (gi y_2 c_6 (l2 : Int32).toNatClampNeg), .int 1, .int l5] K y_2 (fun r_12 y_11 => (¬ ((l4 &&& (f_bf (gi x b0 1))) &&& r_12) = 0 → (Q 0 y_11)) ∧ (((l4 &&& (f_bf (gi x b0 1))) &&& r_12) = 0 → (Q 1 y_11)))))))))) ∧ (¬ ((l4 &&& (f_bf (gi x b0 1))) &&& r_3) = 0 → (Q 0 y_2))))) : mSI mX4_hasPlace [.ref b0, .int l1, .int l2, .int l3, .int l4, .int l5] K x Q := by
  refine s_I (by decide) (by simp [Value.category]) (Nat.le_of_ble_eq_true rfl) ?_
  show mGM mX4_hasPlace 0 [some (.ref b0), some (.int l1), some (.int l2), some (.int l3), some (.int l4), some (.int l5), none] [] (hp K x) (PI K Q)
  refine r_iload (pc := 0) dX4_hasPlace_0 rfl ?_
  refine r_aload_n (pc := 2) dX4_hasPlace_2 rfl ?_
  refine s_getI (pc := 3) dX4_hasPlace_3 fl_X4_15 rfl k_b0 ?_
  refine s_SNI (pc := 6) mX7_bitsFrom (As := [.int (gi x b0 1)]) dX4_hasPlace_6 nl_X4_92 st_X7_bitsFrom mo_X7_bitsFrom ⟨by decide, by decide⟩ (Nat.le_of_ble_eq_true rfl) (sp_X7_bitsFrom  ?_)
  refine r_iand (pc := 9) dX4_hasPlace_9 ?_
  refine r_istore (pc := 10) dX4_hasPlace_10 (by decide) ?_
  refine r_iload (pc := 12) (L := [some (.ref b0), some (.int l1), some (.int l2), some (.int l3), some (.int l4), some (.int l5), some (.int (l4 &&& (f_bf (gi x b0 1))))]) dX4_hasPlace_12 rfl ?_
  refine r_aload_n (pc := 14) dX4_hasPlace_14 rfl ?_
  refine r_iload_n (pc := 15) dX4_hasPlace_15 rfl ?_
  refine r_iload_n (pc := 16) dX4_hasPlace_16 rfl ?_
  refine r_aload_n (pc := 17) dX4_hasPlace_17 rfl ?_
  refine s_getR (pc := 18) dX4_hasPlace_18 fl_X4_27 rfl k_b0 g_b0_5 ?_
  refine r_iload_n (pc := 21) dX4_hasPlace_21 rfl ?_
  obtain ⟨i_1, K0⟩ := K0
  refine s_iald (pc := 22) dX4_hasPlace_22 k_b0_5 i_1 ?_
  refine r_iconst (pc := 23) (v := 0) dX4_hasPlace_23 (by decide) ?_
  refine r_iload (pc := 24) dX4_hasPlace_24 rfl ?_
  refine s_VI (pc := 26) mX4_weeksLoaded (ci := 4) (a := b0) (As := [.int l1, .int l2, .int (gi x b0_5 (l2 : Int32).toNatClampNeg), .int 0, .int l5]) dX4_hasPlace_26 lk_X4_96 in_X4_weeksLoaded mo_X4_weeksLoaded ⟨by decide, rfl⟩ ⟨by decide, by decide⟩ (Nat.le_of_ble_eq_true rfl) k_b0 (mSI_mono K0 (fun r_3 y_2 K0 => ?_))
  refine r_iand (pc := 29) dX4_hasPlace_29 ?_
  refine r_if_eq (pc := 30) (tgt := 35) dX4_hasPlace_30 (by decide) (fun q => ?_) (fun q => ?_)
  · have K0 := K0.1 q
    refine r_iload_n (pc := 35) dX4_hasPlace_35 rfl ?_
    refine r_iconst (pc := 36) (v := 1) dX4_hasPlace_36 (by decide) ?_
    refine r_icmp_eq (pc := 37) (tgt := 61) dX4_hasPlace_37 (by decide) (fun q => ?_) (fun q => ?_)
    · have K0 := K0.1 q
      refine r_iconst (pc := 61) (v := 1) dX4_hasPlace_61 (by decide) ?_
      refine r_goto (pc := 62) (tgt := 66) dX4_hasPlace_62 (by decide) ?_
      exact s_zret rfl (by decide) dX4_hasPlace_66 K0
    · have K0 := K0.2 q
      refine r_iload (pc := 40) dX4_hasPlace_40 rfl ?_
      refine r_aload_n (pc := 42) dX4_hasPlace_42 rfl ?_
      refine r_iload_n (pc := 43) dX4_hasPlace_43 rfl ?_
      refine r_iload_n (pc := 44) dX4_hasPlace_44 rfl ?_
      refine r_aload_n (pc := 45) dX4_hasPlace_45 rfl ?_
      obtain ⟨c_6, g_7, K0⟩ := K0
      refine s_getR (pc := 46) dX4_hasPlace_46 fl_X4_31 rfl k_b0 g_7 ?_
      refine r_iload_n (pc := 49) dX4_hasPlace_49 rfl ?_
      obtain ⟨n_9, e_8, K0⟩ := K0
      obtain ⟨i_10, K0⟩ := K0
      refine s_iald (pc := 50) dX4_hasPlace_50 e_8 i_10 ?_
      refine r_iconst (pc := 51) (v := 1) dX4_hasPlace_51 (by decide) ?_
      refine r_iload (pc := 52) dX4_hasPlace_52 rfl ?_
      refine s_VI (pc := 54) mX4_weeksLoaded (ci := 4) (a := b0) (As := [.int l1, .int l2, .int (gi y_2 c_6 (l2 : Int32).toNatClampNeg), .int 1, .int l5]) dX4_hasPlace_54 lk_X4_96 in_X4_weeksLoaded mo_X4_weeksLoaded ⟨by decide, rfl⟩ ⟨by decide, by decide⟩ (Nat.le_of_ble_eq_true rfl) k_b0 (mSI_mono K0 (fun r_12 y_11 K0 => ?_))
      refine r_iand (pc := 57) dX4_hasPlace_57 ?_
      refine r_if_ne (pc := 58) (tgt := 65) dX4_hasPlace_58 (by decide) (fun q => ?_) (fun q => ?_)
      · have K0 := K0.1 q
        refine r_iconst (pc := 65) (v := 0) dX4_hasPlace_65 (by decide) ?_
        exact s_zret rfl (by decide) dX4_hasPlace_66 K0
      · have K0 := K0.2 q
        refine r_iconst (pc := 61) (v := 1) dX4_hasPlace_61 (by decide) ?_
        refine r_goto (pc := 62) (tgt := 66) dX4_hasPlace_62 (by decide) ?_
        exact s_zret rfl (by decide) dX4_hasPlace_66 K0
  · have K0 := K0.2 q
    refine r_iconst (pc := 33) (v := 0) dX4_hasPlace_33 (by decide) ?_
    exact s_zret rfl (by decide) dX4_hasPlace_34 K0
section
variable {x : Cn} {Q : Int32 → Cn → Prop} {q : Nat} {T : TT} {W C S A N : Nat}
theorem sp_X4_hasPlace (E : SEA x q T W C S A N) {d way bits wo : Int32} {h : Nat} (hh : h < 24) (k : ∀ y, EQx x y (q + 5) → Q (bP (fitC T S N d h way bits wo)) y) : mSI mX4_hasPlace [.ref q, .int d, .int (nI h), .int way, .int bits, .int wo] KW x Q := by
  have hn := E.nums
  have hl := E.2.2.1.2.2.2.2.2.1 h hh
  refine v_X4_hasPlace_0 (ks0 E.1) E.2.1.1 (ks1 E.1) ⟨vp_in_nI hh (by decide), ?_⟩
  rw [nI_clamp (show h < 2 ^ 31 by omega), hl.1, hn.2.1]
  refine sp_X4_weeksLoaded E (fun r y hy hr => ?_)
  have E2 := E.eqx hy (Or.inl rfl)
  have hl2 := E2.2.2.1.2.2.2.2.2.1 h hh
  refine ⟨fun z => ?_, fun z => ?_⟩
  · have g1 := (and3_0 (by omega) hr).mp z
    refine ⟨fun w => (bP_k (k y hy)).1 (fun i hi h1 h2 => ⟨g1 i hi h1 h2, fun u => absurd w u⟩), fun w => ⟨q + 2, E2.2.1.2.1, 24, ks2 E.1, vp_in_nI hh (by decide), ?_⟩⟩
    rw [hl2.2]
    refine sp_X4_weeksLoaded E2 (fun r2 y2 hy2 hr2 => ⟨fun z2 => ?_, fun z2 => ?_⟩)
    · have := k y2 (hy.tr hy2)
      rwa [bP_f (fun f => z2 ((and3_0 (by omega) hr2).mpr (fun i hi h1 h2 => (f i hi h1 h2).2 w)))] at this
    · have g2 := (and3_0 (by omega) hr2).mp z2
      exact (bP_k (k y2 (hy.tr hy2))).1 (fun i hi h1 h2 => ⟨g1 i hi h1 h2, fun _ => g2 i hi h1 h2⟩)
  · have := k y hy
    rwa [bP_f (fun f => z ((and3_0 (by omega) hr).mpr (fun i hi h1 h2 => (f i hi h1 h2).1)))] at this
end

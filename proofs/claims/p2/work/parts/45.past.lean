theorem sub518 (v : Nat) : nI (v + 518) - 518 = nI v := by
  have := pk_sub (a := v + 518) (b := 518) (by omega)
  rw [show v + 518 - 518 = v from Nat.add_sub_cancel v 518] at this
  exact this
/-- the landed one's past -/
def Hs (x : Cn) (C : Nat) (T : TT) (n : Nat) (H : Nat → TT) : Prop := gi x 0 5 = nI n ∧ n ≤ 10 ∧ ∀ j, j < n → ∃ q W S A N, gr x 58 j = some q ∧ SEA x q (H j) W C S A N ∧ ∀ c, c < C → H j (54 + c) = T (54 + c)
def push (H : Nat → TT) (n : Nat) (T : TT) : Nat → TT := fun j => if n = 10 then (if j = 9 then T else H (j + 1)) else (if j = n then T else H j)
def pn (n : Nat) : Nat := if n = 10 then 10 else n + 1
theorem HSr.hs {x : Cn} {T : TT} {C : Nat} (h : HSr x T C) : ∃ n, Hs x C T n (fun j i => gi x 724 (518 * j + i)) ∧ gi x 717 19 = nI n := by
  obtain ⟨n, n1, n2, n3, n4⟩ := h
  exact ⟨n, ⟨n3, n1, n4⟩, n2⟩
theorem CRf.past {x : Cn} (h : CRf x) : (∀ j, j < 10 → SRf x (177 + 54 * j)) ∧ (∀ i, i < 10 → ∃ j, j < 10 ∧ gr x 58 i = some (177 + 54 * j)) ∧ ∀ i j, i < 10 → j < 10 → gr x 58 i = gr x 58 j → i = j := h.2.2.2.2.2.2.2.2.2.2.2.2.2.2.2.2.2.2.2
/-- references change in the row of the past alone -/
theorem CRf.k58 {x y : Cn} (h : CRf x) (e : ∀ a k, a ≠ 58 → gr y a k = gr x a k) (h1 : ∀ i, i < 10 → ∃ j, j < 10 ∧ gr y 58 i = some (177 + 54 * j)) (h2 : ∀ i j, i < 10 → j < 10 → gr y 58 i = gr y 58 j → i = j) : CRf y := by
  have sr : ∀ q, Isea q → SRf x q → SRf y q := by
    intro q hq g
    have hl := hq.lt
    have c : q ≠ 58 ∧ q + 3 ≠ 58 ∧ q + 4 ≠ 58 := by
      rcases hq with rfl | rfl | rfl | ⟨i, hi, rfl⟩ <;> omega
    unfold SRf at g ⊢
    simp only [e q _ c.1, e (q + 3) _ c.2.1, e (q + 4) _ c.2.2]
    exact g
  obtain ⟨a1, a2, a3, a4, a5, a6, a7, a8, a9, a10, a11, a12, a13, a14, a15, a16, a17, a18, a19, a20, -, -⟩ := h
  refine ⟨?_, ?_, ?_, ?_, ?_, ?_, ?_, ?_, ?_, ?_, ?_, ?_, ?_, ?_, ?_, ?_, ?_, sr 60 (by unfold Isea; omega) a18, sr 118 (by unfold Isea; omega) a19, fun j hj => sr _ (Or.inr (Or.inr (Or.inr ⟨j, hj, rfl⟩))) (a20 j hj), h1, h2⟩
  all_goals simp only [e _ _ (show (0 : Nat) ≠ 58 by decide), e _ _ (show (56 : Nat) ≠ 58 by decide), e _ _ (show (59 : Nat) ≠ 58 by decide), e _ _ (show (114 : Nat) ≠ 58 by decide), e _ _ (show (117 : Nat) ≠ 58 by decide), e _ _ (show (175 : Nat) ≠ 58 by decide)]
  all_goals assumption
theorem Hs.mv {x y : Cn} {C n : Nat} {T T' : TT} {H : Nat → TT} (h : Hs x C T n H) (c : CRf x) (h5 : gi y 0 5 = gi x 0 5) (h1 : ∀ a k, 177 ≤ a → a < 717 → gi y a k = gi x a k) (h2 : ∀ a k, a = 58 ∨ (177 ≤ a ∧ a < 717) → gr y a k = gr x a k) (hT : ∀ c, c < C → T' (54 + c) = T (54 + c)) : Hs y C T' n H := by
  obtain ⟨g1, g2, g3⟩ := h
  refine ⟨h5.trans g1, g2, fun j hj => ?_⟩
  obtain ⟨q, W, S, A, N, q1, q2, q3⟩ := g3 j hj
  obtain ⟨i, hi, ei⟩ := c.past.2.1 j (by omega)
  have hq : q = 177 + 54 * i := Option.some.inj (q1.symm.trans ei)
  refine ⟨q, W, S, A, N, by rw [h2 58 j (Or.inl rfl)]; exact q1, q2.mv (fun a k z1 z2 => h2 a k (Or.inr (by omega))) (fun a k z1 z2 _ => h1 a k (by omega) (by omega)) (fun _ _ => rfl), fun c hc => by rw [hT c hc]; exact q3 c hc⟩
/-- ints and references that an act of the landed one may not touch -/
def CFr (x y : Cn) : Prop := ∀ a k, ¬ (2 ≤ a ∧ a < 56) → ¬ (59 ≤ a ∧ a < 175) → ¬ (177 ≤ a ∧ a < 717) → ¬ (a = 0 ∧ k = 5) → gi y a k = gi x a k
theorem CFr.rf (x : Cn) : CFr x x := fun _ _ _ _ _ _ => rfl
theorem CFr.tr {x y z : Cn} (h : CFr x y) (g : CFr y z) : CFr x z := fun a k a1 a2 a3 a4 => (g a k a1 a2 a3 a4).trans (h a k a1 a2 a3 a4)
/-- the same of the reference -/
def RFr (x y : Cn) : Prop := y.2 = x.2 ∧ ∀ a k, a ≠ 718 → a ≠ 719 → a ≠ 721 → a ≠ 722 → a ≠ 723 → a ≠ 724 → ¬ (a = 717 ∧ (k = 6 ∨ k = 7 ∨ k = 8 ∨ k = 9 ∨ k = 10 ∨ k = 13 ∨ k = 14 ∨ k = 18 ∨ k = 19)) → gi y a k = gi x a k
theorem RFr.rf (x : Cn) : RFr x x := ⟨rfl, fun _ _ _ _ _ _ _ _ _ => rfl⟩
theorem RFr.tr {x y z : Cn} (h : RFr x y) (g : RFr y z) : RFr x z := ⟨g.1.trans h.1, fun a k a1 a2 a3 a4 a5 a6 a7 => (g.2 a k a1 a2 a3 a4 a5 a6 a7).trans (h.2 a k a1 a2 a3 a4 a5 a6 a7)⟩
theorem RFr.u8 {x y : Cn} {k : Nat} {v : Int32} (h : RFr x y) : RFr x (ui y 718 k v) := ⟨h.1, fun a j a1 a2 a3 a4 a5 a6 a7 => by rw [gi_ui, if_neg (fun z => a1 z.1)]; exact h.2 a j a1 a2 a3 a4 a5 a6 a7⟩
theorem Rel.fin {x y z : Cn} {W C S A N n : Nat} {T' : TT} {H : Nat → TT} (R : Rel x) (nm : NMr x 56 (gi x 718) C) (f1 : CFr x y) (c : CRf y) (h : Hs y C (gi x 718) n H) (E : SEA y 2 T' W C S A N) (hN : ∀ c, c < C → T' (54 + c) = gi x 718 (54 + c)) (m : MRf y 718) (f2 : RFr y z) (h19 : gi z 717 19 = nI n) (h724 : ∀ j, j < n → ∀ i, i < 518 → gi z 724 (518 * j + i) = H j i) (hT : ∀ i, i < 518 → gi z 718 i = T' i) : Rel z := by
  obtain ⟨r1, r2, r3, r4, r5, -⟩ := R
  have hg : ∀ b k, gr z b k = gr y b k := fun b k => by unfold gr; rw [f2.1]
  have lo : ∀ a k, a < 717 → gi z a k = gi y a k := fun a k h => f2.2 a k (by omega) (by omega) (by omega) (by omega) (by omega) (by omega) (by omega)
  have hC : C ≤ 8 := E.2.2.2.2.2.2.2.1
  have e0 : ∀ a k, (a = 0 ∧ k ≠ 5) ∨ a = 1 ∨ a = 56 ∨ a = 57 ∨ a = 175 ∨ a = 176 → gi z a k = gi x a k := fun a k h => (lo a k (by omega)).trans (f1 a k (by omega) (by omega) (by omega) (by omega))
  have e7 : ∀ a k, (a = 717 ∧ (k = 5 ∨ k = 11 ∨ k = 12 ∨ k = 22)) ∨ a = 720 ∨ a = 725 → gi z a k = gi x a k := fun a k h => (f2.2 a k (by omega) (by omega) (by omega) (by omega) (by omega) (by omega) (by omega)).trans (f1 a k (by omega) (by omega) (by omega) (by omega))
  have hTz : ∀ c, c < C → gi z 718 (54 + c) = gi x 718 (54 + c) := fun c hc => (hT _ (by omega)).trans (hN c hc)
  refine ⟨c.keep f2.1, m.keep f2.1, ?_, ?_, ?_, W, C, S, A, N, ?_, ?_, n, h.2.1, h19, ?_, fun j hj => ?_⟩
  · exact r3
  · exact r4.keep (e0 _ _ (by omega)) (e7 _ _ (by omega)) (fun i => e0 _ _ (by omega)) (fun i => e7 _ _ (by omega))
  · exact r5.keep (e0 _ _ (by omega)) (e7 _ _ (by omega)) (fun i => e0 _ _ (by omega)) (fun i => e7 _ _ (by omega))
  · exact E.mv (fun a k _ _ => hg a k) (fun a k z1 z2 _ => lo a k (by omega)) hT
  · exact nm.keep (e0 _ _ (by omega)) (fun i => e0 _ _ (by omega)) hTz
  · exact (lo 0 5 (by omega)).trans h.1
  · obtain ⟨q, W2, S2, A2, N2, q1, q2, q3⟩ := h.2.2 j hj
    have hl := q2.1.lt
    exact ⟨q, W2, S2, A2, N2, by rw [hg]; exact q1, q2.mv (fun a k _ _ => hg a k) (fun a k z1 z2 _ => lo a k (by omega)) (fun i hi => h724 j hj i hi), fun c hc => by rw [h724 j hj _ (by omega), q3 c hc, hTz c hc]⟩
set_option maxHeartbeats 2000000 in
theorem v_X7_remember_0 {K : Sh} {x : Cn} {Q : Cn → Prop} {b0 : Nat} {b0_4 : Nat} {n_b0_4 : Nat} {b0_2 : Nat} (k_b0 : kk K b0 = some (7, 0)) (g_b0_4 : gr x b0 4 = some b0_4) (k_b0_4 : kk K b0_4 = some (22, n_b0_4)) (g_b0_2 : gr x b0 2 = some b0_2) (K0 : (¬ (gi x b0 5) = 10 → (vp_in (gi x b0 5) n_b0_4 ∧ (∃ c_3 : Nat, gr x b0_4 (((gi x b0 5) : Int32).toNatClampNeg) = some c_3 ∧ (kk K c_3 = some (4, 0) ∧ (mSV mX4_copyFrom [.ref c_3, .ref b0_2] K x (fun y_6 => Q (ui y_6 b0 5 ((gi y_6 b0 5) + 1)))))))) ∧ ((gi x b0 5) = 10 → (vp_in 0 n_b0_4 ∧ (∃ c_8 : Nat, gr x b0_4 ((0 : Int32).toNatClampNeg) = some c_8 ∧ (GV mX7_remember 18 [some (.ref b0), some (.ref c_8), some (.int 1)] [] K x Q))))) : mSV mX7_remember [.ref b0] K x Q := by
  refine s_V (by decide) (by simp [Value.category]) (Nat.le_of_ble_eq_true rfl) ?_
  show mGM mX7_remember 0 [some (.ref b0), none, none] [] (hp K x) (PV K Q)
  refine r_aload_n (pc := 0) dX7_remember_0 rfl ?_
  refine s_getI (pc := 1) dX7_remember_1 fl_X7_35 rfl k_b0 ?_
  refine r_bipush (pc := 4) (v := 10) dX7_remember_4 (by decide) ?_
  refine r_icmp_ne (pc := 6) (tgt := 62) dX7_remember_6 (by decide) (fun q => ?_) (fun q => ?_)
  · have K0 := K0.1 q
    refine r_aload_n (pc := 62) dX7_remember_62 rfl ?_
    refine s_getR (pc := 63) dX7_remember_63 fl_X7_31 rfl k_b0 g_b0_4 ?_
    refine r_aload_n (pc := 66) dX7_remember_66 rfl ?_
    refine s_getI (pc := 67) dX7_remember_67 fl_X7_35 rfl k_b0 ?_
    obtain ⟨i_2, K0⟩ := K0
    obtain ⟨c_3, g_4, K0⟩ := K0
    refine s_aald (pc := 70) dX7_remember_70 (by decide) rfl k_b0_4 i_2 g_4 ?_
    refine r_aload_n (pc := 71) dX7_remember_71 rfl ?_
    refine s_getR (pc := 72) dX7_remember_72 fl_X7_20 rfl k_b0 g_b0_2 ?_
    obtain ⟨e_5, K0⟩ := K0
    refine s_VV (pc := 75) mX4_copyFrom (ci := 4) (a := c_3) (As := [.ref b0_2]) dX7_remember_75 lk_X7_80 in_X4_copyFrom mo_X4_copyFrom ⟨by decide, rfl⟩ ⟨by decide, by decide⟩ (Nat.le_of_ble_eq_true rfl) e_5 (mSV_mono K0 (fun y_6 K0 => ?_))
    refine r_aload_n (pc := 78) dX7_remember_78 rfl ?_
    refine r_dup (pc := 79) dX7_remember_79 rfl ?_
    refine s_getI (pc := 80) dX7_remember_80 fl_X7_35 rfl k_b0 ?_
    refine r_iconst (pc := 83) (v := 1) dX7_remember_83 (by decide) ?_
    refine r_iadd (pc := 84) dX7_remember_84 ?_
    refine s_putI (pc := 85) dX7_remember_85 fl_X7_35 rfl rfl k_b0 ?_
    exact s_ret rfl dX7_remember_88 K0
  · have K0 := K0.2 q
    refine r_aload_n (pc := 9) dX7_remember_9 rfl ?_
    refine s_getR (pc := 10) dX7_remember_10 fl_X7_31 rfl k_b0 g_b0_4 ?_
    refine r_iconst (pc := 13) (v := 0) dX7_remember_13 (by decide) ?_
    obtain ⟨i_7, K0⟩ := K0
    obtain ⟨c_8, g_9, K0⟩ := K0
    refine s_aald (pc := 14) dX7_remember_14 (by decide) rfl k_b0_4 i_7 g_9 ?_
    refine r_astore_n (pc := 15) dX7_remember_15 (by decide) ?_
    refine r_iconst (pc := 16) (L := [some (.ref b0), some (.ref c_8), none]) (v := 1) dX7_remember_16 (by decide) ?_
    refine r_istore_n (pc := 17) dX7_remember_17 (by decide) ?_
    exact r_le (L' := [some (.ref b0), some (.ref c_8), some (.int 1)]) ⟨rfl, ⟨rfl, ⟨rfl, trivial⟩⟩⟩ K0
set_option maxHeartbeats 2000000 in
theorem v_X7_remember_18 {K : Sh} {x : Cn} {Q : Cn → Prop} {b0 : Nat} {b1 : Nat} {l2 : Int32} {b0_4 : Nat} {n_b0_4 : Nat} (k_b0 : kk K b0 = some (7, 0)) (g_b0_4 : gr x b0 4 = some b0_4) (k_b0_4 : kk K b0_4 = some (22, n_b0_4)) (k_b1 : kk K b1 = some (4, 0)) (K0 : (10 ≤ l2 → (vp_in 9 n_b0_4 ∧ (∀ r_3 : Int32, r_3 = gi (ur x b0_4 (9 : Int32).toNatClampNeg (some b1)) b0 5 → (gr (ur x b0_4 (9 : Int32).toNatClampNeg (some b1)) b0 4 = some b0_4 ∧ (∀ r_6 : Int32, r_6 = gi (ui (ur x b0_4 (9 : Int32).toNatClampNeg (some b1)) b0 5 (r_3 - 1)) b0 5 → (vp_in r_6 n_b0_4 ∧ (∃ c_9 : Nat, gr (ur x b0_4 (9 : Int32).toNatClampNeg (some b1)) b0_4 ((r_6 : Int32).toNatClampNeg) = some c_9 ∧ (∃ c_11 : Nat, gr (ur x b0_4 (9 : Int32).toNatClampNeg (some b1)) b0 2 = some c_11 ∧ (kk K c_9 = some (4, 0) ∧ (mSV mX4_copyFrom [.ref c_9, .ref c_11] K (ui (ur x b0_4 (9 : Int32).toNatClampNeg (some b1)) b0 5 (r_3 - 1)) (fun y_14 => Q (ui y_14 b0 5 ((gi y_14 b0 5) + 1))))))))))))) ∧ (¬ 10 ≤ l2 → (vp_in l2 n_b0_4 ∧ (∃ c_16 : Nat, gr x b0_4 ((l2 : Int32).toNatClampNeg) = some c_16 ∧ (kk K c_16 = some (4, 0) ∧ (vp_in (l2 - 1) n_b0_4 ∧ (GV mX7_remember 18 [some (.ref b0), some (.ref b1), some (.int (l2 + 1))] [] K (ur x b0_4 ((l2 - 1) : Int32).toNatClampNeg (some c_16)) Q))))))) : GV mX7_remember 18 [some (.ref b0), some (.ref b1), some (.int l2)] [] K x Q := by
  show mGM mX7_remember 18 [some (.ref b0), some (.ref b1), some (.int l2)] [] (hp K x) (PV K Q)
  refine r_iload_n (pc := 18) dX7_remember_18 rfl ?_
  refine r_bipush (pc := 19) (v := 10) dX7_remember_19 (by decide) ?_
  refine r_icmp_ge (pc := 21) (tgt := 44) dX7_remember_21 (by decide) (fun q => ?_) (fun q => ?_)
  · have K0 := K0.1 q
    refine r_aload_n (pc := 44) dX7_remember_44 rfl ?_
    refine s_getR (pc := 45) dX7_remember_45 fl_X7_31 rfl k_b0 g_b0_4 ?_
    refine r_bipush (pc := 48) (v := 9) dX7_remember_48 (by decide) ?_
    refine r_aload_n (pc := 50) dX7_remember_50 rfl ?_
    obtain ⟨i_2, K0⟩ := K0
    refine s_aast (pc := 51) dX7_remember_51 (by decide) (by decide) rfl k_b0_4 k_b1 i_2 ?_
    refine r_aload_n (pc := 52) dX7_remember_52 rfl ?_
    refine r_dup (pc := 53) dX7_remember_53 rfl ?_
    refine s_getI (pc := 54) dX7_remember_54 fl_X7_35 rfl k_b0 ?_
    obtain ⟨r_3, w_4⟩ : ∃ z : Int32, z = gi (ur x b0_4 (9 : Int32).toNatClampNeg (some b1)) b0 5 := ⟨_, rfl⟩
    rw [← w_4]
    have K0 := K0 r_3 w_4
    refine r_iconst (pc := 57) (v := 1) dX7_remember_57 (by decide) ?_
    refine r_isub (pc := 58) dX7_remember_58 ?_
    refine s_putI (pc := 59) dX7_remember_59 fl_X7_35 rfl rfl k_b0 ?_
    refine r_aload_n (pc := 62) dX7_remember_62 rfl ?_
    obtain ⟨g_5, K0⟩ := K0
    refine s_getR (pc := 63) dX7_remember_63 fl_X7_31 rfl k_b0 g_5 ?_
    refine r_aload_n (pc := 66) dX7_remember_66 rfl ?_
    refine s_getI (pc := 67) dX7_remember_67 fl_X7_35 rfl k_b0 ?_
    obtain ⟨r_6, w_7⟩ : ∃ z : Int32, z = gi (ui (ur x b0_4 (9 : Int32).toNatClampNeg (some b1)) b0 5 (r_3 - 1)) b0 5 := ⟨_, rfl⟩
    rw [← w_7]
    have K0 := K0 r_6 w_7
    obtain ⟨i_8, K0⟩ := K0
    obtain ⟨c_9, g_10, K0⟩ := K0
    refine s_aald (pc := 70) dX7_remember_70 (by decide) rfl k_b0_4 i_8 g_10 ?_
    refine r_aload_n (pc := 71) dX7_remember_71 rfl ?_
    obtain ⟨c_11, g_12, K0⟩ := K0
    refine s_getR (pc := 72) dX7_remember_72 fl_X7_20 rfl k_b0 g_12 ?_
    obtain ⟨e_13, K0⟩ := K0
    refine s_VV (pc := 75) mX4_copyFrom (ci := 4) (a := c_9) (As := [.ref c_11]) dX7_remember_75 lk_X7_80 in_X4_copyFrom mo_X4_copyFrom ⟨by decide, rfl⟩ ⟨by decide, by decide⟩ (Nat.le_of_ble_eq_true rfl) e_13 (mSV_mono K0 (fun y_14 K0 => ?_))
    refine r_aload_n (pc := 78) dX7_remember_78 rfl ?_
    refine r_dup (pc := 79) dX7_remember_79 rfl ?_
    refine s_getI (pc := 80) dX7_remember_80 fl_X7_35 rfl k_b0 ?_
    refine r_iconst (pc := 83) (v := 1) dX7_remember_83 (by decide) ?_
    refine r_iadd (pc := 84) dX7_remember_84 ?_
    refine s_putI (pc := 85) dX7_remember_85 fl_X7_35 rfl rfl k_b0 ?_
    exact s_ret rfl dX7_remember_88 K0
  · have K0 := K0.2 q
    refine r_aload_n (pc := 24) dX7_remember_24 rfl ?_
    refine s_getR (pc := 25) dX7_remember_25 fl_X7_31 rfl k_b0 g_b0_4 ?_
    refine r_iload_n (pc := 28) dX7_remember_28 rfl ?_
    refine r_iconst (pc := 29) (v := 1) dX7_remember_29 (by decide) ?_
    refine r_isub (pc := 30) dX7_remember_30 ?_
    refine r_aload_n (pc := 31) dX7_remember_31 rfl ?_
    refine s_getR (pc := 32) dX7_remember_32 fl_X7_31 rfl k_b0 g_b0_4 ?_
    refine r_iload_n (pc := 35) dX7_remember_35 rfl ?_
    obtain ⟨i_15, K0⟩ := K0
    obtain ⟨c_16, g_17, K0⟩ := K0
    refine s_aald (pc := 36) dX7_remember_36 (by decide) rfl k_b0_4 i_15 g_17 ?_
    obtain ⟨e_18, K0⟩ := K0
    obtain ⟨i_19, K0⟩ := K0
    refine s_aast (pc := 37) dX7_remember_37 (by decide) (by decide) rfl k_b0_4 e_18 i_19 ?_
    refine r_iinc (pc := 38) (v := l2 + 1) dX7_remember_38 rfl rfl (by decide) ?_
    refine r_goto (pc := 41) (L := [some (.ref b0), some (.ref b1), some (.int (l2 + 1))]) (tgt := 18) dX7_remember_41 (by decide) ?_
    exact r_le (L' := [some (.ref b0), some (.ref b1), some (.int (l2 + 1))]) ⟨rfl, ⟨rfl, ⟨rfl, trivial⟩⟩⟩ K0
section
theorem sp_X7_remember {x : Cn} {Q : Cn → Prop} {T : TT} {W C S A N n : Nat} {H : Nat → TT} (c : CRf x) (E : SEA x 2 T W C S A N) (h : Hs x C T n H) (k : ∀ y, CRf y → (∀ a j, ¬ (177 ≤ a ∧ a < 717) → ¬ (a = 0 ∧ j = 5) → gi y a j = gi x a j) → (∀ a j, a ≠ 58 → gr y a j = gr x a j) → Hs y C T (pn n) (push H n T) → Q y) : mSV mX7_remember [.ref 0] KW x Q := by
  obtain ⟨h1, h2, h3⟩ := h
  obtain ⟨p1, p2, p3⟩ := c.past
  have I2 : Isea 2 := Or.inl rfl
  refine v_X7_remember_0 k0 c.2.2.2.1 (show kk KW 58 = some (22, 10) by decide) c.2.1 ?_
  rw [h1, show (10 : Int32) = nI 10 by decide, nI_eq (by omega) (by decide)]
  refine ⟨fun z => ⟨vp_in_nI (by omega) (by decide), ?_⟩, fun z => ⟨v0 (k := 0) (by decide) rfl rfl, ?_⟩⟩
  · obtain ⟨i, hi, ei⟩ := p2 n (by omega)
    have Iq : Isea (177 + 54 * i) := Or.inr (Or.inr (Or.inr ⟨i, hi, rfl⟩))
    refine ⟨177 + 54 * i, by rw [nI_clamp (by omega)]; exact ei, ks0 Iq, ?_⟩
    refine sp_X4_copyFrom Iq (p1 i hi) E (by omega) (fun y f Ey => ?_)
    rw [f.2 0 5 (by omega), h1, nI_1]
    refine k _ (c.keep f.1) (fun a j a1 a2 => ?_) (fun a j _ => f.rr a j) ⟨?_, ?_, fun j hj => ?_⟩
    · rw [gi_ui, if_neg a2]
      exact f.2 a j (by omega)
    · unfold pn
      rw [if_neg z, gi_ui, if_pos ⟨rfl, rfl⟩]
    · unfold pn
      rw [if_neg z]
      omega
    · unfold pn at hj
      rw [if_neg z] at hj
      have ep : push H n T j = if j = n then T else H j := by unfold push; rw [if_neg z]
      rw [ep]
      have low : ∀ a k, 177 ≤ a → gi (ui y 0 5 (nI (n + 1))) a k = gi y a k := fun a k ha => by rw [gi_ui, if_neg (by omega)]
      by_cases cj : j = n
      · rw [if_pos cj, cj]
        exact ⟨177 + 54 * i, W, S, A, N, (f.rr 58 n).trans ei, Ey.mv (fun _ _ _ _ => rfl) (fun a k z1 _ _ => low a k (by omega)) (fun _ _ => rfl), fun _ _ => rfl⟩
      · rw [if_neg cj]
        obtain ⟨q, W2, S2, A2, N2, q1, q2, q3⟩ := h3 j (by omega)
        have hne : q ≠ 177 + 54 * i := fun e => cj (p3 j n (by omega) (by omega) (by rw [q1, ei, e]))
        obtain ⟨i2, hi2, ei2⟩ := p2 j (by omega)
        have hq2 : q = 177 + 54 * i2 := Option.some.inj (q1.symm.trans ei2)
        exact ⟨q, W2, S2, A2, N2, (f.rr 58 j).trans q1, (q2.off Iq hne f).mv (fun _ _ _ _ => rfl) (fun a k z1 _ _ => low a k (by omega)) (fun _ _ => rfl), q3⟩
  · subst z
    obtain ⟨i0, hi0, ei0⟩ := p2 0 (by omega)
    have Iq : Isea (177 + 54 * i0) := Or.inr (Or.inr (Or.inr ⟨i0, hi0, rfl⟩))
    refine ⟨177 + 54 * i0, ei0, ?_⟩
    have key : ∀ m i y, i + m = 10 → 1 ≤ i → y.1 = x.1 → (∀ a k, a ≠ 58 → gr y a k = gr x a k) → (∀ k, gr y 58 k = if k + 1 < i then gr x 58 (k + 1) else gr x 58 k) → GV mX7_remember 18 [some (.ref 0), some (.ref (177 + 54 * i0)), some (.int (nI i))] [] KW y Q := by
      intro m
      induction m with
      | zero =>
        intro i y hi hi1 g1 g2 g3
        have : i = 10 := by omega
        subst this
        have gi0 : ∀ a k, gi y a k = gi x a k := fun a k => by unfold gi; rw [g1]
        refine v_X7_remember_18 k0 (by rw [g2 0 4 (by decide)]; exact c.2.2.2.1) (show kk KW 58 = some (22, 10) by decide) (ks0 Iq) ⟨fun _ => ⟨v0 (k := 9) (by decide) rfl rfl, ?_⟩, fun z => absurd (Int32.le_refl _) z⟩
        intro r3 e3
        have e3' : r3 = nI 10 := by rw [e3, gi_ur, gi0]; exact h1
        refine ⟨by rw [gr_ur, if_neg (by omega), g2 0 4 (by decide)]; exact c.2.2.2.1, ?_⟩
        intro r6 e6
        have e6' : r6 = nI 9 := by rw [e6, gi_ui, if_pos ⟨rfl, rfl⟩, e3']; exact nI_pred 9
        rw [e6', e3', show (nI 10 - 1 : Int32) = nI 9 from nI_pred 9, show (nI 9).toNatClampNeg = 9 by decide, show ((9 : Int32)).toNatClampNeg = 9 by decide]
        have gn : ∀ k, gr (ur y 58 9 (some (177 + 54 * i0))) 58 k = if k = 9 then some (177 + 54 * i0) else if k < 9 then gr x 58 (k + 1) else gr x 58 k := by
          intro k
          rw [gr_ur]
          by_cases c9 : k = 9
          · rw [if_pos ⟨rfl, c9⟩, if_pos c9]
          · rw [if_neg (fun u => c9 u.2), if_neg c9, g3]
            by_cases c8 : k < 9
            · rw [if_pos (by omega), if_pos c8]
            · rw [if_neg (by omega), if_neg c8]
        have go : ∀ a k, a ≠ 58 → gr (ur y 58 9 (some (177 + 54 * i0))) a k = gr x a k := fun a k ha => by rw [gr_ur, if_neg (fun u => ha u.1)]; exact g2 a k ha
        have cw : CRf (ur y 58 9 (some (177 + 54 * i0))) := by
          refine c.k58 go (fun i hi => ?_) (fun i j hi hj e => ?_)
          · rw [gn]
            by_cases c9 : i = 9
            · rw [if_pos c9]; exact ⟨i0, hi0, rfl⟩
            · rw [if_neg c9, if_pos (by omega)]; exact p2 (i + 1) (by omega)
          · rw [gn, gn] at e
            by_cases c9 : i = 9 <;> by_cases d9 : j = 9
            · omega
            · rw [if_pos c9, if_neg d9, if_pos (by omega), ← ei0] at e
              have := p3 0 (j + 1) (by omega) (by omega) e
              omega
            · rw [if_neg c9, if_pos d9, if_pos (by omega), ← ei0] at e
              have := p3 (i + 1) 0 (by omega) (by omega) e
              omega
            · rw [if_neg c9, if_neg d9, if_pos (by omega), if_pos (by omega)] at e
              have := p3 (i + 1) (j + 1) (by omega) (by omega) e
              omega
        refine ⟨vp_in_nI (by omega) (by decide), 177 + 54 * i0, by rw [gn, if_pos rfl], 2, cw.2.1, ks0 Iq, ?_⟩
        have gx1 : ∀ a k, ¬ (a = 0 ∧ k = 5) → gi (ui (ur y 58 9 (some (177 + 54 * i0))) 0 5 (nI 9)) a k = gi x a k := fun a k ha => by rw [gi_ui, if_neg ha, gi_ur, gi0]
        have Ew : SEA (ui (ur y 58 9 (some (177 + 54 * i0))) 0 5 (nI 9)) 2 T W C S A N := E.mv (fun a k z1 z2 => go a k (by omega)) (fun a k z1 z2 _ => gx1 a k (by omega)) (fun _ _ => rfl)
        refine sp_X4_copyFrom Iq ((cw.past.1 i0 hi0).keep rfl) Ew (by omega) (fun v f Ey => ?_)
        rw [f.2 0 5 (by omega), gi_ui, if_pos ⟨rfl, rfl⟩, nI_1]
        have gv : ∀ a k, gr v a k = gr (ur y 58 9 (some (177 + 54 * i0))) a k := fun a k => f.rr a k
        refine k _ (cw.keep f.1) (fun a j a1 a2 => ?_) (fun a j ha => (gv a j).trans (go a j ha)) ⟨?_, ?_, fun j hj => ?_⟩
        · rw [gi_ui, if_neg a2, f.2 a j (by omega)]
          exact gx1 a j a2
        · rfl
        · exact Nat.le_refl _
        · have hj : j < 10 := hj
          have low : ∀ a k, 177 ≤ a → gi (ui v 0 5 (nI (9 + 1))) a k = gi v a k := fun a k ha => by rw [gi_ui, if_neg (by omega)]
          by_cases c9 : j = 9
          · subst c9
            exact ⟨177 + 54 * i0, W, S, A, N, (gv 58 9).trans (by rw [gn, if_pos rfl]), Ey.mv (fun _ _ _ _ => rfl) (fun a k z1 _ _ => low a k (by omega)) (fun _ _ => rfl), fun _ _ => rfl⟩
          · obtain ⟨q, W2, S2, A2, N2, q1, q2, q3⟩ := h3 (j + 1) (by omega)
            have hne : q ≠ 177 + 54 * i0 := fun e => by
              have := p3 (j + 1) 0 (by omega) (by omega) (by rw [q1, ei0, e])
              omega
            obtain ⟨i2, hi2, ei2⟩ := p2 (j + 1) (by omega)
            have hq2 : q = 177 + 54 * i2 := Option.some.inj (q1.symm.trans ei2)
            have ep : push H 10 T j = H (j + 1) := by unfold push; rw [if_pos rfl, if_neg c9]
            rw [ep]
            have q2' : SEA (ui (ur y 58 9 (some (177 + 54 * i0))) 0 5 (nI 9)) q (H (j + 1)) W2 C S2 A2 N2 := q2.mv (fun a k z1 z2 => go a k (by omega)) (fun a k z1 z2 _ => gx1 a k (by omega)) (fun _ _ => rfl)
            exact ⟨q, W2, S2, A2, N2, (gv 58 j).trans (by rw [gn, if_neg c9, if_pos (by omega)]; exact q1), (q2'.off Iq hne f).mv (fun _ _ _ _ => rfl) (fun a k z1 _ _ => low a k (by omega)) (fun _ _ => rfl), q3⟩
      | succ m ih =>
        intro i y hi hi1 g1 g2 g3
        obtain ⟨j, hj, ej⟩ := p2 i (by omega)
        refine v_X7_remember_18 k0 (by rw [g2 0 4 (by decide)]; exact c.2.2.2.1) (show kk KW 58 = some (22, 10) by decide) (ks0 Iq) ⟨fun z => absurd z (nI_ge (b := 10) (by omega) (by decide)), fun _ => ⟨vp_in_nI (by omega) (by decide), 177 + 54 * j, ?_, ks0 (Or.inr (Or.inr (Or.inr ⟨j, hj, rfl⟩))), ?_⟩⟩
        · rw [nI_clamp (by omega), g3, if_neg (by omega)]
          exact ej
        · obtain ⟨i', rfl⟩ : ∃ i', i = i' + 1 := ⟨i - 1, by omega⟩
          rw [nI_pred, nI_1, nI_clamp (by omega)]
          refine ⟨vp_in_nI (by omega) (by decide), ih (i' + 1 + 1) _ (by omega) (by omega) g1 (fun a k ha => by rw [gr_ur, if_neg (fun u => ha u.1)]; exact g2 a k ha) (fun k => ?_)⟩
          rw [gr_ur]
          by_cases ck : k = i'
          · rw [if_pos ⟨rfl, ck⟩, if_pos (by omega), ck]
            exact ej.symm
          · rw [if_neg (fun u => ck u.2), g3]
            by_cases cl : k + 1 < i' + 1
            · rw [if_pos cl, if_pos (by omega)]
            · rw [if_neg cl, if_neg (by omega)]
    exact key 9 1 x (by omega) (by omega) rfl (fun _ _ _ => rfl) (fun k => by rw [if_neg (by omega)])
end
set_option maxHeartbeats 2000000 in
theorem v_X8_keeps_0 {K : Sh} {x : Cn} {Q : Cn → Prop} {b0 : Nat}  (k_b0 : kk K b0 = some (8, 0)) (K0 : (¬ (gi x b0 19) = 10 → (GV mX8_keeps 54 [some (.ref b0), some (.int 0)] [] K x Q)) ∧ ((gi x b0 19) = 10 → (GV mX8_keeps 13 [some (.ref b0), some (.int 518)] [] K x Q))) : mSV mX8_keeps [.ref b0] K x Q := by
  refine s_V (by decide) (by simp [Value.category]) (Nat.le_of_ble_eq_true rfl) ?_
  show mGM mX8_keeps 0 [some (.ref b0), none] [] (hp K x) (PV K Q)
  refine r_aload_n (pc := 0) dX8_keeps_0 rfl ?_
  refine s_getI (pc := 1) dX8_keeps_1 fl_X8_262 rfl k_b0 ?_
  refine r_bipush (pc := 4) (v := 10) dX8_keeps_4 (by decide) ?_
  refine r_icmp_ne (pc := 6) (tgt := 52) dX8_keeps_6 (by decide) (fun q => ?_) (fun q => ?_)
  · have K0 := K0.1 q
    refine r_iconst (pc := 52) (v := 0) dX8_keeps_52 (by decide) ?_
    refine r_istore_n (pc := 53) dX8_keeps_53 (by decide) ?_
    exact r_le (L' := [some (.ref b0), some (.int 0)]) ⟨rfl, ⟨rfl, trivial⟩⟩ K0
  · have K0 := K0.2 q
    refine r_sipush (pc := 9) (v := 518) dX8_keeps_9 (by decide) ?_
    refine r_istore_n (pc := 12) dX8_keeps_12 (by decide) ?_
    exact r_le (L' := [some (.ref b0), some (.int 518)]) ⟨rfl, ⟨rfl, trivial⟩⟩ K0
set_option maxHeartbeats 2000000 in
theorem v_X8_keeps_13 {K : Sh} {x : Cn} {Q : Cn → Prop} {b0 : Nat} {l1 : Int32} {b0_20 : Nat} {n_b0_20 : Nat} (k_b0 : kk K b0 = some (8, 0)) (g_b0_20 : gr x b0 20 = some b0_20) (k_b0_20 : kk K b0_20 = some (20, n_b0_20)) (K0 : (5180 ≤ l1 → (GV mX8_keeps 54 [some (.ref b0), some (.int 0)] [] K (ui x b0 19 ((gi x b0 19) - 1)) Q)) ∧ (¬ 5180 ≤ l1 → (vp_in l1 n_b0_20 ∧ (vp_in (l1 - 518) n_b0_20 ∧ (GV mX8_keeps 13 [some (.ref b0), some (.int (l1 + 1))] [] K (ui x b0_20 ((l1 - 518) : Int32).toNatClampNeg (gi x b0_20 (l1 : Int32).toNatClampNeg)) Q))))) : GV mX8_keeps 13 [some (.ref b0), some (.int l1)] [] K x Q := by
  show mGM mX8_keeps 13 [some (.ref b0), some (.int l1)] [] (hp K x) (PV K Q)
  refine r_iload_n (pc := 13) dX8_keeps_13 rfl ?_
  refine r_sipush (pc := 14) (v := 5180) dX8_keeps_14 (by decide) ?_
  refine r_icmp_ge (pc := 17) (tgt := 42) dX8_keeps_17 (by decide) (fun q => ?_) (fun q => ?_)
  · have K0 := K0.1 q
    refine r_aload_n (pc := 42) dX8_keeps_42 rfl ?_
    refine r_dup (pc := 43) dX8_keeps_43 rfl ?_
    refine s_getI (pc := 44) dX8_keeps_44 fl_X8_262 rfl k_b0 ?_
    refine r_iconst (pc := 47) (v := 1) dX8_keeps_47 (by decide) ?_
    refine r_isub (pc := 48) dX8_keeps_48 ?_
    refine s_putI (pc := 49) dX8_keeps_49 fl_X8_262 rfl rfl k_b0 ?_
    refine r_iconst (pc := 52) (v := 0) dX8_keeps_52 (by decide) ?_
    refine r_istore_n (pc := 53) dX8_keeps_53 (by decide) ?_
    exact r_le (L' := [some (.ref b0), some (.int 0)]) ⟨rfl, ⟨rfl, trivial⟩⟩ K0
  · have K0 := K0.2 q
    refine r_aload_n (pc := 20) dX8_keeps_20 rfl ?_
    refine s_getR (pc := 21) dX8_keeps_21 fl_X8_36 rfl k_b0 g_b0_20 ?_
    refine r_iload_n (pc := 24) dX8_keeps_24 rfl ?_
    refine r_sipush (pc := 25) (v := 518) dX8_keeps_25 (by decide) ?_
    refine r_isub (pc := 28) dX8_keeps_28 ?_
    refine r_aload_n (pc := 29) dX8_keeps_29 rfl ?_
    refine s_getR (pc := 30) dX8_keeps_30 fl_X8_36 rfl k_b0 g_b0_20 ?_
    refine r_iload_n (pc := 33) dX8_keeps_33 rfl ?_
    obtain ⟨i_2, K0⟩ := K0
    refine s_iald (pc := 34) dX8_keeps_34 k_b0_20 i_2 ?_
    obtain ⟨i_3, K0⟩ := K0
    refine s_iast (pc := 35) dX8_keeps_35 k_b0_20 i_3 ?_
    refine r_iinc (pc := 36) (v := l1 + 1) dX8_keeps_36 rfl rfl (by decide) ?_
    refine r_goto (pc := 39) (L := [some (.ref b0), some (.int (l1 + 1))]) (tgt := 13) dX8_keeps_39 (by decide) ?_
    exact r_le (L' := [some (.ref b0), some (.int (l1 + 1))]) ⟨rfl, ⟨rfl, trivial⟩⟩ K0
set_option maxHeartbeats 2000000 in
theorem v_X8_keeps_54 {K : Sh} {x : Cn} {Q : Cn → Prop} {b0 : Nat} {l1 : Int32} {b0_20 : Nat} {b0_1 : Nat} {n_b0_1 : Nat} {n_b0_20 : Nat} (k_b0 : kk K b0 = some (8, 0)) (g_b0_20 : gr x b0 20 = some b0_20) (g_b0_1 : gr x b0 1 = some b0_1) (k_b0_1 : kk K b0_1 = some (20, n_b0_1)) (k_b0_20 : kk K b0_20 = some (20, n_b0_20)) (K0 : (518 ≤ l1 → (Q (ui x b0 19 ((gi x b0 19) + 1)))) ∧ (¬ 518 ≤ l1 → (vp_in l1 n_b0_1 ∧ (vp_in ((518 * (gi x b0 19)) + l1) n_b0_20 ∧ (GV mX8_keeps 54 [some (.ref b0), some (.int (l1 + 1))] [] K (ui x b0_20 (((518 * (gi x b0 19)) + l1) : Int32).toNatClampNeg (gi x b0_1 (l1 : Int32).toNatClampNeg)) Q))))) : GV mX8_keeps 54 [some (.ref b0), some (.int l1)] [] K x Q := by
  show mGM mX8_keeps 54 [some (.ref b0), some (.int l1)] [] (hp K x) (PV K Q)
  refine r_iload_n (pc := 54) dX8_keeps_54 rfl ?_
  refine r_sipush (pc := 55) (v := 518) dX8_keeps_55 (by decide) ?_
  refine r_icmp_ge (pc := 58) (tgt := 88) dX8_keeps_58 (by decide) (fun q => ?_) (fun q => ?_)
  · have K0 := K0.1 q
    refine r_aload_n (pc := 88) dX8_keeps_88 rfl ?_
    refine r_dup (pc := 89) dX8_keeps_89 rfl ?_
    refine s_getI (pc := 90) dX8_keeps_90 fl_X8_262 rfl k_b0 ?_
    refine r_iconst (pc := 93) (v := 1) dX8_keeps_93 (by decide) ?_
    refine r_iadd (pc := 94) dX8_keeps_94 ?_
    refine s_putI (pc := 95) dX8_keeps_95 fl_X8_262 rfl rfl k_b0 ?_
    exact s_ret rfl dX8_keeps_98 K0
  · have K0 := K0.2 q
    refine r_aload_n (pc := 61) dX8_keeps_61 rfl ?_
    refine s_getR (pc := 62) dX8_keeps_62 fl_X8_36 rfl k_b0 g_b0_20 ?_
    refine r_sipush (pc := 65) (v := 518) dX8_keeps_65 (by decide) ?_
    refine r_aload_n (pc := 68) dX8_keeps_68 rfl ?_
    refine s_getI (pc := 69) dX8_keeps_69 fl_X8_262 rfl k_b0 ?_
    refine r_imul (pc := 72) dX8_keeps_72 ?_
    refine r_iload_n (pc := 73) dX8_keeps_73 rfl ?_
    refine r_iadd (pc := 74) dX8_keeps_74 ?_
    refine r_aload_n (pc := 75) dX8_keeps_75 rfl ?_
    refine s_getR (pc := 76) dX8_keeps_76 fl_X8_9 rfl k_b0 g_b0_1 ?_
    refine r_iload_n (pc := 79) dX8_keeps_79 rfl ?_
    obtain ⟨i_2, K0⟩ := K0
    refine s_iald (pc := 80) dX8_keeps_80 k_b0_1 i_2 ?_
    obtain ⟨i_3, K0⟩ := K0
    refine s_iast (pc := 81) dX8_keeps_81 k_b0_20 i_3 ?_
    refine r_iinc (pc := 82) (v := l1 + 1) dX8_keeps_82 rfl rfl (by decide) ?_
    refine r_goto (pc := 85) (L := [some (.ref b0), some (.int (l1 + 1))]) (tgt := 54) dX8_keeps_85 (by decide) ?_
    exact r_le (L' := [some (.ref b0), some (.int (l1 + 1))]) ⟨rfl, ⟨rfl, trivial⟩⟩ K0
section
theorem sp_X8_keeps {x : Cn} {Q : Cn → Prop} {n : Nat} (M : MRf x 718) (hn : n ≤ 10) (h19 : gi x 717 19 = nI n) (k : ∀ y, RFr x y → (∀ a j, a ≠ 724 → ¬ (a = 717 ∧ j = 19) → gi y a j = gi x a j) → gi y 717 19 = nI (pn n) → (∀ j, j < pn n → ∀ i, i < 518 → gi y 724 (518 * j + i) = push (fun j i => gi x 724 (518 * j + i)) n (gi x 718) j i) → Q y) : mSV mX8_keeps [.ref 717] KW x Q := by
  have k724 : kk KW 724 = some (20, 5180) := by decide
  have k2 : ∀ m v y, m < 10 → gi y 717 19 = nI m → y.2 = x.2 → (∀ a j, a ≠ 724 → ¬ (a = 717 ∧ j = 19) → gi y a j = gi x a j) → v ≤ 518 → (∀ i, i < v → gi y 724 (518 * m + i) = gi x 718 i) → (∀ z, z.2 = x.2 → (∀ a j, a ≠ 724 → ¬ (a = 717 ∧ j = 19) → gi z a j = gi x a j) → gi z 717 19 = nI (m + 1) → (∀ i, i < 518 → gi z 724 (518 * m + i) = gi x 718 i) → (∀ i, i < 518 * m → gi z 724 i = gi y 724 i) → Q z) → GV mX8_keeps 54 [some (.ref 717), some (.int (nI v))] [] KW y Q := by
    intro m v y hm
    generalize hd : 518 - v = d
    induction d generalizing v y with
    | zero =>
      intro y1 y2 y3 hv y4 kq
      have : v = 518 := by omega
      subst this
      refine v_X8_keeps_54 km ((M.keep y2).2.2.2.2.2.2.2.1) ((M.keep y2).1) km1 k724 ⟨fun _ => ?_, fun z => absurd (Int32.le_refl _) z⟩
      rw [y1, nI_1]
      exact kq _ y2 (fun a j a1 a2 => by rw [gi_ui, if_neg a2]; exact y3 a j a1 a2) rfl (fun i hi => by rw [gi_ui, if_neg (by omega)]; exact y4 i hi) (fun i hi => by rw [gi_ui, if_neg (by omega)])
    | succ d ih =>
      intro y1 y2 y3 hv y4 kq
      refine v_X8_keeps_54 km ((M.keep y2).2.2.2.2.2.2.2.1) ((M.keep y2).1) km1 k724 ⟨fun z => absurd z (nI_ge (b := 518) (by omega) (by decide)), fun _ => ⟨vp_in_nI (by omega) (by decide), ?_⟩⟩
      rw [y1, show (518 : Int32) = nI 518 by decide, pk_mul, nI_add, nI_clamp (show v < 2 ^ 31 by omega), nI_clamp (show 518 * m + v < 2 ^ 31 by omega), nI_1]
      refine ⟨vp_in_nI (by omega) (by decide), ih (v + 1) _ (by omega) ?_ y2 (fun a j a1 a2 => by rw [gi_ui, if_neg (fun u => a1 u.1)]; exact y3 a j a1 a2) (by omega) (fun i hi => ?_) (fun z z1 z2 z3 z4 z5 => kq z z1 z2 z3 z4 (fun i hi => ?_))⟩
      · rw [gi_ui, if_neg (by omega)]; exact y1
      · rw [gi_ui]
        by_cases c : i = v
        · rw [c, if_pos ⟨rfl, rfl⟩]
          exact y3 718 v (by decide) (by omega)
        · rw [if_neg (by omega)]
          exact y4 i (by omega)
      · rw [z5 i hi, gi_ui, if_neg (by omega)]
  have fr : ∀ y, y.2 = x.2 → (∀ a j, a ≠ 724 → ¬ (a = 717 ∧ j = 19) → gi y a j = gi x a j) → RFr x y := fun y y1 y2 => ⟨y1, fun a j a1 a2 a3 a4 a5 a6 a7 => y2 a j a6 (fun u => a7 (by omega))⟩
  refine v_X8_keeps_0 km ?_
  rw [h19, show (10 : Int32) = nI 10 by decide, nI_eq (by omega) (by decide)]
  refine ⟨fun z => k2 n 0 x (by omega) h19 rfl (fun _ _ _ _ => rfl) (by omega) (fun i hi => absurd hi (by omega)) (fun y y1 y2 y3 y4 y5 => k y (fr y y1 y2) y2 ?_ (fun j hj i hi => ?_)), fun z => ?_⟩
  · unfold pn; rw [if_neg z]; exact y3
  · unfold pn at hj
    rw [if_neg z] at hj
    unfold push
    rw [if_neg z]
    by_cases c : j = n
    · rw [if_pos c, c]; exact y4 i hi
    · rw [if_neg c]; exact y5 _ (by omega)
  · subst z
    have k1 : ∀ d v y, v + d = 5180 → 518 ≤ v → y.2 = x.2 → (∀ a j, a ≠ 724 → gi y a j = gi x a j) → (∀ i, gi y 724 i = if i + 518 < v then gi x 724 (i + 518) else gi x 724 i) → GV mX8_keeps 13 [some (.ref 717), some (.int (nI v))] [] KW y Q := by
      intro d
      induction d with
      | zero =>
        intro v y hv h5 y1 y2 y3
        have : v = 5180 := by omega
        subst this
        refine v_X8_keeps_13 km ((M.keep y1).2.2.2.2.2.2.2.1) k724 ⟨fun _ => ?_, fun z => absurd (Int32.le_refl _) z⟩
        rw [y2 717 19 (by decide), h19, nI_pred]
        refine k2 9 0 _ (by omega) rfl y1 (fun a j a1 a2 => by rw [gi_ui, if_neg a2]; exact y2 a j a1) (by omega) (fun i hi => absurd hi (by omega)) (fun z z1 z2 z3 z4 z5 => k z (fr z z1 z2) z2 z3 (fun j hj i hi => ?_))
        have hj : j < 10 := hj
        unfold push
        rw [if_pos rfl]
        by_cases c : j = 9
        · rw [if_pos c, c]; exact z4 i hi
        · rw [if_neg c, z5 _ (by omega), gi_ui, if_neg (by omega), y3, if_pos (by omega)]
          congr 1
          omega
      | succ d ih =>
        intro v y hv h5 y1 y2 y3
        obtain ⟨v', rfl⟩ : ∃ v', v = v' + 518 := ⟨v - 518, by omega⟩
        refine v_X8_keeps_13 km ((M.keep y1).2.2.2.2.2.2.2.1) k724 ⟨fun z => absurd z (nI_ge (b := 5180) (by omega) (by decide)), fun _ => ⟨vp_in_nI (by omega) (by decide), ?_⟩⟩
        rw [sub518, nI_clamp (show v' < 2 ^ 31 by omega), nI_clamp (show v' + 518 < 2 ^ 31 by omega), nI_1]
        refine ⟨vp_in_nI (by omega) (by decide), ih (v' + 518 + 1) _ (by omega) (by omega) y1 (fun a j a1 => by rw [gi_ui, if_neg (fun u => a1 u.1)]; exact y2 a j a1) (fun i => ?_)⟩
        rw [gi_ui]
        by_cases c : i = v'
        · rw [if_pos ⟨rfl, c⟩, if_pos (by omega), c, y3, if_neg (by omega)]
        · rw [if_neg (fun u => c u.2), y3]
          by_cases c2 : i + 518 < v' + 518
          · rw [if_pos c2, if_pos (by omega)]
          · rw [if_neg c2, if_neg (by omega)]
    exact k1 (5180 - 518) 518 x (by omega) (by omega) rfl (fun _ _ _ => rfl) (fun i => by rw [if_neg (by omega)])
end
set_option maxHeartbeats 2000000 in
theorem v_X7_undo_0 {K : Sh} {x : Cn} {Q : Int32 → Cn → Prop} {b0 : Nat} {b0_2 : Nat} {b0_4 : Nat} {n_b0_4 : Nat} (k_b0 : kk K b0 = some (7, 0)) (g_b0_2 : gr x b0 2 = some b0_2) (g_b0_4 : gr x b0 4 = some b0_4) (k_b0_4 : kk K b0_4 = some (22, n_b0_4)) (k_b0_2 : kk K b0_2 = some (4, 0)) (K0 : (¬ (gi x b0 5) = 0 → (vp_in (gi (ui x b0 5 ((gi x b0 5) - 1)) b0 5) n_b0_4 ∧ (∃ c_3 : Nat, gr x b0_4 (((gi (ui x b0 5 ((gi x b0 5) - 1)) b0 5) : Int32).toNatClampNeg) = some c_3 ∧ (mSV mX4_copyFrom [.ref b0_2, .ref c_3] K (ui x b0 5 ((gi x b0 5) - 1)) (fun y_5 => Q (gi y_5 b0 5) y_5))))) ∧ ((gi x b0 5) = 0 → (Q (-1) x))) : mSI mX7_undo [.ref b0] K x Q := by
  refine s_I (by decide) (by simp [Value.category]) (Nat.le_of_ble_eq_true rfl) ?_
  show mGM mX7_undo 0 [some (.ref b0)] [] (hp K x) (PI K Q)
  refine r_aload_n (pc := 0) dX7_undo_0 rfl ?_
  refine s_getI (pc := 1) dX7_undo_1 fl_X7_35 rfl k_b0 ?_
  refine r_if_ne (pc := 4) (tgt := 9) dX7_undo_4 (by decide) (fun q => ?_) (fun q => ?_)
  · have K0 := K0.1 q
    refine r_aload_n (pc := 9) dX7_undo_9 rfl ?_
    refine r_dup (pc := 10) dX7_undo_10 rfl ?_
    refine s_getI (pc := 11) dX7_undo_11 fl_X7_35 rfl k_b0 ?_
    refine r_iconst (pc := 14) (v := 1) dX7_undo_14 (by decide) ?_
    refine r_isub (pc := 15) dX7_undo_15 ?_
    refine s_putI (pc := 16) dX7_undo_16 fl_X7_35 rfl rfl k_b0 ?_
    refine r_aload_n (pc := 19) dX7_undo_19 rfl ?_
    refine s_getR (pc := 20) dX7_undo_20 fl_X7_20 rfl k_b0 g_b0_2 ?_
    refine r_aload_n (pc := 23) dX7_undo_23 rfl ?_
    refine s_getR (pc := 24) dX7_undo_24 fl_X7_31 rfl k_b0 g_b0_4 ?_
    refine r_aload_n (pc := 27) dX7_undo_27 rfl ?_
    refine s_getI (pc := 28) dX7_undo_28 fl_X7_35 rfl k_b0 ?_
    obtain ⟨i_2, K0⟩ := K0
    obtain ⟨c_3, g_4, K0⟩ := K0
    refine s_aald (pc := 31) dX7_undo_31 (by decide) rfl k_b0_4 i_2 g_4 ?_
    refine s_VV (pc := 32) mX4_copyFrom (ci := 4) (a := b0_2) (As := [.ref c_3]) dX7_undo_32 lk_X7_80 in_X4_copyFrom mo_X4_copyFrom ⟨by decide, rfl⟩ ⟨by decide, by decide⟩ (Nat.le_of_ble_eq_true rfl) k_b0_2 (mSV_mono K0 (fun y_5 K0 => ?_))
    refine r_aload_n (pc := 35) dX7_undo_35 rfl ?_
    refine s_getI (pc := 36) dX7_undo_36 fl_X7_35 rfl k_b0 ?_
    exact s_iret rfl dX7_undo_39 K0
  · have K0 := K0.2 q
    refine r_iconst (pc := 7) (v := (-1)) dX7_undo_7 (by decide) ?_
    exact s_iret rfl dX7_undo_8 K0
set_option maxHeartbeats 2000000 in
theorem v_X8_undo_0 {K : Sh} {x : Cn} {Q : Int32 → Cn → Prop} {b0 : Nat}  (k_b0 : kk K b0 = some (8, 0)) (K0 : (¬ (gi x b0 19) = 0 → (GI mX8_undo 21 [some (.ref b0), some (.int 0)] [] K (ui x b0 19 ((gi x b0 19) - 1)) Q)) ∧ ((gi x b0 19) = 0 → (Q (-1) x))) : mSI mX8_undo [.ref b0] K x Q := by
  refine s_I (by decide) (by simp [Value.category]) (Nat.le_of_ble_eq_true rfl) ?_
  show mGM mX8_undo 0 [some (.ref b0), none] [] (hp K x) (PI K Q)
  refine r_aload_n (pc := 0) dX8_undo_0 rfl ?_
  refine s_getI (pc := 1) dX8_undo_1 fl_X8_262 rfl k_b0 ?_
  refine r_if_ne (pc := 4) (tgt := 9) dX8_undo_4 (by decide) (fun q => ?_) (fun q => ?_)
  · have K0 := K0.1 q
    refine r_aload_n (pc := 9) dX8_undo_9 rfl ?_
    refine r_dup (pc := 10) dX8_undo_10 rfl ?_
    refine s_getI (pc := 11) dX8_undo_11 fl_X8_262 rfl k_b0 ?_
    refine r_iconst (pc := 14) (v := 1) dX8_undo_14 (by decide) ?_
    refine r_isub (pc := 15) dX8_undo_15 ?_
    refine s_putI (pc := 16) dX8_undo_16 fl_X8_262 rfl rfl k_b0 ?_
    refine r_iconst (pc := 19) (v := 0) dX8_undo_19 (by decide) ?_
    refine r_istore_n (pc := 20) dX8_undo_20 (by decide) ?_
    exact r_le (L' := [some (.ref b0), some (.int 0)]) ⟨rfl, ⟨rfl, trivial⟩⟩ K0
  · have K0 := K0.2 q
    refine r_iconst (pc := 7) (v := (-1)) dX8_undo_7 (by decide) ?_
    exact s_iret rfl dX8_undo_8 K0
set_option maxHeartbeats 2000000 in
theorem v_X8_undo_21 {K : Sh} {x : Cn} {Q : Int32 → Cn → Prop} {b0 : Nat} {l1 : Int32} {b0_1 : Nat} {b0_20 : Nat} {n_b0_20 : Nat} {n_b0_1 : Nat} (k_b0 : kk K b0 = some (8, 0)) (g_b0_1 : gr x b0 1 = some b0_1) (g_b0_20 : gr x b0 20 = some b0_20) (k_b0_20 : kk K b0_20 = some (20, n_b0_20)) (k_b0_1 : kk K b0_1 = some (20, n_b0_1)) (K0 : (518 ≤ l1 → (Q (gi x b0 19) x)) ∧ (¬ 518 ≤ l1 → (vp_in ((518 * (gi x b0 19)) + l1) n_b0_20 ∧ (vp_in l1 n_b0_1 ∧ (GI mX8_undo 21 [some (.ref b0), some (.int (l1 + 1))] [] K (ui x b0_1 (l1 : Int32).toNatClampNeg (gi x b0_20 (((518 * (gi x b0 19)) + l1) : Int32).toNatClampNeg)) Q))))) : GI mX8_undo 21 [some (.ref b0), some (.int l1)] [] K x Q := by
  show mGM mX8_undo 21 [some (.ref b0), some (.int l1)] [] (hp K x) (PI K Q)
  refine r_iload_n (pc := 21) dX8_undo_21 rfl ?_
  refine r_sipush (pc := 22) (v := 518) dX8_undo_22 (by decide) ?_
  refine r_icmp_ge (pc := 25) (tgt := 55) dX8_undo_25 (by decide) (fun q => ?_) (fun q => ?_)
  · have K0 := K0.1 q
    refine r_aload_n (pc := 55) dX8_undo_55 rfl ?_
    refine s_getI (pc := 56) dX8_undo_56 fl_X8_262 rfl k_b0 ?_
    exact s_iret rfl dX8_undo_59 K0
  · have K0 := K0.2 q
    refine r_aload_n (pc := 28) dX8_undo_28 rfl ?_
    refine s_getR (pc := 29) dX8_undo_29 fl_X8_9 rfl k_b0 g_b0_1 ?_
    refine r_iload_n (pc := 32) dX8_undo_32 rfl ?_
    refine r_aload_n (pc := 33) dX8_undo_33 rfl ?_
    refine s_getR (pc := 34) dX8_undo_34 fl_X8_36 rfl k_b0 g_b0_20 ?_
    refine r_sipush (pc := 37) (v := 518) dX8_undo_37 (by decide) ?_
    refine r_aload_n (pc := 40) dX8_undo_40 rfl ?_
    refine s_getI (pc := 41) dX8_undo_41 fl_X8_262 rfl k_b0 ?_
    refine r_imul (pc := 44) dX8_undo_44 ?_
    refine r_iload_n (pc := 45) dX8_undo_45 rfl ?_
    refine r_iadd (pc := 46) dX8_undo_46 ?_
    obtain ⟨i_2, K0⟩ := K0
    refine s_iald (pc := 47) dX8_undo_47 k_b0_20 i_2 ?_
    obtain ⟨i_3, K0⟩ := K0
    refine s_iast (pc := 48) dX8_undo_48 k_b0_1 i_3 ?_
    refine r_iinc (pc := 49) (v := l1 + 1) dX8_undo_49 rfl rfl (by decide) ?_
    refine r_goto (pc := 52) (L := [some (.ref b0), some (.int (l1 + 1))]) (tgt := 21) dX8_undo_52 (by decide) ?_
    exact r_le (L' := [some (.ref b0), some (.int (l1 + 1))]) ⟨rfl, ⟨rfl, trivial⟩⟩ K0
theorem eq_undo : Both mX7_undo mX8_undo [] := by
  intro x R
  obtain ⟨W, C, S, A, N, E, nm, hs⟩ := R.sea
  obtain ⟨n, hh, h19⟩ := hs.hs
  obtain ⟨g1, g2, g3⟩ := id hh
  refine v_X7_undo_0 k0 R.1.2.1 R.1.2.2.2.1 (show kk KW 58 = some (22, 10) by decide) (ks0 E.1) ?_
  rw [g1, nI_z (by omega)]
  refine ⟨fun z => ?_, fun z => v_X8_undo_0 km ?_⟩
  · obtain ⟨m, rfl⟩ : ∃ m, n = m + 1 := ⟨n - 1, by omega⟩
    rw [nI_pred, gi_ui, if_pos ⟨rfl, rfl⟩, nI_clamp (by omega)]
    obtain ⟨q, W2, S2, A2, N2, q1, q2, q3⟩ := g3 m (by omega)
    obtain ⟨i, hi, ei⟩ := R.1.past.2.1 m (by omega)
    have hq : q = 177 + 54 * i := Option.some.inj (q1.symm.trans ei)
    refine ⟨vp_in_nI (by omega) (by decide), q, q1, ?_⟩
    have eo : ∀ a k, ¬ (a = 0 ∧ k = 5) → gi (ui x 0 5 (nI m)) a k = gi x a k := fun a k h => by rw [gi_ui, if_neg h]
    refine sp_X4_copyFrom E.1 (E.2.1.keep rfl) (q2.mv (y := ui x 0 5 (nI m)) (fun _ _ _ _ => rfl) (fun a k z1 z2 _ => eo a k (by omega)) (fun _ _ => rfl)) (by omega) (fun y f Ey => ?_)
    rw [f.2 0 5 (by omega), gi_ui, if_pos ⟨rfl, rfl⟩]
    have c2 : CRf y := R.1.keep f.1
    have m2 : MRf y 718 := R.2.1.keep f.1
    have eo2 : ∀ a k, ¬ (2 ≤ a ∧ a < 56) → ¬ (a = 0 ∧ k = 5) → gi y a k = gi x a k := fun a k h1 h2 => (f.2 a k (by omega)).trans (eo a k h2)
    have hh2 : Hs y C (gi x 718) m (fun j i => gi x 724 (518 * j + i)) := by
      refine ⟨(f.2 0 5 (by omega)).trans rfl, by omega, fun j hj => ?_⟩
      obtain ⟨q', W3, S3, A3, N3, p1, p2, p3⟩ := g3 j (by omega)
      obtain ⟨i', hi', ei'⟩ := R.1.past.2.1 j (by omega)
      have hq' : q' = 177 + 54 * i' := Option.some.inj (p1.symm.trans ei')
      exact ⟨q', W3, S3, A3, N3, (f.rr 58 j).trans p1, p2.mv (fun a k _ _ => f.rr a k) (fun a k z1 z2 _ => eo2 a k (by omega) (by omega)) (fun _ _ => rfl), p3⟩
    refine v_X8_undo_0 km ?_
    rw [eo2 717 19 (by omega) (by omega), h19, nI_z (by omega)]
    refine ⟨fun _ => ?_, fun z => absurd z (by omega)⟩
    rw [nI_pred]
    have key : ∀ d v w, v + d = 518 → w.2 = y.2 → gi w 717 19 = nI m → (∀ a k, a ≠ 718 → ¬ (a = 717 ∧ k = 19) → gi w a k = gi y a k) → (∀ i, i < v → gi w 718 i = gi x 724 (518 * m + i)) → GI mX8_undo 21 [some (.ref 717), some (.int (nI v))] [] KW w (fun r' z => nI m = r' ∧ Rel z) := by
      intro d
      induction d with
      | zero =>
        intro v w hv w1 w2 w3 w4
        have : v = 518 := by omega
        subst this
        have m3 := m2.keep w1
        refine v_X8_undo_21 km m3.1 m3.2.2.2.2.2.2.2.1 (show kk KW 724 = some (20, 5180) by decide) km1 ⟨fun _ => ?_, fun z => absurd (Int32.le_refl _) z⟩
        rw [w2]
        refine ⟨rfl, R.fin nm (y := y) (fun a k a1 a2 a3 a4 => eo2 a k a1 a4) c2 hh2 Ey q3 m2 ⟨w1, fun a k a1 a2 a3 a4 a5 a6 a7 => w3 a k a1 (fun u => a7 (by omega))⟩ w2 (fun j hj i hi => ?_) w4⟩
        rw [w3 724 _ (by decide) (by omega), eo2 724 _ (by omega) (by omega)]
      | succ d ih =>
        intro v w hv w1 w2 w3 w4
        have m3 := m2.keep w1
        refine v_X8_undo_21 km m3.1 m3.2.2.2.2.2.2.2.1 (show kk KW 724 = some (20, 5180) by decide) km1 ⟨fun z => absurd z (nI_ge (b := 518) (by omega) (by decide)), fun _ => ?_⟩
        rw [w2, show (518 : Int32) = nI 518 by decide, pk_mul, nI_add, nI_clamp (show v < 2 ^ 31 by omega), nI_clamp (show 518 * m + v < 2 ^ 31 by omega), nI_1]
        refine ⟨vp_in_nI (by omega) (by decide), vp_in_nI (by omega) (by decide), ih (v + 1) _ (by omega) w1 ?_ (fun a k a1 a2 => ?_) (fun i hi => ?_)⟩
        · rw [gi_ui, if_neg (by omega)]; exact w2
        · rw [gi_ui, if_neg (fun u => a1 u.1)]; exact w3 a k a1 a2
        · rw [gi_ui]
          by_cases c : i = v
          · rw [if_pos ⟨rfl, c⟩, c, w3 724 _ (by decide) (by omega), eo2 724 _ (by omega) (by omega)]
          · rw [if_neg (fun u => c u.2)]
            exact w4 i (by omega)
    exact key 518 0 _ (by omega) rfl rfl (fun a k a1 a2 => by rw [gi_ui, if_neg a2]) (fun i hi => absurd hi (by omega))
  · rw [h19, nI_z (by omega)]
    exact ⟨fun w => absurd z w, fun _ => ⟨rfl, R⟩⟩


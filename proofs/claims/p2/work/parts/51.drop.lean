theorem CRf.off {x y : Cn} (h : CRf x) (e : ∀ a k, ¬ (2 ≤ a ∧ a < 56) → gr y a k = gr x a k) : CRf y := by
  have sr : ∀ q, Isea q → q ≠ 2 → SRf x q → SRf y q := by
    intro q hq h2 g
    have c : ¬ (2 ≤ q ∧ q < 56) ∧ ¬ (2 ≤ q + 3 ∧ q + 3 < 56) ∧ ¬ (2 ≤ q + 4 ∧ q + 4 < 56) := by
      rcases hq with rfl | rfl | rfl | ⟨i, hi, rfl⟩ <;> omega
    unfold SRf at g ⊢
    simp only [e q _ c.1, e (q + 3) _ c.2.1, e (q + 4) _ c.2.2]
    exact g
  obtain ⟨a1, a2, a3, a4, a5, a6, a7, a8, a9, a10, a11, a12, a13, a14, a15, a16, a17, a18, a19, a20, a21, a22⟩ := h
  refine ⟨?_, ?_, ?_, ?_, ?_, ?_, ?_, ?_, ?_, ?_, ?_, ?_, ?_, ?_, ?_, ?_, ?_, sr 60 (by unfold Isea; omega) (by decide) a18, sr 118 (by unfold Isea; omega) (by decide) a19, fun j hj => sr _ (Or.inr (Or.inr (Or.inr ⟨j, hj, rfl⟩))) (by omega) (a20 j hj), ?_, ?_⟩
  all_goals simp only [e 0 _ (by omega), e 56 _ (by omega), e 58 _ (by omega), e 59 _ (by omega), e 114 _ (by omega), e 117 _ (by omega), e 175 _ (by omega)]
  all_goals assumption
theorem MRf.off {x y : Cn} {t : Nat} (h : MRf x t) (e : ∀ a k, ¬ (2 ≤ a ∧ a < 56) → gr y a k = gr x a k) : MRf y t := by
  unfold MRf at h ⊢
  simp only [e 717 _ (by omega)]
  exact h
theorem AC.up2 {x y z : Cn} {W C S A N W' S' A' N' n : Nat} {T T' : TT} {H : Nat → TT} (a : AC x y W C S A N n T H) (h1 : ∀ b k, ¬ (2 ≤ b ∧ b < 56) → gi z b k = gi y b k) (h2 : ∀ b k, ¬ (2 ≤ b ∧ b < 56) → gr z b k = gr y b k) (E : SEA z 2 T' W' C S' A' N') : AC x z W' C S' A' N' n T' H :=
  ⟨fun b k a1 a2 a3 a4 => (h1 b k a1).trans (a.1 b k a1 a2 a3 a4), a.2.1.off h2, a.2.2.1.off h2, a.2.2.2.1.mv a.2.1 (h1 0 5 (by omega)) (fun b k g1 g2 => h1 b k (by omega)) (fun b k hb => h2 b k (by omega)) (fun _ _ => rfl), E⟩
theorem Was.cg' {T T' : TT} {C W a a' : Nat} (w : Was T C W a) (h : ∀ k, k < 7 → ao T' a' k = ao T a k) : Was T' C W a' := by
  unfold Was at w ⊢
  simp only [h 0 (by decide), h 1 (by decide), h 2 (by decide), h 3 (by decide), h 4 (by decide), h 5 (by decide), h 6 (by decide)]
  exact w
/-- an ask goes out of the row -/
def drT (T : TT) (a A : Nat) : TT := fun i => if i = 3 then nI (A - 1) else if 350 + 7 * a ≤ i ∧ i < 511 then T (i + 7) else T i
def rot (a A k : Nat) : Nat := if k < a then k else if k + 1 < A then k + 1 else if k + 1 = A then a else k
theorem drT_off {T : TT} {a A i : Nat} (h3 : i ≠ 3) (h : i < 350) : drT T a A i = T i := by
  unfold drT
  rw [if_neg h3, if_neg (by omega)]
theorem ao_drT {T : TT} {a A b k : Nat} (hb : b + 1 < A) (hA : A ≤ 24) (hk : k < 7) : ao (drT T a A) b k = ao T (rot a A b) k := by
  unfold ao drT rot
  rw [if_neg (by omega)]
  by_cases c : b < a
  · rw [if_pos c, if_neg (by omega)]
  · rw [if_neg c, if_pos hb, if_pos (by omega)]
    congr 1
    omega
theorem rot_lt {a A k : Nat} (ha : a < A) (hA : A ≤ 24) (hk : k < 24) : rot a A k < 24 := by
  unfold rot
  split
  · omega
  · split
    · omega
    · split <;> omega
theorem rot_inj {a A k j : Nat} (ha : a < A) (h : rot a A k = rot a A j) : k = j := by
  unfold rot at h
  split at h <;> split at h <;> (try split at h) <;> (try split at h) <;> (try split at h) <;> (try split at h) <;> omega
theorem SEA.drop {x z : Cn} {q : Nat} {T : TT} {W C S A N a : Nat} (E : SEA x q T W C S A N) (ha : a < A) (h1 : ∀ b k, ¬ (b = q ∧ k = 4) → gi z b k = gi x b k) (h2 : gi z q 4 = nI (A - 1)) (h3 : ∀ b k, b ≠ q + 4 → gr z b k = gr x b k) (h4 : ∀ k, k < 24 → gr z (q + 4) k = gr x (q + 4) (rot a A k)) : SEA z q (drT T a A) W C S (A - 1) N := by
  obtain ⟨e1, e2, ⟨v0, v1, v2, v3, v4, v5, v6, v7⟩, w1, w2, w3, w4, w5, w6, w7, w8, w9, w10, w11, w12, w13, w14⟩ := E
  obtain ⟨r1, r2, r3, r4, r5, r6, r7, r8, r9⟩ := id e2
  have hT : ∀ i, i ≠ 3 → i < 350 → drT T a A i = T i := fun i => drT_off
  refine ⟨e1, ⟨?_, ?_, ?_, ?_, ?_, ?_, ?_, ?_, ?_⟩, ⟨?_, ?_, ?_, ?_, ?_, ?_, ?_, ?_⟩, ?_⟩
  · rw [h3 q 5 (by omega)]; exact r1
  · rw [h3 q 6 (by omega)]; exact r2
  · rw [h3 q 7 (by omega)]; exact r3
  · rw [h3 q 8 (by omega)]; exact r4
  · rw [h3 q 9 (by omega)]; exact r5
  · intro s hs; rw [h3 (q + 3) s (by omega)]; exact r6 s hs
  · intro s t hs ht; rw [h3 (q + 3) s (by omega), h3 (q + 3) t (by omega)]; exact r7 s t hs ht
  · intro s hs; rw [h4 s hs]; exact r8 _ (rot_lt ha w9 hs)
  · intro s t hs ht; rw [h4 s hs, h4 t ht]; exact fun g => rot_inj ha (r9 _ _ (rot_lt ha w9 hs) (rot_lt ha w9 ht) g)
  · rw [h1 q 0 (by omega), hT 0 (by decide) (by decide)]; exact v0
  · rw [h1 q 1 (by omega), hT 4 (by decide) (by decide)]; exact v1
  · rw [h1 q 2 (by omega), hT 5 (by decide) (by decide)]; exact v2
  · rw [h1 q 3 (by omega), hT 2 (by decide) (by decide)]; exact v3
  · rw [h2]; exact (if_pos rfl).symm
  · intro h hh
    rw [h1 (q + 1) h (by omega), h1 (q + 2) h (by omega), hT _ (by omega) (by omega), hT _ (by omega) (by omega)]
    exact v5 h hh
  · intro s p hs hp
    rw [h3 (q + 3) s (by omega)] at hp
    obtain ⟨j, hj, ej⟩ := r6 s (by omega)
    have ep : p = q + 6 + j := Option.some.inj (hp.symm.trans ej)
    exact (v6 s p hs hp).cg (fun k _ => h1 p k (by omega)) (fun k hk => hT _ (by omega) (by omega))
  · intro s p hs hp
    rw [h4 s (by omega)] at hp
    have hr : rot a A s < A := by
      unfold rot
      split
      · omega
      · rw [if_pos (by omega)]; omega
    obtain ⟨j, hj, ej⟩ := r8 _ (rot_lt ha w9 (show s < 24 by omega))
    have ep : p = q + 30 + j := Option.some.inj (hp.symm.trans ej)
    exact (v7 _ p hr hp).cg (fun k _ => h1 p k (by omega)) (fun k hk => ao_drT (by omega) w9 hk)
  · refine ⟨by rw [hT 0 (by decide) (by decide)]; exact w1, w2, w3, by rw [hT 1 (by decide) (by decide)]; exact w4, w5, by rw [hT 2 (by decide) (by decide)]; exact w6, w7, if_pos rfl, by omega, by rw [hT 4 (by decide) (by decide)]; exact w10, w11, fun h hh => by rw [hT _ (by omega) (by omega), hT _ (by omega) (by omega)]; exact w12 h hh, fun s hs => (w13 s hs).cg (fun k hk => hT _ (by omega) (by omega)), fun b hb => ?_⟩
    have hr : rot a A b < A := by
      unfold rot
      split
      · omega
      · rw [if_pos (by omega)]; omega
    exact (w14 _ hr).cg' (fun k hk => ao_drT (by omega) w9 hk)
set_option maxHeartbeats 2000000 in
theorem v_X4_removeAsk_0 {K : Sh} {x : Cn} {Q : Cn → Prop} {b0 : Nat} {l1 : Int32} {b0_8 : Nat} {n_b0_8 : Nat} (k_b0 : kk K b0 = some (4, 0)) (g_b0_8 : gr x b0 8 = some b0_8) (k_b0_8 : kk K b0_8 = some (24, n_b0_8)) (K0 : vp_in l1 n_b0_8 ∧ (∃ c_2 : Nat, gr x b0_8 ((l1 : Int32).toNatClampNeg) = some c_2 ∧ (GV mX4_removeAsk 11 [some (.ref b0), some (.int l1), some (.ref c_2), some (.int (l1 + 1))] [] K x Q))) : mSV mX4_removeAsk [.ref b0, .int l1] K x Q := by
  refine s_V (by decide) (by simp [Value.category]) (Nat.le_of_ble_eq_true rfl) ?_
  show mGM mX4_removeAsk 0 [some (.ref b0), some (.int l1), none, none] [] (hp K x) (PV K Q)
  refine r_aload_n (pc := 0) dX4_removeAsk_0 rfl ?_
  refine s_getR (pc := 1) dX4_removeAsk_1 fl_X4_42 rfl k_b0 g_b0_8 ?_
  refine r_iload_n (pc := 4) dX4_removeAsk_4 rfl ?_
  obtain ⟨i_1, K0⟩ := K0
  obtain ⟨c_2, g_3, K0⟩ := K0
  refine s_aald (pc := 5) dX4_removeAsk_5 (by decide) rfl k_b0_8 i_1 g_3 ?_
  refine r_astore_n (pc := 6) dX4_removeAsk_6 (by decide) ?_
  refine r_iload_n (pc := 7) (L := [some (.ref b0), some (.int l1), some (.ref c_2), none]) dX4_removeAsk_7 rfl ?_
  refine r_iconst (pc := 8) (v := 1) dX4_removeAsk_8 (by decide) ?_
  refine r_iadd (pc := 9) dX4_removeAsk_9 ?_
  refine r_istore_n (pc := 10) dX4_removeAsk_10 (by decide) ?_
  exact r_le (L' := [some (.ref b0), some (.int l1), some (.ref c_2), some (.int (l1 + 1))]) ⟨rfl, ⟨rfl, ⟨rfl, ⟨rfl, trivial⟩⟩⟩⟩ K0
set_option maxHeartbeats 2000000 in
theorem v_X4_removeAsk_11 {K : Sh} {x : Cn} {Q : Cn → Prop} {b0 : Nat} {l1 : Int32} {b2 : Nat} {l3 : Int32} {b0_8 : Nat} {n_b0_8 : Nat} (k_b0 : kk K b0 = some (4, 0)) (g_b0_8 : gr x b0 8 = some b0_8) (k_b0_8 : kk K b0_8 = some (24, n_b0_8)) (k_b2 : kk K b2 = some (0, 0)) (K0 : ((gi x b0 4) ≤ l3 → (vp_in (gi (ui x b0 4 ((gi x b0 4) - 1)) b0 4) n_b0_8 ∧ (Q (ur (ui x b0 4 ((gi x b0 4) - 1)) b0_8 ((gi (ui x b0 4 ((gi x b0 4) - 1)) b0 4) : Int32).toNatClampNeg (some b2))))) ∧ (¬ (gi x b0 4) ≤ l3 → (vp_in l3 n_b0_8 ∧ (∃ c_4 : Nat, gr x b0_8 ((l3 : Int32).toNatClampNeg) = some c_4 ∧ (kk K c_4 = some (0, 0) ∧ (vp_in (l3 - 1) n_b0_8 ∧ (GV mX4_removeAsk 11 [some (.ref b0), some (.int l1), some (.ref b2), some (.int (l3 + 1))] [] K (ur x b0_8 ((l3 - 1) : Int32).toNatClampNeg (some c_4)) Q))))))) : GV mX4_removeAsk 11 [some (.ref b0), some (.int l1), some (.ref b2), some (.int l3)] [] K x Q := by
  show mGM mX4_removeAsk 11 [some (.ref b0), some (.int l1), some (.ref b2), some (.int l3)] [] (hp K x) (PV K Q)
  refine r_iload_n (pc := 11) dX4_removeAsk_11 rfl ?_
  refine r_aload_n (pc := 12) dX4_removeAsk_12 rfl ?_
  refine s_getI (pc := 13) dX4_removeAsk_13 fl_X4_24 rfl k_b0 ?_
  refine r_icmp_ge (pc := 16) (tgt := 39) dX4_removeAsk_16 (by decide) (fun q => ?_) (fun q => ?_)
  · have K0 := K0.1 q
    refine r_aload_n (pc := 39) dX4_removeAsk_39 rfl ?_
    refine r_dup (pc := 40) dX4_removeAsk_40 rfl ?_
    refine s_getI (pc := 41) dX4_removeAsk_41 fl_X4_24 rfl k_b0 ?_
    refine r_iconst (pc := 44) (v := 1) dX4_removeAsk_44 (by decide) ?_
    refine r_isub (pc := 45) dX4_removeAsk_45 ?_
    refine s_putI (pc := 46) dX4_removeAsk_46 fl_X4_24 rfl rfl k_b0 ?_
    refine r_aload_n (pc := 49) dX4_removeAsk_49 rfl ?_
    refine s_getR (pc := 50) dX4_removeAsk_50 fl_X4_42 rfl k_b0 g_b0_8 ?_
    refine r_aload_n (pc := 53) dX4_removeAsk_53 rfl ?_
    refine s_getI (pc := 54) dX4_removeAsk_54 fl_X4_24 rfl k_b0 ?_
    refine r_aload_n (pc := 57) dX4_removeAsk_57 rfl ?_
    obtain ⟨i_2, K0⟩ := K0
    refine s_aast (pc := 58) dX4_removeAsk_58 (by decide) (by decide) rfl k_b0_8 k_b2 i_2 ?_
    exact s_ret rfl dX4_removeAsk_59 K0
  · have K0 := K0.2 q
    refine r_aload_n (pc := 19) dX4_removeAsk_19 rfl ?_
    refine s_getR (pc := 20) dX4_removeAsk_20 fl_X4_42 rfl k_b0 g_b0_8 ?_
    refine r_iload_n (pc := 23) dX4_removeAsk_23 rfl ?_
    refine r_iconst (pc := 24) (v := 1) dX4_removeAsk_24 (by decide) ?_
    refine r_isub (pc := 25) dX4_removeAsk_25 ?_
    refine r_aload_n (pc := 26) dX4_removeAsk_26 rfl ?_
    refine s_getR (pc := 27) dX4_removeAsk_27 fl_X4_42 rfl k_b0 g_b0_8 ?_
    refine r_iload_n (pc := 30) dX4_removeAsk_30 rfl ?_
    obtain ⟨i_3, K0⟩ := K0
    obtain ⟨c_4, g_5, K0⟩ := K0
    refine s_aald (pc := 31) dX4_removeAsk_31 (by decide) rfl k_b0_8 i_3 g_5 ?_
    obtain ⟨e_6, K0⟩ := K0
    obtain ⟨i_7, K0⟩ := K0
    refine s_aast (pc := 32) dX4_removeAsk_32 (by decide) (by decide) rfl k_b0_8 e_6 i_7 ?_
    refine r_iinc (pc := 33) (v := l3 + 1) dX4_removeAsk_33 rfl rfl (by decide) ?_
    refine r_goto (pc := 36) (L := [some (.ref b0), some (.int l1), some (.ref b2), some (.int (l3 + 1))]) (tgt := 11) dX4_removeAsk_36 (by decide) ?_
    exact r_le (L' := [some (.ref b0), some (.int l1), some (.ref b2), some (.int (l3 + 1))]) ⟨rfl, ⟨rfl, ⟨rfl, ⟨rfl, trivial⟩⟩⟩⟩ K0
section
theorem sp_X4_removeAsk {x : Cn} {Q : Cn → Prop} {q : Nat} {T : TT} {W C S A N a : Nat} (E : SEA x q T W C S A N) (ha : a < A) (k : ∀ z, (∀ b j, ¬ (b = q ∧ j = 4) → gi z b j = gi x b j) → gi z q 4 = nI (A - 1) → (∀ b j, b ≠ q + 4 → gr z b j = gr x b j) → (∀ j, j < 24 → gr z (q + 4) j = gr x (q + 4) (rot a A j)) → Q z) : mSV mX4_removeAsk [.ref q, .int (nI a)] KW x Q := by
  have hA : A ≤ 24 := E.nums.2.2.2.2.2.2.2.1
  obtain ⟨j, hj, ej⟩ := E.2.1.2.2.2.2.2.2.2.1 a (by omega)
  have key : ∀ c m y, m + c = A → a < m → y.1 = x.1 → (∀ b i, b ≠ q + 4 → gr y b i = gr x b i) → (∀ i, gr y (q + 4) i = if a ≤ i ∧ i + 1 < m then gr x (q + 4) (i + 1) else gr x (q + 4) i) → GV mX4_removeAsk 11 [some (.ref q), some (.int (nI a)), some (.ref (q + 30 + j)), some (.int (nI m))] [] KW y Q := by
    intro c
    induction c with
    | zero =>
      intro m y hm h0 y1 y2 y3
      have : m = A := by omega
      subst this
      have g1 : ∀ b i, gi y b i = gi x b i := fun b i => by unfold gi; rw [y1]
      have e4 : gi y q 4 = nI m := (g1 q 4).trans E.nums.2.2.2.1
      have r4 : gr y q 8 = some (q + 4) := by rw [y2 q 8 (by omega)]; exact E.2.1.2.2.2.1
      refine v_X4_removeAsk_11 (ks0 E.1) r4 (ks4 E.1) (ks30 E.1 hj) ⟨fun _ => ?_, fun z => absurd (by rw [e4]; exact Int32.le_refl _) z⟩
      have e5 : gi y q 4 - 1 = nI (m - 1) := by rw [e4]; exact pk_sub (b := 1) (by omega)
      rw [e5, show gi (ui y q 4 (nI (m - 1))) q 4 = nI (m - 1) by rw [gi_ui, if_pos ⟨rfl, rfl⟩], nI_clamp (show m - 1 < 2 ^ 31 by omega)]
      refine ⟨vp_in_nI (by omega) (by decide), k _ (fun b i hb => by rw [gi_ur, gi_ui, if_neg hb]; exact g1 b i) (by rw [gi_ur, gi_ui, if_pos ⟨rfl, rfl⟩]) (fun b i hb => by rw [gr_ur, if_neg (fun z => hb z.1), gr_ui]; exact y2 b i hb) (fun i hi => ?_)⟩
      rw [gr_ur, gr_ui]
      unfold rot
      by_cases c1 : i = m - 1
      · rw [if_pos ⟨rfl, c1⟩, if_neg (by omega), if_neg (by omega), if_pos (by omega), ej]
      · rw [if_neg (fun z => c1 z.2), y3]
        by_cases c2 : i < a
        · rw [if_neg (by omega), if_pos c2]
        · rw [if_neg c2]
          by_cases c3 : i + 1 < m
          · rw [if_pos (by omega), if_pos c3]
          · rw [if_neg (by omega), if_neg c3, if_neg (by omega)]
    | succ c ih =>
      intro m y hm h0 y1 y2 y3
      have g1 : ∀ b i, gi y b i = gi x b i := fun b i => by unfold gi; rw [y1]
      have e4 : gi y q 4 = nI A := (g1 q 4).trans E.nums.2.2.2.1
      have r4 : gr y q 8 = some (q + 4) := by rw [y2 q 8 (by omega)]; exact E.2.1.2.2.2.1
      obtain ⟨j2, hj2, ej2⟩ := E.2.1.2.2.2.2.2.2.2.1 m (by omega)
      have g2 : gr y (q + 4) m = some (q + 30 + j2) := by rw [y3, if_neg (by omega)]; exact ej2
      refine v_X4_removeAsk_11 (ks0 E.1) r4 (ks4 E.1) (ks30 E.1 hj) ⟨fun z => absurd (by rw [e4] at z; exact z) (nI_ge (by omega) (by omega)), fun _ => ?_⟩
      have em : nI m - 1 = nI (m - 1) := pk_sub (b := 1) (by omega)
      rw [em, nI_clamp (show m < 2 ^ 31 by omega), nI_clamp (show m - 1 < 2 ^ 31 by omega), nI_1]
      refine ⟨vp_in_nI (by omega) (by decide), _, g2, ks30 E.1 hj2, vp_in_nI (by omega) (by decide), ih (m + 1) _ (by omega) (by omega) y1 (fun b i hb => by rw [gr_ur, if_neg (fun z => hb z.1)]; exact y2 b i hb) (fun i => ?_)⟩
      rw [gr_ur]
      by_cases c1 : i = m - 1
      · rw [if_pos ⟨rfl, c1⟩, if_pos (by omega), ← ej2]
        congr 1
        omega
      · rw [if_neg (fun z => c1 z.2), y3]
        by_cases c2 : a ≤ i ∧ i + 1 < m
        · rw [if_pos c2, if_pos (by omega)]
        · rw [if_neg c2, if_neg (by omega)]
  refine v_X4_removeAsk_0 (ks0 E.1) E.2.1.2.2.2.1 (ks4 E.1) ?_
  rw [nI_clamp (show a < 2 ^ 31 by omega), nI_1]
  exact ⟨vp_in_nI (by omega) (by decide), _, ej, key (A - (a + 1)) (a + 1) x (by omega) (by omega) rfl (fun _ _ _ => rfl) (fun i => by rw [if_neg (by omega)])⟩
theorem EQx.rfr {x y : Cn} (h : EQx x y 718) : RFr x y := ⟨h.1, fun a k a1 _ _ _ _ _ _ => h.2 a k a1⟩
end
set_option maxHeartbeats 2000000 in
theorem v_X7_drop_0 {K : Sh} {x : Cn} {Q : Int32 → Cn → Prop} {b0 : Nat} {l1 : Int32} {b0_2 : Nat} (k_b0 : kk K b0 = some (7, 0)) (g_b0_2 : gr x b0 2 = some b0_2) (k_b0_2 : kk K b0_2 = some (4, 0)) (K0 : ((0 ≤ l1 ∧ l1 < gi x b0_2 4) → (mSV mX7_remember [.ref b0] K x (fun y_2 => gr y_2 b0 2 = some b0_2 ∧ (mSV mX4_removeAsk [.ref b0_2, .int l1] K y_2 (fun y_4 => gr y_4 b0 2 = some b0_2 ∧ (Q (gi y_4 b0_2 4) y_4)))))) ∧ (¬ (0 ≤ l1 ∧ l1 < gi x b0_2 4) → (Q (-2) x))) : mSI mX7_drop [.ref b0, .int l1] K x Q := by
  refine s_I (by decide) (by simp [Value.category]) (Nat.le_of_ble_eq_true rfl) ?_
  show mGM mX7_drop 0 [some (.ref b0), some (.int l1)] [] (hp K x) (PI K Q)
  refine r_aload_n (pc := 0) dX7_drop_0 rfl ?_
  refine r_iload_n (pc := 1) dX7_drop_1 rfl ?_
  refine s_VI (pc := 2) mX7_isAsk (ci := 7) (a := b0) (As := [.int l1]) dX7_drop_2 lk_X7_173 in_X7_isAsk mo_X7_isAsk ⟨by decide, rfl⟩ ⟨by decide, by decide⟩ (Nat.le_of_ble_eq_true rfl) k_b0 (sp_X7_isAsk k_b0 g_b0_2 k_b0_2 ?_)
  refine r_if_ne (pc := 5) (tgt := 11) dX7_drop_5 (by decide) (fun q => ?_) (fun q => ?_)
  · have q := b2i_nz q
    have K0 := K0.1 q
    refine r_aload_n (pc := 11) dX7_drop_11 rfl ?_
    refine s_VV (pc := 12) mX7_remember (ci := 7) (a := b0) (As := []) dX7_drop_12 lk_X7_333 in_X7_remember mo_X7_remember ⟨by decide, rfl⟩ ⟨by decide, by decide⟩ (Nat.le_of_ble_eq_true rfl) k_b0 (mSV_mono K0 (fun y_2 K0 => ?_))
    refine r_aload_n (pc := 15) dX7_drop_15 rfl ?_
    obtain ⟨g_3, K0⟩ := K0
    refine s_getR (pc := 16) dX7_drop_16 fl_X7_20 rfl k_b0 g_3 ?_
    refine r_iload_n (pc := 19) dX7_drop_19 rfl ?_
    refine s_VV (pc := 20) mX4_removeAsk (ci := 4) (a := b0_2) (As := [.int l1]) dX7_drop_20 lk_X7_373 in_X4_removeAsk mo_X4_removeAsk ⟨by decide, rfl⟩ ⟨by decide, by decide⟩ (Nat.le_of_ble_eq_true rfl) k_b0_2 (mSV_mono K0 (fun y_4 K0 => ?_))
    refine r_aload_n (pc := 23) dX7_drop_23 rfl ?_
    obtain ⟨g_5, K0⟩ := K0
    refine s_getR (pc := 24) dX7_drop_24 fl_X7_20 rfl k_b0 g_5 ?_
    refine s_getI (pc := 27) dX7_drop_27 fl_X7_100 rfl k_b0_2 ?_
    exact s_iret rfl dX7_drop_30 K0
  · have q := (b2i_z _).mp q
    have K0 := K0.2 q
    refine r_bipush (pc := 8) (v := (-2)) dX7_drop_8 (by decide) ?_
    exact s_iret rfl dX7_drop_10 K0
set_option maxHeartbeats 2000000 in
theorem v_X8_dropsAsk_0 {K : Sh} {x : Cn} {Q : Cn → Prop} {b0 : Nat} {l1 : Int32}   (K0 : GV mX8_dropsAsk 9 [some (.ref b0), some (.int l1), some (.int (350 + (7 * l1)))] [] K x Q) : mSV mX8_dropsAsk [.ref b0, .int l1] K x Q := by
  refine s_V (by decide) (by simp [Value.category]) (Nat.le_of_ble_eq_true rfl) ?_
  show mGM mX8_dropsAsk 0 [some (.ref b0), some (.int l1), none] [] (hp K x) (PV K Q)
  refine r_sipush (pc := 0) (v := 350) dX8_dropsAsk_0 (by decide) ?_
  refine r_bipush (pc := 3) (v := 7) dX8_dropsAsk_3 (by decide) ?_
  refine r_iload_n (pc := 5) dX8_dropsAsk_5 rfl ?_
  refine r_imul (pc := 6) dX8_dropsAsk_6 ?_
  refine r_iadd (pc := 7) dX8_dropsAsk_7 ?_
  refine r_istore_n (pc := 8) dX8_dropsAsk_8 (by decide) ?_
  exact r_le (L' := [some (.ref b0), some (.int l1), some (.int (350 + (7 * l1)))]) ⟨rfl, ⟨rfl, ⟨rfl, trivial⟩⟩⟩ K0
set_option maxHeartbeats 2000000 in
theorem v_X8_dropsAsk_9 {K : Sh} {x : Cn} {Q : Cn → Prop} {b0 : Nat} {l1 : Int32} {l2 : Int32} {b0_1 : Nat} {n_b0_1 : Nat} (k_b0 : kk K b0 = some (8, 0)) (g_b0_1 : gr x b0 1 = some b0_1) (k_b0_1 : kk K b0_1 = some (20, n_b0_1)) (K0 : (511 ≤ l2 → (vp_in 3 n_b0_1 ∧ (Q (ui x b0_1 3 ((gi x b0_1 3) - 1))))) ∧ (¬ 511 ≤ l2 → (vp_in (l2 + 7) n_b0_1 ∧ (vp_in l2 n_b0_1 ∧ (GV mX8_dropsAsk 9 [some (.ref b0), some (.int l1), some (.int (l2 + 1))] [] K (ui x b0_1 (l2 : Int32).toNatClampNeg (gi x b0_1 ((l2 + 7) : Int32).toNatClampNeg)) Q))))) : GV mX8_dropsAsk 9 [some (.ref b0), some (.int l1), some (.int l2)] [] K x Q := by
  show mGM mX8_dropsAsk 9 [some (.ref b0), some (.int l1), some (.int l2)] [] (hp K x) (PV K Q)
  refine r_iload_n (pc := 9) dX8_dropsAsk_9 rfl ?_
  refine r_sipush (pc := 10) (v := 511) dX8_dropsAsk_10 (by decide) ?_
  refine r_icmp_ge (pc := 13) (tgt := 37) dX8_dropsAsk_13 (by decide) (fun q => ?_) (fun q => ?_)
  · have K0 := K0.1 q
    refine r_aload_n (pc := 37) dX8_dropsAsk_37 rfl ?_
    refine s_getR (pc := 38) dX8_dropsAsk_38 fl_X8_9 rfl k_b0 g_b0_1 ?_
    refine r_iconst (pc := 41) (v := 3) dX8_dropsAsk_41 (by decide) ?_
    refine r_dup2 (pc := 42) dX8_dropsAsk_42 rfl rfl ?_
    obtain ⟨i_2, K0⟩ := K0
    refine s_iald (pc := 43) dX8_dropsAsk_43 k_b0_1 i_2 ?_
    refine r_iconst (pc := 44) (v := 1) dX8_dropsAsk_44 (by decide) ?_
    refine r_isub (pc := 45) dX8_dropsAsk_45 ?_
    refine s_iast (pc := 46) dX8_dropsAsk_46 k_b0_1 i_2 ?_
    exact s_ret rfl dX8_dropsAsk_47 K0
  · have K0 := K0.2 q
    refine r_aload_n (pc := 16) dX8_dropsAsk_16 rfl ?_
    refine s_getR (pc := 17) dX8_dropsAsk_17 fl_X8_9 rfl k_b0 g_b0_1 ?_
    refine r_iload_n (pc := 20) dX8_dropsAsk_20 rfl ?_
    refine r_aload_n (pc := 21) dX8_dropsAsk_21 rfl ?_
    refine s_getR (pc := 22) dX8_dropsAsk_22 fl_X8_9 rfl k_b0 g_b0_1 ?_
    refine r_iload_n (pc := 25) dX8_dropsAsk_25 rfl ?_
    refine r_bipush (pc := 26) (v := 7) dX8_dropsAsk_26 (by decide) ?_
    refine r_iadd (pc := 28) dX8_dropsAsk_28 ?_
    obtain ⟨i_3, K0⟩ := K0
    refine s_iald (pc := 29) dX8_dropsAsk_29 k_b0_1 i_3 ?_
    obtain ⟨i_4, K0⟩ := K0
    refine s_iast (pc := 30) dX8_dropsAsk_30 k_b0_1 i_4 ?_
    refine r_iinc (pc := 31) (v := l2 + 1) dX8_dropsAsk_31 rfl rfl (by decide) ?_
    refine r_goto (pc := 34) (L := [some (.ref b0), some (.int l1), some (.int (l2 + 1))]) (tgt := 9) dX8_dropsAsk_34 (by decide) ?_
    exact r_le (L' := [some (.ref b0), some (.int l1), some (.int (l2 + 1))]) ⟨rfl, ⟨rfl, ⟨rfl, trivial⟩⟩⟩ K0
section
theorem sp_X8_dropsAsk {x : Cn} {Q : Cn → Prop} {a A : Nat} {T : TT} {n : Nat} {H : Nat → TT} (r : RS x T n H) (h3 : T 3 = nI A) (ha : a < A) (hA : A ≤ 24) (q : ∀ y, EQx x y 718 → RS y (drT T a A) n H → Q y) : mSV mX8_dropsAsk [.ref 717, .int (nI a)] KW x Q := by
  have key : ∀ c m y, m + c = 511 → 350 + 7 * a ≤ m → EQx x y 718 → RS y (fun i => if 350 + 7 * a ≤ i ∧ i < m then T (i + 7) else T i) n H → GV mX8_dropsAsk 9 [some (.ref 717), some (.int (nI a)), some (.int (nI m))] [] KW y Q := by
    intro c
    induction c with
    | zero =>
      intro m y hm h0 f r1
      have : m = 511 := by omega
      subst this
      refine v_X8_dropsAsk_9 km r1.1.1 km1 ⟨fun _ => ⟨v0 (k := 3) (by decide) rfl rfl, ?_⟩, fun z => absurd (Int32.le_refl _) z⟩
      have e3 : gi y 718 3 - 1 = nI (A - 1) := by
        rw [r1.2.1]
        show (if 350 + 7 * a ≤ 3 ∧ 3 < 511 then T (3 + 7) else T 3) - 1 = _
        rw [if_neg (by omega), h3]
        exact pk_sub (b := 1) (by omega)
      rw [e3]
      refine q _ f.ui ?_
      have := r1.u8 (k := 3) (v := nI (A - 1))
      have e : uT (fun i => if 350 + 7 * a ≤ i ∧ i < 511 then T (i + 7) else T i) 3 (nI (A - 1)) = drT T a A := rfl
      rw [e] at this
      exact this
    | succ c ih =>
      intro m y hm h0 f r1
      refine v_X8_dropsAsk_9 km r1.1.1 km1 ⟨fun z => absurd z (nI_ge (b := 511) (by omega) (by decide)), fun _ => ?_⟩
      rw [show nI m + 7 = nI (m + 7) from nI_add m 7, nI_1, nI_clamp (show m < 2 ^ 31 by omega), nI_clamp (show m + 7 < 2 ^ 31 by omega)]
      refine ⟨vp_in_nI (by omega) (by decide), vp_in_nI (by omega) (by decide), ih (m + 1) _ (by omega) (by omega) f.ui ?_⟩
      have := r1.u8 (k := m) (v := gi y 718 (m + 7))
      have e : uT (fun i => if 350 + 7 * a ≤ i ∧ i < m then T (i + 7) else T i) m (gi y 718 (m + 7)) = (fun i => if 350 + 7 * a ≤ i ∧ i < m + 1 then T (i + 7) else T i) := by
        funext i
        rw [r1.2.1]
        show (if i = m then (if 350 + 7 * a ≤ m + 7 ∧ m + 7 < m then T (m + 7 + 7) else T (m + 7)) else if 350 + 7 * a ≤ i ∧ i < m then T (i + 7) else T i) = if 350 + 7 * a ≤ i ∧ i < m + 1 then T (i + 7) else T i
        by_cases c1 : i = m
        · rw [if_pos c1, if_neg (show ¬ (350 + 7 * a ≤ m + 7 ∧ m + 7 < m) by omega), if_pos (show 350 + 7 * a ≤ i ∧ i < m + 1 by omega), c1]
        · rw [if_neg c1]
          by_cases c2 : 350 + 7 * a ≤ i ∧ i < m
          · rw [if_pos c2, if_pos (show 350 + 7 * a ≤ i ∧ i < m + 1 by omega)]
          · rw [if_neg c2, if_neg (show ¬ (350 + 7 * a ≤ i ∧ i < m + 1) by omega)]
      rw [e] at this
      exact this
  refine v_X8_dropsAsk_0 ?_
  have e : (350 : Int32) + 7 * nI a = nI (350 + 7 * a) := by
    have := ix2 a (v := 0) 0 rfl
    rw [Int32.add_zero] at this
    exact this
  rw [e]
  refine key (511 - (350 + 7 * a)) (350 + 7 * a) x (by omega) (by omega) (EQx.rf x _) ?_
  have e2 : (fun i => if 350 + 7 * a ≤ i ∧ i < 350 + 7 * a then T (i + 7) else T i) = T := by
    funext i
    rw [if_neg (by omega)]
  rw [e2]
  exact r
end
set_option maxHeartbeats 2000000 in
theorem v_X8_drop_0 {K : Sh} {x : Cn} {Q : Int32 → Cn → Prop} {b0 : Nat} {l1 : Int32} {b0_1 : Nat} {n_b0_1 : Nat} (k_b0 : kk K b0 = some (8, 0)) (g_b0_1 : gr x b0 1 = some b0_1) (k_b0_1 : kk K b0_1 = some (20, n_b0_1)) (K0 : vp_in 3 n_b0_1 ∧ (((0 ≤ l1 ∧ l1 ≤ gi x b0_1 3 - 1) → (mSV mX8_keeps [.ref b0] K x (fun y_3 => mSV mX8_dropsAsk [.ref b0, .int l1] K y_3 (fun y_4 => gr y_4 b0 1 = some b0_1 ∧ (Q (gi y_4 b0_1 3) y_4))))) ∧ (¬ (0 ≤ l1 ∧ l1 ≤ gi x b0_1 3 - 1) → (Q (-2) x)))) : mSI mX8_drop [.ref b0, .int l1] K x Q := by
  refine s_I (by decide) (by simp [Value.category]) (Nat.le_of_ble_eq_true rfl) ?_
  show mGM mX8_drop 0 [some (.ref b0), some (.int l1)] [] (hp K x) (PI K Q)
  refine r_aload_n (pc := 0) dX8_drop_0 rfl ?_
  refine r_iload_n (pc := 1) dX8_drop_1 rfl ?_
  obtain ⟨i_1, K0⟩ := K0
  refine s_VI (pc := 2) mX8_isAsk (ci := 8) (a := b0) (As := [.int l1]) dX8_drop_2 lk_X8_281 in_X8_isAsk mo_X8_isAsk ⟨by decide, rfl⟩ ⟨by decide, by decide⟩ (Nat.le_of_ble_eq_true rfl) k_b0 (sp_X8_isAsk k_b0 g_b0_1 k_b0_1 i_1 ?_)
  refine r_if_ne (pc := 5) (tgt := 11) dX8_drop_5 (by decide) (fun q => ?_) (fun q => ?_)
  · have q := b2i_nz q
    have K0 := K0.1 q
    refine r_aload_n (pc := 11) dX8_drop_11 rfl ?_
    refine s_VV (pc := 12) mX8_keeps (ci := 8) (a := b0) (As := []) dX8_drop_12 lk_X8_366 in_X8_keeps mo_X8_keeps ⟨by decide, rfl⟩ ⟨by decide, by decide⟩ (Nat.le_of_ble_eq_true rfl) k_b0 (mSV_mono K0 (fun y_3 K0 => ?_))
    refine r_aload_n (pc := 15) dX8_drop_15 rfl ?_
    refine r_iload_n (pc := 16) dX8_drop_16 rfl ?_
    refine s_VV (pc := 17) mX8_dropsAsk (ci := 8) (a := b0) (As := [.int l1]) dX8_drop_17 lk_X8_376 in_X8_dropsAsk mo_X8_dropsAsk ⟨by decide, rfl⟩ ⟨by decide, by decide⟩ (Nat.le_of_ble_eq_true rfl) k_b0 (mSV_mono K0 (fun y_4 K0 => ?_))
    refine r_aload_n (pc := 20) dX8_drop_20 rfl ?_
    obtain ⟨g_5, K0⟩ := K0
    refine s_getR (pc := 21) dX8_drop_21 fl_X8_9 rfl k_b0 g_5 ?_
    refine r_iconst (pc := 24) (v := 3) dX8_drop_24 (by decide) ?_
    refine s_iald (pc := 25) dX8_drop_25 k_b0_1 i_1 ?_
    exact s_iret rfl dX8_drop_26 K0
  · have q := (b2i_z _).mp q
    have K0 := K0.2 q
    refine r_bipush (pc := 8) (v := (-2)) dX8_drop_8 (by decide) ?_
    exact s_iret rfl dX8_drop_10 K0
section
theorem sq_X8_drop {y : Cn} {Q : Int32 → Cn → Prop} {T : TT} {W C S A N n : Nat} {H : Nat → TT} {a : Int32} (r : RS y T n H) (F : WF T W C S A N) (k1 : ¬ (0 ≤ a ∧ a < nI A) → Q (-2) y) (k2 : ∀ b, a = nI b → b < A → ∀ z, RFr y z → RS z (drT T b A) (pn n) (push H n T) → Q (nI (A - 1)) z) : mSI mX8_drop [.ref 717, .int a] KW y Q := by
  have hA : A ≤ 24 := F.2.2.2.2.2.2.2.2.1
  refine v_X8_drop_0 km r.1.1 km1 ⟨v0 (k := 3) (by decide) rfl rfl, ?_⟩
  rw [r.2.1, F.2.2.2.2.2.2.2.1, inN' (by omega)]
  refine ⟨fun z => ?_, fun z => k1 z⟩
  obtain ⟨b, hb, rfl⟩ := inN (by omega) z
  refine r.keeps (fun z f1 r1 => sp_X8_dropsAsk r1 F.2.2.2.2.2.2.2.1 hb hA (fun v f2 r2 => ⟨r2.1.1, ?_⟩))
  rw [r2.2.1, show drT T b A 3 = nI (A - 1) from if_pos rfl]
  exact k2 b rfl hb v (f1.tr f2.rfr) r2
end
set_option maxHeartbeats 2000000 in
theorem v_X5_openIn_0 {K : Sh} {x : Cn} {Q : Cn → Prop} {b0 : Nat} {l1 : Int32}  (k_b0 : kk K b0 = some (5, 0)) (K0 : Q (ui (ui (ui (ui (ui x b0 7 l1) b0 8 0) b0 9 0) b0 10 0) b0 11 0)) : mSV mX5_openIn [.ref b0, .int l1] K x Q := by
  refine s_V (by decide) (by simp [Value.category]) (Nat.le_of_ble_eq_true rfl) ?_
  show mGM mX5_openIn 0 [some (.ref b0), some (.int l1)] [] (hp K x) (PV K Q)
  refine r_aload_n (pc := 0) dX5_openIn_0 rfl ?_
  refine r_iload_n (pc := 1) dX5_openIn_1 rfl ?_
  refine s_putI (pc := 2) dX5_openIn_2 fl_X5_34 rfl rfl k_b0 ?_
  refine r_aload_n (pc := 5) dX5_openIn_5 rfl ?_
  refine r_iconst (pc := 6) (v := 0) dX5_openIn_6 (by decide) ?_
  refine s_putI (pc := 7) dX5_openIn_7 fl_X5_37 rfl rfl k_b0 ?_
  refine r_aload_n (pc := 10) dX5_openIn_10 rfl ?_
  refine r_iconst (pc := 11) (v := 0) dX5_openIn_11 (by decide) ?_
  refine s_putI (pc := 12) dX5_openIn_12 fl_X5_40 rfl rfl k_b0 ?_
  refine r_aload_n (pc := 15) dX5_openIn_15 rfl ?_
  refine r_iconst (pc := 16) (v := 0) dX5_openIn_16 (by decide) ?_
  refine s_putI (pc := 17) dX5_openIn_17 fl_X5_43 rfl rfl k_b0 ?_
  refine r_aload_n (pc := 20) dX5_openIn_20 rfl ?_
  refine r_iconst (pc := 21) (v := 0) dX5_openIn_21 (by decide) ?_
  refine s_putI (pc := 22) dX5_openIn_22 fl_X5_46 rfl rfl k_b0 ?_
  exact s_ret rfl dX5_openIn_25 K0
section
theorem sp_X5_openIn_at {x : Cn} {Q : Cn → Prop} {p : Nat} {v : Int32} (h1 : kk KW p = some (5, 0)) (k : ∀ y, EQx x y p → (∀ j, j < 7 → gi y p j = gi x p j) → gi y p 7 = v → (∀ j, 8 ≤ j → j < 12 → gi y p j = 0) → Q y) : mSV mX5_openIn [.ref p, .int v] KW x Q := by
  refine v_X5_openIn_0 h1 (k _ ((((((EQx.rf x p).ui).ui).ui).ui).ui) (fun j hj => ?_) ?_ (fun j h8 h12 => ?_))
  · simp only [gi_ui]
    rw [if_neg (by omega), if_neg (by omega), if_neg (by omega), if_neg (by omega), if_neg (by omega)]
  · simp [gi_ui]
  · have : j = 8 ∨ j = 9 ∨ j = 10 ∨ j = 11 := by omega
    rcases this with rfl | rfl | rfl | rfl <;> simp [gi_ui]
/-- a series stays, in row m -/
def stf (T : TT) (s k : Nat) : Int32 := if k = 4 then 0 else if k = 7 then bas T s else if 8 ≤ k then 0 else so T s k
def stT (T : TT) (s m : Nat) : TT := fun i => if 62 + 12 * m ≤ i ∧ i < 74 + 12 * m then stf T s (i - (62 + 12 * m)) else T i
theorem so_stT {T : TT} {s m k : Nat} (hk : k < 12) : so (stT T s m) m k = stf T s k := by
  unfold so stT
  rw [if_pos (by omega)]
  congr 1
  omega
theorem so_stT' {T : TT} {s m j k : Nat} (hk : k < 12) (h : j ≠ m) : so (stT T s m) j k = so T j k := by
  unfold so stT
  rw [if_neg (by omega)]
theorem stT_off {T : TT} {s m i : Nat} (hm : m < 24) (h : i < 62 ∨ 350 ≤ i) : stT T s m i = T i := by
  unfold stT
  rw [if_neg (by omega)]
theorem bas_stT {T : TT} {s m : Nat} : bas (stT T s m) m = bas T s := by
  unfold bas
  rw [so_stT (by decide), so_stT (by decide), so_stT (by decide), so_stT (by decide)]
  show ((bas T s ||| 0) ||| 0) ||| 0 = _
  simp [bas]
theorem Wse.sta {T : TT} {C W s m : Nat} (w : Wse T C W s) : Wse (stT T s m) C W m := by
  obtain ⟨a1, a2, a3, a4, a5, a6, a7, a8⟩ := id w
  have e : ∀ k, k < 12 → so (stT T s m) m k = stf T s k := fun k hk => so_stT hk
  have z : ∀ k, k < 5 → k ≠ 0 → so (stT T s m) m (7 + k) = 0 := fun k hk h0 => by
    rw [e _ (by omega)]
    unfold stf
    rw [if_neg (by omega), if_neg (by omega), if_pos (by omega)]
  refine ⟨?_, ?_, ?_, ?_, ?_, ?_, ?_, ?_⟩
  · rw [e 0 (by decide)]; exact a1
  · rw [e 1 (by decide)]; exact a2
  · rw [e 2 (by decide)]; exact a3
  · rw [e 3 (by decide)]; exact a4
  · rw [e 4 (by decide)]; exact Or.inl rfl
  · rw [e 5 (by decide), e 6 (by decide)]; exact a6
  · intro i hi k j hk hj h1 h2
    by_cases c1 : k = 0
    · by_cases c2 : j = 0
      · omega
      · rw [z j hj c2, tb_0] at h2; cases h2
    · rw [z k hk c1, tb_0] at h1; cases h1
  · intro i k hk h1
    by_cases c1 : k = 0
    · subst c1
      rw [e (7 + 0) (by decide)] at h1
      exact bas_W w h1
    · rw [z k hk c1, tb_0] at h1; cases h1
end
set_option maxHeartbeats 2000000 in
theorem v_X8_stays_0 {K : Sh} {x : Cn} {Q : Cn → Prop} {b0 : Nat} {l1 : Int32} {l2 : Int32} {b0_3 : Nat} {n_b0_3 : Nat} (k_b0 : kk K b0 = some (8, 0)) (g_b0_3 : gr x b0 3 = some b0_3) (k_b0_3 : kk K b0_3 = some (20, n_b0_3)) (K0 : (l24 l1 n_b0_3) ∧ (GV mX8_stays 9 [some (.ref b0), some (.int l1), some (.int l2), some (.int (bas (gi x b0_3) (l1 : Int32).toNatClampNeg)), some (.int 0)] [] K x Q)) : mSV mX8_stays [.ref b0, .int l1, .int l2] K x Q := by
  refine s_V (by decide) (by simp [Value.category]) (Nat.le_of_ble_eq_true rfl) ?_
  show mGM mX8_stays 0 [some (.ref b0), some (.int l1), some (.int l2), none, none] [] (hp K x) (PV K Q)
  refine r_aload_n (pc := 0) dX8_stays_0 rfl ?_
  refine r_iload_n (pc := 1) dX8_stays_1 rfl ?_
  obtain ⟨p_1, K0⟩ := K0
  refine s_VI (pc := 2) mX8_basisOf (ci := 8) (a := b0) (As := [.int l1]) dX8_stays_2 lk_X8_71 in_X8_basisOf mo_X8_basisOf ⟨by decide, rfl⟩ ⟨by decide, by decide⟩ (Nat.le_of_ble_eq_true rfl) k_b0 (sr_X8_basisOf k_b0 g_b0_3 k_b0_3 p_1 ?_)
  refine r_istore_n (pc := 5) dX8_stays_5 (by decide) ?_
  refine r_iconst (pc := 6) (L := [some (.ref b0), some (.int l1), some (.int l2), some (.int (bas (gi x b0_3) (l1 : Int32).toNatClampNeg)), none]) (v := 0) dX8_stays_6 (by decide) ?_
  refine r_istore (pc := 7) dX8_stays_7 (by decide) ?_
  exact r_le (L' := [some (.ref b0), some (.int l1), some (.int l2), some (.int (bas (gi x b0_3) (l1 : Int32).toNatClampNeg)), some (.int 0)]) ⟨rfl, ⟨rfl, ⟨rfl, ⟨rfl, ⟨rfl, trivial⟩⟩⟩⟩⟩ K0
set_option maxHeartbeats 2000000 in
theorem v_X8_stays_9 {K : Sh} {x : Cn} {Q : Cn → Prop} {b0 : Nat} {l1 : Int32} {l2 : Int32} {l3 : Int32} {l4 : Int32} {b0_3 : Nat} {n_b0_3 : Nat} (k_b0 : kk K b0 = some (8, 0)) (g_b0_3 : gr x b0 3 = some b0_3) (k_b0_3 : kk K b0_3 = some (20, n_b0_3)) (K0 : (12 ≤ l4 → (GV mX8_stays 39 [some (.ref b0), some (.int l1), some (.int l2), some (.int l3), some (.int 0)] [] K x Q)) ∧ (¬ 12 ≤ l4 → ((l24 l1 n_b0_3) ∧ ((l12 l4) ∧ (mSV mX8_lays [.ref b0, .int l2, .int l4, .int (so (gi x b0_3) (l1 : Int32).toNatClampNeg (l4 : Int32).toNatClampNeg)] K x (fun y_4 => GV mX8_stays 9 [some (.ref b0), some (.int l1), some (.int l2), some (.int l3), some (.int (l4 + 1))] [] K y_4 Q)))))) : GV mX8_stays 9 [some (.ref b0), some (.int l1), some (.int l2), some (.int l3), some (.int l4)] [] K x Q := by
  show mGM mX8_stays 9 [some (.ref b0), some (.int l1), some (.int l2), some (.int l3), some (.int l4)] [] (hp K x) (PV K Q)
  refine r_iload (pc := 9) dX8_stays_9 rfl ?_
  refine r_bipush (pc := 11) (v := 12) dX8_stays_11 (by decide) ?_
  refine r_icmp_ge (pc := 13) (tgt := 36) dX8_stays_13 (by decide) (fun q => ?_) (fun q => ?_)
  · have K0 := K0.1 q
    refine r_iconst (pc := 36) (v := 0) dX8_stays_36 (by decide) ?_
    refine r_istore (pc := 37) dX8_stays_37 (by decide) ?_
    exact r_le (L' := [some (.ref b0), some (.int l1), some (.int l2), some (.int l3), some (.int 0)]) ⟨rfl, ⟨rfl, ⟨rfl, ⟨rfl, ⟨rfl, trivial⟩⟩⟩⟩⟩ K0
  · have K0 := K0.2 q
    refine r_aload_n (pc := 16) dX8_stays_16 rfl ?_
    refine r_iload_n (pc := 17) dX8_stays_17 rfl ?_
    refine r_iload (pc := 18) dX8_stays_18 rfl ?_
    refine r_aload_n (pc := 20) dX8_stays_20 rfl ?_
    refine r_iload_n (pc := 21) dX8_stays_21 rfl ?_
    refine r_iload (pc := 22) dX8_stays_22 rfl ?_
    obtain ⟨p_2, K0⟩ := K0
    obtain ⟨p_3, K0⟩ := K0
    refine s_VI (pc := 24) mX8_one (ci := 8) (a := b0) (As := [.int l1, .int l4]) dX8_stays_24 lk_X8_67 in_X8_one mo_X8_one ⟨by decide, rfl⟩ ⟨by decide, by decide⟩ (Nat.le_of_ble_eq_true rfl) k_b0 (sr_X8_one k_b0 g_b0_3 k_b0_3 p_2 p_3 ?_)
    refine s_VV (pc := 27) mX8_lays (ci := 8) (a := b0) (As := [.int l2, .int l4, .int (so (gi x b0_3) (l1 : Int32).toNatClampNeg (l4 : Int32).toNatClampNeg)]) dX8_stays_27 lk_X8_230 in_X8_lays mo_X8_lays ⟨by decide, rfl⟩ ⟨by decide, by decide⟩ (Nat.le_of_ble_eq_true rfl) k_b0 (mSV_mono K0 (fun y_4 K0 => ?_))
    refine r_iinc (pc := 30) (v := l4 + 1) dX8_stays_30 rfl rfl (by decide) ?_
    refine r_goto (pc := 33) (L := [some (.ref b0), some (.int l1), some (.int l2), some (.int l3), some (.int (l4 + 1))]) (tgt := 9) dX8_stays_33 (by decide) ?_
    exact r_le (L' := [some (.ref b0), some (.int l1), some (.int l2), some (.int l3), some (.int (l4 + 1))]) ⟨rfl, ⟨rfl, ⟨rfl, ⟨rfl, ⟨rfl, trivial⟩⟩⟩⟩⟩ K0
set_option maxHeartbeats 2000000 in
theorem v_X8_stays_39 {K : Sh} {x : Cn} {Q : Cn → Prop} {b0 : Nat} {l1 : Int32} {l2 : Int32} {l3 : Int32} {l4 : Int32}  (k_b0 : kk K b0 = some (8, 0)) (K0 : (5 ≤ l4 → (mSV mX8_lays [.ref b0, .int l2, .int 4, .int 0] K x (fun y_2 => Q y_2))) ∧ (¬ 5 ≤ l4 → ((¬ l4 = 0 → (mSV mX8_lays [.ref b0, .int l2, .int (7 + l4), .int 0] K x (fun y_4 => GV mX8_stays 39 [some (.ref b0), some (.int l1), some (.int l2), some (.int l3), some (.int (l4 + 1))] [] K y_4 Q))) ∧ (l4 = 0 → (mSV mX8_lays [.ref b0, .int l2, .int (7 + l4), .int l3] K x (fun y_5 => GV mX8_stays 39 [some (.ref b0), some (.int l1), some (.int l2), some (.int l3), some (.int (l4 + 1))] [] K y_5 Q)))))) : GV mX8_stays 39 [some (.ref b0), some (.int l1), some (.int l2), some (.int l3), some (.int l4)] [] K x Q := by
  show mGM mX8_stays 39 [some (.ref b0), some (.int l1), some (.int l2), some (.int l3), some (.int l4)] [] (hp K x) (PV K Q)
  refine r_iload (pc := 39) dX8_stays_39 rfl ?_
  refine r_iconst (pc := 41) (v := 5) dX8_stays_41 (by decide) ?_
  refine r_icmp_ge (pc := 42) (tgt := 71) dX8_stays_42 (by decide) (fun q => ?_) (fun q => ?_)
  · have K0 := K0.1 q
    refine r_aload_n (pc := 71) dX8_stays_71 rfl ?_
    refine r_iload_n (pc := 72) dX8_stays_72 rfl ?_
    refine r_iconst (pc := 73) (v := 4) dX8_stays_73 (by decide) ?_
    refine r_iconst (pc := 74) (v := 0) dX8_stays_74 (by decide) ?_
    refine s_VV (pc := 75) mX8_lays (ci := 8) (a := b0) (As := [.int l2, .int 4, .int 0]) dX8_stays_75 lk_X8_230 in_X8_lays mo_X8_lays ⟨by decide, rfl⟩ ⟨by decide, by decide⟩ (Nat.le_of_ble_eq_true rfl) k_b0 (mSV_mono K0 (fun y_2 K0 => ?_))
    exact s_ret rfl dX8_stays_78 K0
  · have K0 := K0.2 q
    refine r_aload_n (pc := 45) dX8_stays_45 rfl ?_
    refine r_iload_n (pc := 46) dX8_stays_46 rfl ?_
    refine r_bipush (pc := 47) (v := 7) dX8_stays_47 (by decide) ?_
    refine r_iload (pc := 49) dX8_stays_49 rfl ?_
    refine r_iadd (pc := 51) dX8_stays_51 ?_
    refine r_iload (pc := 52) dX8_stays_52 rfl ?_
    refine r_if_ne (pc := 54) (tgt := 61) dX8_stays_54 (by decide) (fun q => ?_) (fun q => ?_)
    · have K0 := K0.1 q
      refine r_iconst (pc := 61) (v := 0) dX8_stays_61 (by decide) ?_
      refine s_VV (pc := 62) mX8_lays (ci := 8) (a := b0) (As := [.int l2, .int (7 + l4), .int 0]) dX8_stays_62 lk_X8_230 in_X8_lays mo_X8_lays ⟨by decide, rfl⟩ ⟨by decide, by decide⟩ (Nat.le_of_ble_eq_true rfl) k_b0 (mSV_mono K0 (fun y_4 K0 => ?_))
      refine r_iinc (pc := 65) (v := l4 + 1) dX8_stays_65 rfl rfl (by decide) ?_
      refine r_goto (pc := 68) (L := [some (.ref b0), some (.int l1), some (.int l2), some (.int l3), some (.int (l4 + 1))]) (tgt := 39) dX8_stays_68 (by decide) ?_
      exact r_le (L' := [some (.ref b0), some (.int l1), some (.int l2), some (.int l3), some (.int (l4 + 1))]) ⟨rfl, ⟨rfl, ⟨rfl, ⟨rfl, ⟨rfl, trivial⟩⟩⟩⟩⟩ K0
    · have K0 := K0.2 q
      refine r_iload_n (pc := 57) dX8_stays_57 rfl ?_
      refine r_goto (pc := 58) (tgt := 62) dX8_stays_58 (by decide) ?_
      refine s_VV (pc := 62) mX8_lays (ci := 8) (a := b0) (As := [.int l2, .int (7 + l4), .int l3]) dX8_stays_62 lk_X8_230 in_X8_lays mo_X8_lays ⟨by decide, rfl⟩ ⟨by decide, by decide⟩ (Nat.le_of_ble_eq_true rfl) k_b0 (mSV_mono K0 (fun y_5 K0 => ?_))
      refine r_iinc (pc := 65) (v := l4 + 1) dX8_stays_65 rfl rfl (by decide) ?_
      refine r_goto (pc := 68) (L := [some (.ref b0), some (.int l1), some (.int l2), some (.int l3), some (.int (l4 + 1))]) (tgt := 39) dX8_stays_68 (by decide) ?_
      exact r_le (L' := [some (.ref b0), some (.int l1), some (.int l2), some (.int l3), some (.int (l4 + 1))]) ⟨rfl, ⟨rfl, ⟨rfl, ⟨rfl, ⟨rfl, trivial⟩⟩⟩⟩⟩ K0
section
theorem sp_X8_stays {x : Cn} {Q : Cn → Prop} {n s m : Nat} {T : TT} {H : Nat → TT} (r : RS x T n H) (hs : s < 24) (hm : m < 24) (q : ∀ y, RFr x y → RS y (stT T s m) n H → Q y) : mSV mX8_stays [.ref 717, .int (nI s), .int (nI m)] KW x Q := by
  let P1 : Nat → TT := fun k i => if 62 + 12 * m ≤ i ∧ i < 62 + 12 * m + k then so T s (i - (62 + 12 * m)) else T i
  let P2 : Nat → TT := fun k i => if 62 + 12 * m + 7 ≤ i ∧ i < 62 + 12 * m + 7 + k then (if i = 62 + 12 * m + 7 then bas T s else 0) else P1 12 i
  have key2 : ∀ c k y, k + c = 5 → RFr x y → RS y (P2 k) n H → GV mX8_stays 39 [some (.ref 717), some (.int (nI s)), some (.int (nI m)), some (.int (bas T s)), some (.int (nI k))] [] KW y Q := by
    intro c
    induction c with
    | zero =>
      intro k y hk f r1
      have : k = 5 := by omega
      subst this
      refine v_X8_stays_39 km ⟨fun _ => sp_X8_lays (k := 4) r1.1 km1 hm (by decide) (q _ f.u8 ?_), fun z => absurd (Int32.le_refl _) z⟩
      have := r1.u8 (k := 62 + 12 * m + 4) (v := 0)
      have e : uT (P2 5) (62 + 12 * m + 4) 0 = stT T s m := by
        funext i
        show (if i = 62 + 12 * m + 4 then 0 else if 62 + 12 * m + 7 ≤ i ∧ i < 62 + 12 * m + 7 + 5 then (if i = 62 + 12 * m + 7 then bas T s else 0) else if 62 + 12 * m ≤ i ∧ i < 62 + 12 * m + 12 then so T s (i - (62 + 12 * m)) else T i) = _
        unfold stT stf
        by_cases c1 : 62 + 12 * m ≤ i ∧ i < 74 + 12 * m
        · rw [if_pos c1]
          by_cases c2 : i = 62 + 12 * m + 4
          · rw [if_pos c2, if_pos (show i - (62 + 12 * m) = 4 by omega)]
          · rw [if_neg c2, if_neg (show ¬ i - (62 + 12 * m) = 4 by omega)]
            by_cases c3 : i = 62 + 12 * m + 7
            · rw [if_pos (show 62 + 12 * m + 7 ≤ i ∧ i < 62 + 12 * m + 7 + 5 by omega), if_pos c3, if_pos (show i - (62 + 12 * m) = 7 by omega)]
            · by_cases c4 : 62 + 12 * m + 7 ≤ i
              · rw [if_pos (show 62 + 12 * m + 7 ≤ i ∧ i < 62 + 12 * m + 7 + 5 by omega), if_neg c3, if_neg (show ¬ i - (62 + 12 * m) = 7 by omega), if_pos (show 8 ≤ i - (62 + 12 * m) by omega)]
              · rw [if_neg (show ¬ (62 + 12 * m + 7 ≤ i ∧ i < 62 + 12 * m + 7 + 5) by omega), if_pos (show 62 + 12 * m ≤ i ∧ i < 62 + 12 * m + 12 by omega), if_neg (show ¬ i - (62 + 12 * m) = 7 by omega), if_neg (show ¬ 8 ≤ i - (62 + 12 * m) by omega)]
        · rw [if_neg c1, if_neg (by omega), if_neg (by omega), if_neg (by omega)]
      rw [e] at this
      exact this
    | succ c ih =>
      intro k y hk f r1
      have e : ∀ v, v = (if k = 0 then bas T s else 0) → uT (P2 k) (62 + 12 * m + (7 + k)) v = P2 (k + 1) := by
        intro v hv
        funext i
        show (if i = 62 + 12 * m + (7 + k) then v else if 62 + 12 * m + 7 ≤ i ∧ i < 62 + 12 * m + 7 + k then (if i = 62 + 12 * m + 7 then bas T s else 0) else P1 12 i) = (if 62 + 12 * m + 7 ≤ i ∧ i < 62 + 12 * m + 7 + (k + 1) then (if i = 62 + 12 * m + 7 then bas T s else 0) else P1 12 i)
        by_cases c1 : i = 62 + 12 * m + (7 + k)
        · rw [if_pos c1, if_pos (by omega), hv]
          by_cases c2 : k = 0
          · rw [if_pos c2, if_pos (by omega)]
          · rw [if_neg c2, if_neg (by omega)]
        · rw [if_neg c1]
          by_cases c2 : 62 + 12 * m + 7 ≤ i ∧ i < 62 + 12 * m + 7 + k
          · rw [if_pos c2, if_pos (show 62 + 12 * m + 7 ≤ i ∧ i < 62 + 12 * m + 7 + (k + 1) by omega)]
          · rw [if_neg c2, if_neg (show ¬ (62 + 12 * m + 7 ≤ i ∧ i < 62 + 12 * m + 7 + (k + 1)) by omega)]
      refine v_X8_stays_39 km ⟨fun z => absurd z (nI_ge (b := 5) (by omega) (by decide)), fun _ => ?_⟩
      rw [show (7 : Int32) + nI k = nI (7 + k) from nI_add 7 k, nI_1, nI_z (by omega)]
      refine ⟨fun c0 => sp_X8_lays (k := 7 + k) r1.1 km1 hm (by omega) (ih (k + 1) _ (by omega) f.u8 ?_), fun c0 => sp_X8_lays (k := 7 + k) r1.1 km1 hm (by omega) (ih (k + 1) _ (by omega) f.u8 ?_)⟩
      · have := r1.u8 (k := 62 + 12 * m + (7 + k)) (v := 0)
        rw [e _ (by rw [if_neg c0])] at this
        exact this
      · have := r1.u8 (k := 62 + 12 * m + (7 + k)) (v := bas T s)
        rw [e _ (by rw [if_pos c0])] at this
        exact this
  have key1 : ∀ c k y, k + c = 12 → RFr x y → RS y (P1 k) n H → GV mX8_stays 9 [some (.ref 717), some (.int (nI s)), some (.int (nI m)), some (.int (bas T s)), some (.int (nI k))] [] KW y Q := by
    intro c
    induction c with
    | zero =>
      intro k y hk f r1
      have : k = 12 := by omega
      subst this
      refine v_X8_stays_9 km r1.1.2.2.1 km1 ⟨fun _ => key2 5 0 y (by omega) f ?_, fun z => absurd (Int32.le_refl _) z⟩
      have e : P2 0 = P1 12 := by
        funext i
        show (if 62 + 12 * m + 7 ≤ i ∧ i < 62 + 12 * m + 7 + 0 then (if i = 62 + 12 * m + 7 then bas T s else 0) else P1 12 i) = _
        rw [if_neg (by omega)]
      rw [e]
      exact r1
    | succ c ih =>
      intro k y hk f r1
      refine v_X8_stays_9 km r1.1.2.2.1 km1 ⟨fun z => absurd z (nI_ge (b := 12) (by omega) (by decide)), fun _ => ⟨l24_nI hs rfl, ⟨nI_pos' (by omega), nI_lt (b := 12) (by omega) (by decide)⟩, ?_⟩⟩
      rw [nI_1, nI_clamp (show k < 2 ^ 31 by omega), nI_clamp (show s < 2 ^ 31 by omega)]
      refine sp_X8_lays (k := k) r1.1 km1 hm (by omega) (ih (k + 1) _ (by omega) f.u8 ?_)
      have := r1.u8 (k := 62 + 12 * m + k) (v := so (gi y 718) s k)
      have e : uT (P1 k) (62 + 12 * m + k) (so (gi y 718) s k) = P1 (k + 1) := by
        funext i
        have e0 : so (gi y 718) s k = so T s k := by
          rw [r1.2.1]
          show (if 62 + 12 * m ≤ 62 + 12 * s + k ∧ 62 + 12 * s + k < 62 + 12 * m + k then _ else T (62 + 12 * s + k)) = _
          by_cases c1 : 62 + 12 * m ≤ 62 + 12 * s + k ∧ 62 + 12 * s + k < 62 + 12 * m + k
          · omega
          · rw [if_neg c1]; rfl
        rw [e0]
        show (if i = 62 + 12 * m + k then so T s k else if 62 + 12 * m ≤ i ∧ i < 62 + 12 * m + k then so T s (i - (62 + 12 * m)) else T i) = (if 62 + 12 * m ≤ i ∧ i < 62 + 12 * m + (k + 1) then so T s (i - (62 + 12 * m)) else T i)
        by_cases c1 : i = 62 + 12 * m + k
        · rw [if_pos c1, if_pos (by omega), c1]
          congr 1
          omega
        · rw [if_neg c1]
          by_cases c2 : 62 + 12 * m ≤ i ∧ i < 62 + 12 * m + k
          · rw [if_pos c2, if_pos (by omega)]
          · rw [if_neg c2, if_neg (by omega)]
      rw [e] at this
      exact this
  refine v_X8_stays_0 km r.1.2.2.1 km1 ⟨l24_nI hs rfl, ?_⟩
  rw [r.2.1, nI_clamp (show s < 2 ^ 31 by omega)]
  refine key1 12 0 x (by omega) (RFr.rf x) ?_
  have e : P1 0 = T := by
    funext i
    show (if 62 + 12 * m ≤ i ∧ i < 62 + 12 * m + 0 then so T s (i - (62 + 12 * m)) else T i) = _
    rw [if_neg (by omega)]
  rw [e]
  exact r
def enS : Nat → TT × Nat → TT × Nat := fun s t => if kw t.1 s 0 then (stT t.1 s t.2, t.2 + 1) else t
theorem enS_t {s : Nat} {t : TT × Nat} (c : kw t.1 s 0) : enS s t = (stT t.1 s t.2, t.2 + 1) := if_pos c
theorem enS_f {s : Nat} {t : TT × Nat} (c : ¬ kw t.1 s 0) : enS s t = t := if_neg c
def enF (T : TT) (S : Nat) : TT := uT (uT (uT (uT (accT enS S (T, 0)).1 2 (nI (accT enS S (T, 0)).2)) 3 0) 4 0) 5 ((accT enS S (T, 0)).1 5 + 1)
theorem en_bd {T : TT} : ∀ s, s ≤ 24 → (accT enS s (T, 0)).2 ≤ s ∧ ∀ i, i < 62 ∨ 350 ≤ i → (accT enS s (T, 0)).1 i = T i := by
  intro s
  induction s with
  | zero => intro _; exact ⟨Nat.le_refl _, fun i _ => rfl⟩
  | succ s ih =>
    intro hs
    obtain ⟨i1, i2⟩ := ih (by omega)
    simp only [accT]
    generalize accT enS s (T, 0) = t at i1 i2 ⊢
    by_cases c : kw t.1 s 0
    · rw [enS_t c]
      exact ⟨Nat.succ_le_succ i1, fun i hi => (stT_off (by omega) hi).trans (i2 i hi)⟩
    · rw [enS_f c]
      exact ⟨by omega, i2⟩
end
set_option maxHeartbeats 2000000 in
theorem v_X8_ends_0 {K : Sh} {x : Cn} {Q : Int32 → Cn → Prop} {b0 : Nat} {b0_1 : Nat} {n_b0_1 : Nat} (k_b0 : kk K b0 = some (8, 0)) (g_b0_1 : gr x b0 1 = some b0_1) (k_b0_1 : kk K b0_1 = some (20, n_b0_1)) (K0 : vp_in 0 n_b0_1 ∧ (((0 < gi x b0_1 0) → (vp_in 4 n_b0_1 ∧ (((gi x b0_1 0) ≤ (gi x b0_1 4) → (mSV mX8_keeps [.ref b0] K x (fun y_5 => GI mX8_ends 36 [some (.ref b0), some (.int 0), some (.int 0)] [] K y_5 Q))) ∧ (¬ (gi x b0_1 0) ≤ (gi x b0_1 4) → (Q (-6) x))))) ∧ (¬ (0 < gi x b0_1 0) → (Q (-2) x)))) : mSI mX8_ends [.ref b0] K x Q := by
  refine s_I (by decide) (by simp [Value.category]) (Nat.le_of_ble_eq_true rfl) ?_
  show mGM mX8_ends 0 [some (.ref b0), none, none] [] (hp K x) (PI K Q)
  refine r_aload_n (pc := 0) dX8_ends_0 rfl ?_
  obtain ⟨i_1, K0⟩ := K0
  refine s_VI (pc := 1) mX8_isThere (ci := 8) (a := b0) (As := []) dX8_ends_1 lk_X8_49 in_X8_isThere mo_X8_isThere ⟨by decide, rfl⟩ ⟨by decide, by decide⟩ (Nat.le_of_ble_eq_true rfl) k_b0 (sp_X8_isThere k_b0 g_b0_1 k_b0_1 i_1 ?_)
  refine r_if_ne (pc := 4) (tgt := 10) dX8_ends_4 (by decide) (fun q => ?_) (fun q => ?_)
  · have q := b2i_nz q
    have K0 := K0.1 q
    refine r_aload_n (pc := 10) dX8_ends_10 rfl ?_
    refine s_getR (pc := 11) dX8_ends_11 fl_X8_9 rfl k_b0 g_b0_1 ?_
    refine r_iconst (pc := 14) (v := 4) dX8_ends_14 (by decide) ?_
    obtain ⟨i_3, K0⟩ := K0
    refine s_iald (pc := 15) dX8_ends_15 k_b0_1 i_3 ?_
    refine r_aload_n (pc := 16) dX8_ends_16 rfl ?_
    refine s_getR (pc := 17) dX8_ends_17 fl_X8_9 rfl k_b0 g_b0_1 ?_
    refine r_iconst (pc := 20) (v := 0) dX8_ends_20 (by decide) ?_
    refine s_iald (pc := 21) dX8_ends_21 k_b0_1 i_1 ?_
    refine r_icmp_ge (pc := 22) (tgt := 28) dX8_ends_22 (by decide) (fun q => ?_) (fun q => ?_)
    · have K0 := K0.1 q
      refine r_aload_n (pc := 28) dX8_ends_28 rfl ?_
      refine s_VV (pc := 29) mX8_keeps (ci := 8) (a := b0) (As := []) dX8_ends_29 lk_X8_366 in_X8_keeps mo_X8_keeps ⟨by decide, rfl⟩ ⟨by decide, by decide⟩ (Nat.le_of_ble_eq_true rfl) k_b0 (mSV_mono K0 (fun y_5 K0 => ?_))
      refine r_iconst (pc := 32) (v := 0) dX8_ends_32 (by decide) ?_
      refine r_istore_n (pc := 33) dX8_ends_33 (by decide) ?_
      refine r_iconst (pc := 34) (L := [some (.ref b0), some (.int 0), none]) (v := 0) dX8_ends_34 (by decide) ?_
      refine r_istore_n (pc := 35) dX8_ends_35 (by decide) ?_
      exact r_le (L' := [some (.ref b0), some (.int 0), some (.int 0)]) ⟨rfl, ⟨rfl, ⟨rfl, trivial⟩⟩⟩ K0
    · have K0 := K0.2 q
      refine r_bipush (pc := 25) (v := (-6)) dX8_ends_25 (by decide) ?_
      exact s_iret rfl dX8_ends_27 K0
  · have q := (b2i_z _).mp q
    have K0 := K0.2 q
    refine r_bipush (pc := 7) (v := (-2)) dX8_ends_7 (by decide) ?_
    exact s_iret rfl dX8_ends_9 K0
set_option maxHeartbeats 2000000 in
theorem v_X8_ends_36 {K : Sh} {x : Cn} {Q : Int32 → Cn → Prop} {b0 : Nat} {l1 : Int32} {l2 : Int32} {b0_1 : Nat} {n_b0_1 : Nat} (k_b0 : kk K b0 = some (8, 0)) (g_b0_1 : gr x b0 1 = some b0_1) (k_b0_1 : kk K b0_1 = some (20, n_b0_1)) (K0 : vp_in 2 n_b0_1 ∧ (((gi x b0_1 2) ≤ l2 → (vp_in 3 n_b0_1 ∧ (vp_in 4 n_b0_1 ∧ (vp_in 5 n_b0_1 ∧ (Q l1 (ui (ui (ui (ui x b0_1 2 l1) b0_1 3 0) b0_1 4 0) b0_1 5 ((gi (ui (ui (ui x b0_1 2 l1) b0_1 3 0) b0_1 4 0) b0_1 5) + 1))))))) ∧ (¬ (gi x b0_1 2) ≤ l2 → (mSI mX8_isKept [.ref b0, .int l2, .int 0] K x (fun r_7 y_6 => (¬ r_7 = 0 → (mSV mX8_stays [.ref b0, .int l2, .int l1] K y_6 (fun y_9 => GI mX8_ends 36 [some (.ref b0), some (.int (l1 + 1)), some (.int (l2 + 1))] [] K y_9 Q))) ∧ (r_7 = 0 → (GI mX8_ends 36 [some (.ref b0), some (.int l1), some (.int (l2 + 1))] [] K y_6 Q))))))) : GI mX8_ends 36 [some (.ref b0), some (.int l1), some (.int l2)] [] K x Q := by
  show mGM mX8_ends 36 [some (.ref b0), some (.int l1), some (.int l2)] [] (hp K x) (PI K Q)
  refine r_iload_n (pc := 36) dX8_ends_36 rfl ?_
  refine r_aload_n (pc := 37) dX8_ends_37 rfl ?_
  refine s_getR (pc := 38) dX8_ends_38 fl_X8_9 rfl k_b0 g_b0_1 ?_
  refine r_iconst (pc := 41) (v := 2) dX8_ends_41 (by decide) ?_
  obtain ⟨i_1, K0⟩ := K0
  refine s_iald (pc := 42) dX8_ends_42 k_b0_1 i_1 ?_
  refine r_icmp_ge (pc := 43) (tgt := 73) dX8_ends_43 (by decide) (fun q => ?_) (fun q => ?_)
  · have K0 := K0.1 q
    refine r_aload_n (pc := 73) dX8_ends_73 rfl ?_
    refine s_getR (pc := 74) dX8_ends_74 fl_X8_9 rfl k_b0 g_b0_1 ?_
    refine r_iconst (pc := 77) (v := 2) dX8_ends_77 (by decide) ?_
    refine r_iload_n (pc := 78) dX8_ends_78 rfl ?_
    refine s_iast (pc := 79) dX8_ends_79 k_b0_1 i_1 ?_
    refine r_aload_n (pc := 80) dX8_ends_80 rfl ?_
    refine s_getR (pc := 81) dX8_ends_81 fl_X8_9 rfl k_b0 g_b0_1 ?_
    refine r_iconst (pc := 84) (v := 3) dX8_ends_84 (by decide) ?_
    refine r_iconst (pc := 85) (v := 0) dX8_ends_85 (by decide) ?_
    obtain ⟨i_3, K0⟩ := K0
    refine s_iast (pc := 86) dX8_ends_86 k_b0_1 i_3 ?_
    refine r_aload_n (pc := 87) dX8_ends_87 rfl ?_
    refine s_getR (pc := 88) dX8_ends_88 fl_X8_9 rfl k_b0 g_b0_1 ?_
    refine r_iconst (pc := 91) (v := 4) dX8_ends_91 (by decide) ?_
    refine r_iconst (pc := 92) (v := 0) dX8_ends_92 (by decide) ?_
    obtain ⟨i_4, K0⟩ := K0
    refine s_iast (pc := 93) dX8_ends_93 k_b0_1 i_4 ?_
    refine r_aload_n (pc := 94) dX8_ends_94 rfl ?_
    refine s_getR (pc := 95) dX8_ends_95 fl_X8_9 rfl k_b0 g_b0_1 ?_
    refine r_iconst (pc := 98) (v := 5) dX8_ends_98 (by decide) ?_
    refine r_dup2 (pc := 99) dX8_ends_99 rfl rfl ?_
    obtain ⟨i_5, K0⟩ := K0
    refine s_iald (pc := 100) dX8_ends_100 k_b0_1 i_5 ?_
    refine r_iconst (pc := 101) (v := 1) dX8_ends_101 (by decide) ?_
    refine r_iadd (pc := 102) dX8_ends_102 ?_
    refine s_iast (pc := 103) dX8_ends_103 k_b0_1 i_5 ?_
    refine r_iload_n (pc := 104) dX8_ends_104 rfl ?_
    exact s_iret rfl dX8_ends_105 K0
  · have K0 := K0.2 q
    refine r_aload_n (pc := 46) dX8_ends_46 rfl ?_
    refine r_iload_n (pc := 47) dX8_ends_47 rfl ?_
    refine r_iconst (pc := 48) (v := 0) dX8_ends_48 (by decide) ?_
    refine s_VI (pc := 49) mX8_isKept (ci := 8) (a := b0) (As := [.int l2, .int 0]) dX8_ends_49 lk_X8_302 in_X8_isKept mo_X8_isKept ⟨by decide, rfl⟩ ⟨by decide, by decide⟩ (Nat.le_of_ble_eq_true rfl) k_b0 (mSI_mono K0 (fun r_7 y_6 K0 => ?_))
    refine r_if_ne (pc := 52) (tgt := 58) dX8_ends_52 (by decide) (fun q => ?_) (fun q => ?_)
    · have K0 := K0.1 q
      refine r_aload_n (pc := 58) dX8_ends_58 rfl ?_
      refine r_iload_n (pc := 59) dX8_ends_59 rfl ?_
      refine r_iload_n (pc := 60) dX8_ends_60 rfl ?_
      refine s_VV (pc := 61) mX8_stays (ci := 8) (a := b0) (As := [.int l2, .int l1]) dX8_ends_61 lk_X8_395 in_X8_stays mo_X8_stays ⟨by decide, rfl⟩ ⟨by decide, by decide⟩ (Nat.le_of_ble_eq_true rfl) k_b0 (mSV_mono K0 (fun y_9 K0 => ?_))
      refine r_iinc (pc := 64) (v := l1 + 1) dX8_ends_64 rfl rfl (by decide) ?_
      refine r_iinc (pc := 67) (L := [some (.ref b0), some (.int (l1 + 1)), some (.int l2)]) (v := l2 + 1) dX8_ends_67 rfl rfl (by decide) ?_
      refine r_goto (pc := 70) (L := [some (.ref b0), some (.int (l1 + 1)), some (.int (l2 + 1))]) (tgt := 36) dX8_ends_70 (by decide) ?_
      exact r_le (L' := [some (.ref b0), some (.int (l1 + 1)), some (.int (l2 + 1))]) ⟨rfl, ⟨rfl, ⟨rfl, trivial⟩⟩⟩ K0
    · have K0 := K0.2 q
      refine r_goto (pc := 55) (tgt := 67) dX8_ends_55 (by decide) ?_
      refine r_iinc (pc := 67) (v := l2 + 1) dX8_ends_67 rfl rfl (by decide) ?_
      refine r_goto (pc := 70) (L := [some (.ref b0), some (.int l1), some (.int (l2 + 1))]) (tgt := 36) dX8_ends_70 (by decide) ?_
      exact r_le (L' := [some (.ref b0), some (.int l1), some (.int (l2 + 1))]) ⟨rfl, ⟨rfl, ⟨rfl, trivial⟩⟩⟩ K0
section
theorem sq_X8_ends {y : Cn} {Q : Int32 → Cn → Prop} {T : TT} {W C S A N n : Nat} {H : Nat → TT} (r : RS y T n H) (F : WF T W C S A N) (k1 : ¬ 0 < nI W → Q (-2) y) (k2 : 0 < nI W → ¬ W ≤ N → Q (-6) y) (k3 : 0 < nI W → W ≤ N → ∀ z, RFr y z → RS z (enF T S) (pn n) (push H n T) → Q (nI (accT enS S (T, 0)).2) z) : mSI mX8_ends [.ref 717] KW y Q := by
  have hS : S ≤ 24 := F.2.2.2.2.2.2.1
  have hW : W ≤ 30 := F.2.2.1
  have hN : N ≤ W := F.2.2.2.2.2.2.2.2.2.2.1
  refine v_X8_ends_0 km r.1.1 km1 ⟨v0 (k := 0) (by decide) rfl rfl, ?_⟩
  rw [r.2.1, F.1, F.2.2.2.2.2.2.2.2.2.1, nI_leI (by omega) (by omega)]
  refine ⟨fun z1 => ⟨v0 (k := 4) (by decide) rfl rfl, fun z2 => r.keeps (fun z f1 r1 => ?_), fun z2 => k2 z1 z2⟩, fun z => k1 z⟩
  have k3 := k3 z1 z2
  refine lp_acc enS (fun s t => t.2 ≤ s → t.1 2 = nI S → ∀ v, RFr y v → RS v t.1 (pn n) (push H n T) → GI mX8_ends 36 [some (.ref 717), some (.int (nI t.2)), some (.int (nI s))] [] KW v Q) S (T, 0) ?_ (fun s t hs n1 => ?_) (Nat.le_refl _) F.2.2.2.2.2.1 z f1 r1
  · intro t0 t2 v f r2
    refine v_X8_ends_36 km r2.1.1 km1 ⟨v0 (k := 2) (by decide) rfl rfl, fun _ => ⟨v0 (k := 3) (by decide) rfl rfl, v0 (k := 4) (by decide) rfl rfl, v0 (k := 5) (by decide) rfl rfl, ?_⟩, fun z => absurd (by rw [r2.2.1, t2]; exact Int32.le_refl _) z⟩
    have e5 : gi (ui (ui (ui v 718 2 (nI (accT enS S (T, 0)).2)) 718 3 0) 718 4 0) 718 5 = (accT enS S (T, 0)).1 5 := by
      simp [gi_ui, r2.2.1]
    rw [e5]
    exact k3 _ f.u8.u8.u8.u8 r2.u8.u8.u8.u8
  · intro t0 t2 v f r2
    refine v_X8_ends_36 km r2.1.1 km1 ⟨v0 (k := 2) (by decide) rfl rfl, fun z => absurd (by rw [r2.2.1, t2] at z; exact z) (nI_ge hs (by omega)), fun _ => sp_X8_isKept r2.1 km1 (by omega) ?_⟩
    rw [nI_1, nI_1, r2.2.1]
    refine ⟨fun z => ?_, fun z => ?_⟩
    · have c := b2i_nz z
      refine sp_X8_stays r2 (by omega) (by omega) (fun w f2 r3 => n1 (stT t.1 s t.2, t.2 + 1) ?_ ?_ ?_ w (f.tr f2) r3)
      · exact enS_t c
      · show t.2 + 1 ≤ s + 1; omega
      · show stT t.1 s t.2 2 = _
        rw [stT_off (by omega) (by omega)]; exact t2
    · have c : ¬ kw t.1 s 0 := (b2i_z _).mp z
      exact n1 t (enS_f c) (by omega) t2 v f r2
def sw (s m j : Nat) : Nat := if j = m then s else if j = s then m else j
theorem sw_lt {s m j : Nat} (hs : s < 24) (hm : m < 24) (hj : j < 24) : sw s m j < 24 := by
  unfold sw
  split
  · exact hs
  · split <;> omega
theorem sw_inj {s m j i : Nat} (h : sw s m j = sw s m i) : j = i := by
  unfold sw at h
  split at h <;> split at h <;> (try split at h) <;> (try split at h) <;> omega
/-- while the season begins anew: rows below m and from s on are shown -/
def ANW (x y : Cn) (q : Nat) (T : TT) (C W S s m : Nat) : Prop := SRf y q ∧ (∀ b k, ¬ (q + 6 ≤ b ∧ b < q + 30) → gi y b k = gi x b k) ∧ (∀ b k, b ≠ q + 3 → gr y b k = gr x b k) ∧ ∀ j p, (j < m ∨ (s ≤ j ∧ j < S)) → gr y (q + 3) j = some p → SER y p T j ∧ Wse T C W j
theorem ANW.st {x y : Cn} {q : Nat} {T : TT} {C W S s m p p' : Nat} (a : ANW x y q T C W S s m) (hs : s < S) (hS : S ≤ 24) (hm : m ≤ s) (hp : gr y (q + 3) s = some p) (hp' : gr y (q + 3) m = some p') {z : Cn} (h1 : ∀ b k, b ≠ p → gi z b k = gi y b k) (h2 : ∀ b k, b ≠ q + 3 → gr z b k = gr y b k) (h3 : ∀ j, gr z (q + 3) j = if j = m then some p else if j = s then some p' else gr y (q + 3) j) (g1 : ∀ j, j < 7 → gi z p j = if j = 4 then 0 else gi y p j) (g2 : gi z p 7 = bas T s) (g3 : ∀ j, 8 ≤ j → j < 12 → gi z p j = 0) : ANW x z q (stT T s m) C W S (s + 1) (m + 1) := by
  obtain ⟨e2, a2, a3, a4⟩ := a
  obtain ⟨r1, r2, r3, r4, r5, r6, r7, r8, r9⟩ := id e2
  have hz : ∀ j, gr z (q + 3) j = gr y (q + 3) (sw s m j) := fun j => by
    rw [h3]
    unfold sw
    by_cases c1 : j = m
    · rw [if_pos c1, if_pos c1, hp]
    · rw [if_neg c1, if_neg c1]
      by_cases c2 : j = s
      · rw [if_pos c2, if_pos c2, hp']
      · rw [if_neg c2, if_neg c2]
  obtain ⟨i0, hi0, ei0⟩ := r6 s (by omega)
  have ep : p = q + 6 + i0 := Option.some.inj (hp.symm.trans ei0)
  refine ⟨⟨?_, ?_, ?_, ?_, ?_, ?_, ?_, ?_, ?_⟩, fun b k hb => (h1 b k (by omega)).trans (a2 b k hb), fun b k hb => (h2 b k hb).trans (a3 b k hb), fun j p2 hj hp2 => ?_⟩
  · rw [h2 q 5 (by omega)]; exact r1
  · rw [h2 q 6 (by omega)]; exact r2
  · rw [h2 q 7 (by omega)]; exact r3
  · rw [h2 q 8 (by omega)]; exact r4
  · rw [h2 q 9 (by omega)]; exact r5
  · intro j hj; rw [hz j]; exact r6 _ (sw_lt (by omega) (by omega) hj)
  · intro j i hj hi; rw [hz j, hz i]; exact fun g => sw_inj (r7 _ _ (sw_lt (by omega) (by omega) hj) (sw_lt (by omega) (by omega) hi) g)
  · intro j hj; rw [h2 (q + 4) j (by omega)]; exact r8 j hj
  · intro j i hj hi; rw [h2 (q + 4) j (by omega), h2 (q + 4) i (by omega)]; exact r9 j i hj hi
  · obtain ⟨s1, s2⟩ := a4 s p (Or.inr ⟨Nat.le_refl _, hs⟩) hp
    rw [hz] at hp2
    by_cases c1 : j = m
    · subst c1
      have : p2 = p := by
        unfold sw at hp2
        rw [if_pos rfl] at hp2
        exact Option.some.inj (hp2.symm.trans hp)
      subst this
      refine ⟨⟨fun k hk h7 => ?_, ?_⟩, s2.sta⟩
      · rw [so_stT hk]
        unfold stf
        by_cases c2 : k < 7
        · rw [g1 k c2]
          by_cases c3 : k = 4
          · rw [if_pos c3, if_pos c3]
          · rw [if_neg c3, if_neg c3, if_neg (by omega), if_neg (by omega)]
            exact s1.1 k (by omega) (by omega)
        · rw [g3 k (by omega) hk, if_neg (by omega), if_neg (by omega), if_pos (by omega)]
      · rw [g2, bas_stT, so_stT (by decide)]
        show _ = bas T s ||| 0
        simp
    · have hjs : j ≠ s := by omega
      have hj2 : sw s m j = j := by
        unfold sw
        rw [if_neg c1, if_neg hjs]
      rw [hj2] at hp2
      have hne : p2 ≠ p := fun e => hjs (r7 j s (by omega) (by omega) (by rw [hp2, hp, e]))
      obtain ⟨t1, t2⟩ := a4 j p2 (by omega) hp2
      exact ⟨t1.cg (fun k _ => h1 p2 k hne) (fun k hk => so_stT' hk c1), t2.cg (fun k hk => so_stT' hk c1)⟩
end
set_option maxHeartbeats 2000000 in
theorem v_X4_startAnew_0 {K : Sh} {x : Cn} {Q : Cn → Prop} {b0 : Nat}   (K0 : GV mX4_startAnew 4 [some (.ref b0), some (.int 0), some (.int 0), none] [] K x Q) : mSV mX4_startAnew [.ref b0] K x Q := by
  refine s_V (by decide) (by simp [Value.category]) (Nat.le_of_ble_eq_true rfl) ?_
  show mGM mX4_startAnew 0 [some (.ref b0), none, none, none] [] (hp K x) (PV K Q)
  refine r_iconst (pc := 0) (v := 0) dX4_startAnew_0 (by decide) ?_
  refine r_istore_n (pc := 1) dX4_startAnew_1 (by decide) ?_
  refine r_iconst (pc := 2) (L := [some (.ref b0), some (.int 0), none, none]) (v := 0) dX4_startAnew_2 (by decide) ?_
  refine r_istore_n (pc := 3) dX4_startAnew_3 (by decide) ?_
  exact r_le (L' := [some (.ref b0), some (.int 0), some (.int 0), none]) ⟨rfl, ⟨rfl, ⟨rfl, trivial⟩⟩⟩ K0
set_option maxHeartbeats 2000000 in
theorem v_X4_startAnew_4 {K : Sh} {x : Cn} {Q : Cn → Prop} {b0 : Nat} {l1 : Int32} {l2 : Int32} {b0_7 : Nat} {n_b0_7 : Nat} (k_b0 : kk K b0 = some (4, 0)) (g_b0_7 : gr x b0 7 = some b0_7) (k_b0_7 : kk K b0_7 = some (23, n_b0_7)) (K0 : ((gi x b0 3) ≤ l2 → (Q (ui (ui (ui (ui x b0 3 l1) b0 4 0) b0 1 0) b0 2 ((gi (ui (ui (ui x b0 3 l1) b0 4 0) b0 1 0) b0 2) + 1)))) ∧ (¬ (gi x b0 3) ≤ l2 → (vp_in l2 n_b0_7 ∧ (∃ c_3 : Nat, gr x b0_7 ((l2 : Int32).toNatClampNeg) = some c_3 ∧ (kk K c_3 = some (5, 0) ∧ ((¬ (f_safe x c_3) → (GV mX4_startAnew 4 [some (.ref b0), some (.int l1), some (.int (l2 + 1)), none] [] K x Q)) ∧ ((f_safe x c_3) → (mSV mX5_openIn [.ref c_3, .int (f_held x c_3)] K x (fun y_7 => gr y_7 b0 7 = some b0_7 ∧ (vp_in l1 n_b0_7 ∧ (∃ c_10 : Nat, gr y_7 b0_7 ((l1 : Int32).toNatClampNeg) = some c_10 ∧ (kk K c_10 = some (5, 0) ∧ (gr (ur (ui y_7 c_3 4 0) b0_7 (l2 : Int32).toNatClampNeg (some c_10)) b0 7 = some b0_7 ∧ (GV mX4_startAnew 4 [some (.ref b0), some (.int (l1 + 1)), some (.int (l2 + 1)), none] [] K (ur (ur (ui y_7 c_3 4 0) b0_7 (l2 : Int32).toNatClampNeg (some c_10)) b0_7 (l1 : Int32).toNatClampNeg (some c_3)) Q)))))))))))))) : GV mX4_startAnew 4 [some (.ref b0), some (.int l1), some (.int l2), none] [] K x Q := by
  show mGM mX4_startAnew 4 [some (.ref b0), some (.int l1), some (.int l2), none] [] (hp K x) (PV K Q)
  refine r_iload_n (pc := 4) dX4_startAnew_4 rfl ?_
  refine r_aload_n (pc := 5) dX4_startAnew_5 rfl ?_
  refine s_getI (pc := 6) dX4_startAnew_6 fl_X4_21 rfl k_b0 ?_
  refine r_icmp_ge (pc := 9) (tgt := 67) dX4_startAnew_9 (by decide) (fun q => ?_) (fun q => ?_)
  · have K0 := K0.1 q
    refine r_aload_n (pc := 67) dX4_startAnew_67 rfl ?_
    refine r_iload_n (pc := 68) dX4_startAnew_68 rfl ?_
    refine s_putI (pc := 69) dX4_startAnew_69 fl_X4_21 rfl rfl k_b0 ?_
    refine r_aload_n (pc := 72) dX4_startAnew_72 rfl ?_
    refine r_iconst (pc := 73) (v := 0) dX4_startAnew_73 (by decide) ?_
    refine s_putI (pc := 74) dX4_startAnew_74 fl_X4_24 rfl rfl k_b0 ?_
    refine r_aload_n (pc := 77) dX4_startAnew_77 rfl ?_
    refine r_iconst (pc := 78) (v := 0) dX4_startAnew_78 (by decide) ?_
    refine s_putI (pc := 79) dX4_startAnew_79 fl_X4_15 rfl rfl k_b0 ?_
    refine r_aload_n (pc := 82) dX4_startAnew_82 rfl ?_
    refine r_dup (pc := 83) dX4_startAnew_83 rfl ?_
    refine s_getI (pc := 84) dX4_startAnew_84 fl_X4_18 rfl k_b0 ?_
    refine r_iconst (pc := 87) (v := 1) dX4_startAnew_87 (by decide) ?_
    refine r_iadd (pc := 88) dX4_startAnew_88 ?_
    refine s_putI (pc := 89) dX4_startAnew_89 fl_X4_18 rfl rfl k_b0 ?_
    exact s_ret rfl dX4_startAnew_92 K0
  · have K0 := K0.2 q
    refine r_aload_n (pc := 12) dX4_startAnew_12 rfl ?_
    refine s_getR (pc := 13) dX4_startAnew_13 fl_X4_36 rfl k_b0 g_b0_7 ?_
    refine r_iload_n (pc := 16) dX4_startAnew_16 rfl ?_
    obtain ⟨i_2, K0⟩ := K0
    obtain ⟨c_3, g_4, K0⟩ := K0
    refine s_aald (pc := 17) dX4_startAnew_17 (by decide) rfl k_b0_7 i_2 g_4 ?_
    refine r_astore_n (pc := 18) dX4_startAnew_18 (by decide) ?_
    refine r_aload_n (pc := 19) (L := [some (.ref b0), some (.int l1), some (.int l2), some (.ref c_3)]) dX4_startAnew_19 rfl ?_
    obtain ⟨e_5, K0⟩ := K0
    refine s_VI (pc := 20) mX5_isSafe (ci := 5) (a := c_3) (As := []) dX4_startAnew_20 lk_X4_154 in_X5_isSafe mo_X5_isSafe ⟨by decide, rfl⟩ ⟨by decide, by decide⟩ (Nat.le_of_ble_eq_true rfl) e_5 (sp_X5_isSafe e_5 ?_)
    refine r_if_eq (pc := 23) (tgt := 61) dX4_startAnew_23 (by decide) (fun q => ?_) (fun q => ?_)
    · have q := (b2i_z _).mp q
      have K0 := K0.1 q
      refine r_iinc (pc := 61) (v := l2 + 1) dX4_startAnew_61 rfl rfl (by decide) ?_
      refine r_goto (pc := 64) (L := [some (.ref b0), some (.int l1), some (.int (l2 + 1)), some (.ref c_3)]) (tgt := 4) dX4_startAnew_64 (by decide) ?_
      exact r_le (L' := [some (.ref b0), some (.int l1), some (.int (l2 + 1)), none]) ⟨rfl, ⟨rfl, ⟨rfl, trivial⟩⟩⟩ K0
    · have q := b2i_nz q
      have K0 := K0.2 q
      refine r_aload_n (pc := 26) dX4_startAnew_26 rfl ?_
      refine r_aload_n (pc := 27) dX4_startAnew_27 rfl ?_
      refine s_VI (pc := 28) mX5_heldBits (ci := 5) (a := c_3) (As := []) dX4_startAnew_28 lk_X4_88 in_X5_heldBits mo_X5_heldBits ⟨by decide, rfl⟩ ⟨by decide, by decide⟩ (Nat.le_of_ble_eq_true rfl) e_5 (sp_X5_heldBits e_5 ?_)
      refine s_VV (pc := 31) mX5_openIn (ci := 5) (a := c_3) (As := [.int (f_held x c_3)]) dX4_startAnew_31 lk_X4_157 in_X5_openIn mo_X5_openIn ⟨by decide, rfl⟩ ⟨by decide, by decide⟩ (Nat.le_of_ble_eq_true rfl) e_5 (mSV_mono K0 (fun y_7 K0 => ?_))
      refine r_aload_n (pc := 34) dX4_startAnew_34 rfl ?_
      refine r_iconst (pc := 35) (v := 0) dX4_startAnew_35 (by decide) ?_
      refine s_putZ (pc := 36) dX4_startAnew_36 fl_X4_137 rfl rfl e_5 (by decide) ?_
      refine r_aload_n (pc := 39) dX4_startAnew_39 rfl ?_
      obtain ⟨g_8, K0⟩ := K0
      refine s_getR (pc := 40) dX4_startAnew_40 fl_X4_36 rfl k_b0 g_8 ?_
      refine r_iload_n (pc := 43) dX4_startAnew_43 rfl ?_
      refine r_aload_n (pc := 44) dX4_startAnew_44 rfl ?_
      refine s_getR (pc := 45) dX4_startAnew_45 fl_X4_36 rfl k_b0 g_8 ?_
      refine r_iload_n (pc := 48) dX4_startAnew_48 rfl ?_
      obtain ⟨i_9, K0⟩ := K0
      obtain ⟨c_10, g_11, K0⟩ := K0
      refine s_aald (pc := 49) dX4_startAnew_49 (by decide) rfl k_b0_7 i_9 g_11 ?_
      obtain ⟨e_12, K0⟩ := K0
      refine s_aast (pc := 50) dX4_startAnew_50 (by decide) (by decide) rfl k_b0_7 e_12 i_2 ?_
      refine r_aload_n (pc := 51) dX4_startAnew_51 rfl ?_
      obtain ⟨g_13, K0⟩ := K0
      refine s_getR (pc := 52) dX4_startAnew_52 fl_X4_36 rfl k_b0 g_13 ?_
      refine r_iload_n (pc := 55) dX4_startAnew_55 rfl ?_
      refine r_aload_n (pc := 56) dX4_startAnew_56 rfl ?_
      refine s_aast (pc := 57) dX4_startAnew_57 (by decide) (by decide) rfl k_b0_7 e_5 i_9 ?_
      refine r_iinc (pc := 58) (v := l1 + 1) dX4_startAnew_58 rfl rfl (by decide) ?_
      refine r_iinc (pc := 61) (L := [some (.ref b0), some (.int (l1 + 1)), some (.int l2), some (.ref c_3)]) (v := l2 + 1) dX4_startAnew_61 rfl rfl (by decide) ?_
      refine r_goto (pc := 64) (L := [some (.ref b0), some (.int (l1 + 1)), some (.int (l2 + 1)), some (.ref c_3)]) (tgt := 4) dX4_startAnew_64 (by decide) ?_
      exact r_le (L' := [some (.ref b0), some (.int (l1 + 1)), some (.int (l2 + 1)), none]) ⟨rfl, ⟨rfl, ⟨rfl, trivial⟩⟩⟩ K0
section
theorem sp_X4_startAnew {x : Cn} {Q : Cn → Prop} {q : Nat} {T : TT} {W C S A N : Nat} (E : SEA x q T W C S A N) (k : ∀ z, (∀ b k, ¬ (q ≤ b ∧ b < q + 54) → gi z b k = gi x b k) → (∀ b k, b ≠ q + 3 → gr z b k = gr x b k) → SEA z q (enF T S) W C (accT enS S (T, 0)).2 0 0 → Q z) : mSV mX4_startAnew [.ref q] KW x Q := by
  have hS : S ≤ 24 := E.nums.2.2.2.2.2.2.1
  have e3 := E.nums.2.2.1
  refine v_X4_startAnew_0 (lp_acc enS (fun s t => t.2 ≤ s → ∀ y, ANW x y q t.1 C W S s t.2 → GV mX4_startAnew 4 [some (.ref q), some (.int (nI t.2)), some (.int (nI s)), none] [] KW y Q) S (T, 0) ?_ (fun s t hs n1 => ?_) (Nat.le_refl _) x ⟨E.2.1, fun _ _ _ => rfl, fun _ _ _ => rfl, fun j p hj hp => ⟨E.2.2.1.2.2.2.2.2.2.1 j p (by omega) hp, E.2.2.2.2.2.2.2.2.2.2.2.2.2.2.2.1 j (by omega)⟩⟩)
  · intro t0 y a
    obtain ⟨b1, b2⟩ := en_bd (T := T) S hS
    obtain ⟨a1, a2, a3, a4⟩ := a
    have e3' : gi y q 3 = nI S := (a2 q 3 (by omega)).trans e3
    refine v_X4_startAnew_4 (ks0 E.1) a1.2.2.1 (ks3 E.1) ⟨fun _ => ?_, fun z => absurd (by rw [e3']; exact Int32.le_refl _) z⟩
    obtain ⟨e1, e2, ⟨v0, v1, v2, v3, v4, v5, v6, v7⟩, w1, w2, w3, w4, w5, w6, w7, w8, w9, w10, w11, w12, w13, w14⟩ := E
    have hF : ∀ i, i ≠ 2 → i ≠ 3 → i ≠ 4 → i ≠ 5 → enF T S i = (accT enS S (T, 0)).1 i := fun i h2 h3 h4 h5 => by
      unfold enF
      rw [uT_ne _ _ h5, uT_ne _ _ h4, uT_ne _ _ h3, uT_ne _ _ h2]
    have hT : ∀ i, i < 62 → i ≠ 2 → i ≠ 3 → i ≠ 4 → i ≠ 5 → enF T S i = T i := fun i h h2 h3 h4 h5 => (hF i h2 h3 h4 h5).trans (b2 i (Or.inl h))
    have e5 : gi (ui (ui (ui y q 3 (nI (accT enS S (T, 0)).2)) q 4 0) q 1 0) q 2 = gi x q 2 := by
      simp only [gi_ui]
      rw [if_neg (by omega), if_neg (by omega), if_neg (by omega)]
      exact a2 q 2 (by omega)
    rw [e5]
    have off : ∀ b i, ¬ (b = q ∧ 1 ≤ i ∧ i ≤ 4) → gi (ui (ui (ui (ui y q 3 (nI (accT enS S (T, 0)).2)) q 4 0) q 1 0) q 2 (gi x q 2 + 1)) b i = gi y b i := fun b i c => by
      simp only [gi_ui]
      rw [if_neg (by omega), if_neg (by omega), if_neg (by omega), if_neg (by omega)]
    refine k _ (fun b i hb => (off b i (by omega)).trans (a2 b i (by omega))) (fun b i hb => a3 b i hb) ⟨e1, a1.keep rfl, ⟨?_, ?_, ?_, ?_, ?_, ?_, ?_, ?_⟩, ?_⟩
    · rw [off q 0 (by omega), a2 q 0 (by omega), hT 0 (by decide) (by decide) (by decide) (by decide) (by decide)]; exact v0
    · simp [gi_ui, enF, uT]
    · simp only [gi_ui, if_true, and_self]
      rw [v2]
      show _ = uT _ 5 _ 5
      rw [uT_at, b2 5 (by omega)]
    · simp [gi_ui, enF, uT]
    · simp [gi_ui, enF, uT]
    · intro h hh
      rw [off (q + 1) h (by omega), off (q + 2) h (by omega), a2 (q + 1) h (by omega), a2 (q + 2) h (by omega), hT _ (by omega) (by omega) (by omega) (by omega) (by omega), hT _ (by omega) (by omega) (by omega) (by omega) (by omega)]
      exact v5 h hh
    · intro j p hj hp
      obtain ⟨i0, hi0, ei0⟩ := a1.2.2.2.2.2.1 j (by omega)
      have ep : p = q + 6 + i0 := Option.some.inj ((show gr y (q + 3) j = some p from hp).symm.trans ei0)
      exact (a4 j p (Or.inl hj) hp).1.cg (fun k _ => off p k (by omega)) (fun k hk => hF _ (by omega) (by omega) (by omega) (by omega))
    · intro j p hj; omega
    · refine ⟨by rw [hT 0 (by decide) (by decide) (by decide) (by decide) (by decide)]; exact w1, w2, w3, by rw [hT 1 (by decide) (by decide) (by decide) (by decide) (by decide)]; exact w4, w5, by simp [enF, uT], by omega, by simp [enF, uT]; rfl, by decide, by simp [enF, uT]; rfl, by omega, fun h hh => by rw [hT _ (by omega) (by omega) (by omega) (by omega) (by omega), hT _ (by omega) (by omega) (by omega) (by omega) (by omega)]; exact w12 h hh, fun j hj => ?_, fun a ha => by omega⟩
      obtain ⟨i0, hi0, ei0⟩ := a1.2.2.2.2.2.1 j (by omega)
      exact (a4 j _ (Or.inl hj) ei0).2.cg (fun k hk => hF _ (by omega) (by omega) (by omega) (by omega))
  · intro t0 y a
    obtain ⟨a1, a2, a3, a4⟩ := id a
    have e3' : gi y q 3 = nI S := (a2 q 3 (by omega)).trans e3
    obtain ⟨i0, hi0, ei0⟩ := a1.2.2.2.2.2.1 s (by omega)
    obtain ⟨i1, hi1, ei1⟩ := a1.2.2.2.2.2.1 t.2 (by omega)
    obtain ⟨s1, s2⟩ := a4 s _ (Or.inr ⟨Nat.le_refl _, hs⟩) ei0
    refine v_X4_startAnew_4 (ks0 E.1) a1.2.2.1 (ks3 E.1) ⟨fun z => absurd (by rw [e3'] at z; exact z) (nI_ge hs (by omega)), fun _ => ?_⟩
    rw [nI_1, nI_1, nI_clamp (show s < 2 ^ 31 by omega), nI_clamp (show t.2 < 2 ^ 31 by omega)]
    refine ⟨vp_in_nI (by omega) (by decide), _, ei0, ks6 E.1 hi0, fun z => ?_, fun z => ?_⟩
    · have c : ¬ kw t.1 s 0 := fun u => z ((s1.safe s2).mpr u)
      refine n1 t (enS_f c) (by omega) y ⟨a1, a2, a3, fun j p hj hp => a4 j p (by omega) hp⟩
    · have c : kw t.1 s 0 := (s1.safe s2).mp z
      refine sp_X5_openIn_at (ks6 E.1 hi0) (fun v f v1 v2 v3 => ?_)
      have hg : ∀ b i, gr v b i = gr y b i := fun b i => by unfold gr; rw [f.1]
      refine ⟨(hg q 7).trans a1.2.2.1, vp_in_nI (by omega) (by decide), _, (hg _ _).trans ei1, ks6 E.1 hi1, ?_, n1 (stT t.1 s t.2, t.2 + 1) (enS_t c) (show t.2 + 1 ≤ s + 1 by omega) _ (a.st hs hS t0 ei0 ei1 (fun b i hb => ?_) (fun b i hb => ?_) (fun j => ?_) (fun j hj => ?_) ?_ (fun j h8 h12 => ?_))⟩
      · rw [gr_ur, if_neg (by omega), gr_ui, hg]; exact a1.2.2.1
      · rw [gi_ur, gi_ur, gi_ui, if_neg (fun z => hb z.1)]; exact f.2 b i hb
      · rw [gr_ur, if_neg (fun z => hb z.1), gr_ur, if_neg (fun z => hb z.1), gr_ui]; exact hg b i
      · rw [gr_ur, gr_ur, gr_ui]
        by_cases c1 : j = t.2
        · rw [if_pos ⟨rfl, c1⟩, if_pos c1]
        · rw [if_neg (fun z => c1 z.2), if_neg c1]
          by_cases c2 : j = s
          · rw [if_pos ⟨rfl, c2⟩, if_pos c2]
          · rw [if_neg (fun z => c2 z.2), if_neg c2]; exact hg _ _
      · rw [gi_ur, gi_ur, gi_ui]
        by_cases c1 : j = 4
        · rw [if_pos ⟨rfl, c1⟩, if_pos c1]
        · rw [if_neg (fun z => c1 z.2), if_neg c1]; exact v1 j hj
      · rw [gi_ur, gi_ur, gi_ui, if_neg (by omega), v2]; exact s1.held s2
      · rw [gi_ur, gi_ur, gi_ui, if_neg (by omega)]; exact v3 j h8 h12
end
set_option maxHeartbeats 2000000 in
theorem v_X7_ends_0 {K : Sh} {x : Cn} {Q : Int32 → Cn → Prop} {b0 : Nat} {b0_2 : Nat} (k_b0 : kk K b0 = some (7, 0)) (g_b0_2 : gr x b0 2 = some b0_2) (k_b0_2 : kk K b0_2 = some (4, 0)) (K0 : ((0 < gi x b0_2 0) → (((gi x b0_2 0 ≤ gi x b0_2 1) → (mSV mX7_remember [.ref b0] K x (fun y_3 => gr y_3 b0 2 = some b0_2 ∧ (mSV mX4_startAnew [.ref b0_2] K y_3 (fun y_5 => gr y_5 b0 2 = some b0_2 ∧ (Q (gi y_5 b0_2 3) y_5)))))) ∧ (¬ (gi x b0_2 0 ≤ gi x b0_2 1) → (Q (-6) x)))) ∧ (¬ (0 < gi x b0_2 0) → (Q (-2) x))) : mSI mX7_ends [.ref b0] K x Q := by
  refine s_I (by decide) (by simp [Value.category]) (Nat.le_of_ble_eq_true rfl) ?_
  show mGM mX7_ends 0 [some (.ref b0)] [] (hp K x) (PI K Q)
  refine r_aload_n (pc := 0) dX7_ends_0 rfl ?_
  refine s_VI (pc := 1) mX7_hasText (ci := 7) (a := b0) (As := []) dX7_ends_1 lk_X7_121 in_X7_hasText mo_X7_hasText ⟨by decide, rfl⟩ ⟨by decide, by decide⟩ (Nat.le_of_ble_eq_true rfl) k_b0 (sp_X7_hasText k_b0 g_b0_2 k_b0_2 ?_)
  refine r_if_ne (pc := 4) (tgt := 10) dX7_ends_4 (by decide) (fun q => ?_) (fun q => ?_)
  · have q := b2i_nz q
    have K0 := K0.1 q
    refine r_aload_n (pc := 10) dX7_ends_10 rfl ?_
    refine s_getR (pc := 11) dX7_ends_11 fl_X7_20 rfl k_b0 g_b0_2 ?_
    refine s_VI (pc := 14) mX4_isOver (ci := 4) (a := b0_2) (As := []) dX7_ends_14 lk_X7_279 in_X4_isOver mo_X4_isOver ⟨by decide, rfl⟩ ⟨by decide, by decide⟩ (Nat.le_of_ble_eq_true rfl) k_b0_2 (sp_X4_isOver k_b0_2 ?_)
    refine r_if_ne (pc := 17) (tgt := 23) dX7_ends_17 (by decide) (fun q => ?_) (fun q => ?_)
    · have q := b2i_nz q
      have K0 := K0.1 q
      refine r_aload_n (pc := 23) dX7_ends_23 rfl ?_
      refine s_VV (pc := 24) mX7_remember (ci := 7) (a := b0) (As := []) dX7_ends_24 lk_X7_333 in_X7_remember mo_X7_remember ⟨by decide, rfl⟩ ⟨by decide, by decide⟩ (Nat.le_of_ble_eq_true rfl) k_b0 (mSV_mono K0 (fun y_3 K0 => ?_))
      refine r_aload_n (pc := 27) dX7_ends_27 rfl ?_
      obtain ⟨g_4, K0⟩ := K0
      refine s_getR (pc := 28) dX7_ends_28 fl_X7_20 rfl k_b0 g_4 ?_
      refine s_VV (pc := 31) mX4_startAnew (ci := 4) (a := b0_2) (As := []) dX7_ends_31 lk_X7_376 in_X4_startAnew mo_X4_startAnew ⟨by decide, rfl⟩ ⟨by decide, by decide⟩ (Nat.le_of_ble_eq_true rfl) k_b0_2 (mSV_mono K0 (fun y_5 K0 => ?_))
      refine r_aload_n (pc := 34) dX7_ends_34 rfl ?_
      obtain ⟨g_6, K0⟩ := K0
      refine s_getR (pc := 35) dX7_ends_35 fl_X7_20 rfl k_b0 g_6 ?_
      refine s_getI (pc := 38) dX7_ends_38 fl_X7_97 rfl k_b0_2 ?_
      exact s_iret rfl dX7_ends_41 K0
    · have q := (b2i_z _).mp q
      have K0 := K0.2 q
      refine r_bipush (pc := 20) (v := (-6)) dX7_ends_20 (by decide) ?_
      exact s_iret rfl dX7_ends_22 K0
  · have q := (b2i_z _).mp q
    have K0 := K0.2 q
    refine r_bipush (pc := 7) (v := (-2)) dX7_ends_7 (by decide) ?_
    exact s_iret rfl dX7_ends_9 K0
theorem eq_drop (a : Int32) : Both mX7_drop mX8_drop [.int a] := by
  intro x R
  obtain ⟨W, C, S, A, N, n, H, ac, rs, nm⟩ := R.ac
  have E := ac.2.2.2.2
  have hn := E.nums
  have hA : A ≤ 24 := hn.2.2.2.2.2.2.2.1
  have hC : C ≤ 8 := hn.2.2.2.2.2.1
  refine v_X7_drop_0 k0 R.1.2.1 (ks0 E.1) ?_
  rw [hn.2.2.2.1]
  refine ⟨fun z => ac.rem (fun _ _ => rfl) (fun y ay y1 y2 => ⟨ay.2.1.2.1, ?_⟩), fun z => sq_X8_drop rs E.2.2.2 (fun _ => ⟨rfl, R⟩) (fun b hb hb2 => absurd ⟨hb ▸ nI_pos' (by omega), hb ▸ nI_lt hb2 (by omega)⟩ z)⟩
  obtain ⟨b, hb, rfl⟩ := inN (by omega) z
  refine sp_X4_removeAsk ay.2.2.2.2 hb (fun v v1 v2 v3 v4 => ?_)
  have a2 : AC x v W C S (A - 1) N (pn n) (drT (gi x 718) b A) (push H n (gi x 718)) := ay.up2 (fun d i hd => v1 d i (by omega)) (fun d i hd => v3 d i (by omega)) (ay.2.2.2.2.drop hb v1 v2 v3 v4)
  refine ⟨a2.2.1.2.1, ?_⟩
  rw [v2]
  exact sq_X8_drop (a2.rs rs) E.2.2.2 (fun u => absurd z u) (fun b' hb' hb2 w f2 r2 => ⟨rfl, by
    have : b' = b := ((nI_eq (by omega) (by omega)).mp hb').symm
    subst this
    exact a2.fin R nm (fun c hc => drT_off (by omega) (by omega)) f2 r2⟩)
theorem eq_ends : Both mX7_ends mX8_ends [] := by
  intro x R
  obtain ⟨W, C, S, A, N, n, H, ac, rs, nm⟩ := R.ac
  have E := ac.2.2.2.2
  have hn := E.nums
  have hS : S ≤ 24 := hn.2.2.2.2.2.2.1
  have hC : C ≤ 8 := hn.2.2.2.2.2.1
  have hW : W ≤ 30 := hn.2.2.2.2.1
  have hN : N ≤ W := hn.2.2.2.2.2.2.2.2
  refine v_X7_ends_0 k0 R.1.2.1 (ks0 E.1) ?_
  rw [hn.1, hn.2.1, nI_leI (by omega) (by omega)]
  refine ⟨fun z1 => ⟨fun z2 => ac.rem (fun _ _ => rfl) (fun y ay y1 y2 => ⟨ay.2.1.2.1, sp_X4_startAnew ay.2.2.2.2 (fun v v1 v2 v3 => ?_)⟩), fun z2 => sq_X8_ends rs E.2.2.2 (fun u => absurd z1 u) (fun _ _ => ⟨rfl, R⟩) (fun _ u => absurd u z2)⟩, fun z => sq_X8_ends rs E.2.2.2 (fun _ => ⟨rfl, R⟩) (fun u => absurd u z) (fun u => absurd u z)⟩
  have a2 : AC x v W C (accT enS S (gi x 718, 0)).2 0 0 (pn n) (enF (gi x 718) S) (push H n (gi x 718)) := ay.up2 (fun d i hd => v1 d i (by omega)) (fun d i hd => v2 d i (by omega)) v3
  refine ⟨a2.2.1.2.1, ?_⟩
  rw [v3.nums.2.2.1]
  refine sq_X8_ends (a2.rs rs) E.2.2.2 (fun u => absurd z1 u) (fun _ u => absurd z2 u) (fun _ _ w f2 r2 => ⟨rfl, a2.fin R nm (fun c hc => ?_) f2 r2⟩)
  unfold enF
  rw [uT_ne _ _ (by omega), uT_ne _ _ (by omega), uT_ne _ _ (by omega), uT_ne _ _ (by omega)]
  exact (en_bd S hS).2 _ (by omega)


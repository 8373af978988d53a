/-! 51.drop.lean.txt -/
section
theorem CRf.off {x y : Cn} (h : CRf x) (e : ∀ a k, ¬ (2 ≤ a ∧ a < 56) → gr y a k = gr x a k) : CRf y := by
  have sr : ∀ q, Isea q → q ≠ 2 → SRf x q → SRf y q := by
    intro q hq h2 g
    have c : ¬ (2 ≤ q ∧ q < 56) ∧ ¬ (2 ≤ q + 3 ∧ q + 3 < 56) ∧ ¬ (2 ≤ q + 4 ∧ q + 4 < 56) := by
      rcases hq with rfl | rfl | rfl | ⟨i, hi, rfl⟩ <;> omega
    unfold SRf at g ⊢
    simp only [e q _ c.1, e (q + 3) _ c.2.1, e (q + 4) _ c.2.2]
    exact g
  obtain ⟨a1, a2, a3, a4, a5, a6, a7, a8, a9, a10, a11, a12, a13, a14, a15, a16, a17, a18, a19, a20, a21, a22⟩ := h
  refine ⟨?_, ?_, ?_, ?_, ?_, ?_, ?_, ?_, ?_, ?_, ?_, ?_, ?_, ?_, ?_, ?_, ?_, sr 60 (by unfold Isea; omega) (by decide) a18, sr 118 (by unfold Isea; omega) (by decide) a19, fun j hj => sr _ (Or.inr (Or.inr (Or.inr ⟨j, hj, rfl⟩))) (by omega) (a20 j hj), ?_, ?_⟩
  all_goals simp only [e 0 _ (by omega), e 56 _ (by omega), e 58 _ (by omega), e 59 _ (by omega), e 114 _ (by omega), e 117 _ (by omega), e 175 _ (by omega)]
  all_goals assumption
theorem MRf.off {x y : Cn} {t : Nat} (h : MRf x t) (e : ∀ a k, ¬ (2 ≤ a ∧ a < 56) → gr y a k = gr x a k) : MRf y t := by
  unfold MRf at h ⊢
  simp only [e 717 _ (by omega)]
  exact h
theorem AC.up2 {x y z : Cn} {W C S A N W' S' A' N' n : Nat} {T T' : TT} {H : Nat → TT} (a : AC x y W C S A N n T H) (h1 : ∀ b k, ¬ (2 ≤ b ∧ b < 56) → gi z b k = gi y b k) (h2 : ∀ b k, ¬ (2 ≤ b ∧ b < 56) → gr z b k = gr y b k) (E : SEA z 2 T' W' C S' A' N') : AC x z W' C S' A' N' n T' H :=
  ⟨fun b k a1 a2 a3 a4 => (h1 b k a1).trans (a.1 b k a1 a2 a3 a4), a.2.1.off h2, a.2.2.1.off h2, a.2.2.2.1.mv a.2.1 (h1 0 5 (by omega)) (fun b k g1 g2 => h1 b k (by omega)) (fun b k hb => h2 b k (by omega)) (fun _ _ => rfl), E⟩
theorem Was.cg' {T T' : TT} {C W a a' : Nat} (w : Was T C W a) (h : ∀ k, k < 7 → ao T' a' k = ao T a k) : Was T' C W a' := by
  unfold Was at w ⊢
  simp only [h 0 (by decide), h 1 (by decide), h 2 (by decide), h 3 (by decide), h 4 (by decide), h 5 (by decide), h 6 (by decide)]
  exact w
/-- an ask goes out of the row -/
def drT (T : TT) (a A : Nat) : TT := fun i => if i = 3 then nI (A - 1) else if 350 + 7 * a ≤ i ∧ i < 511 then T (i + 7) else T i
def rot (a A k : Nat) : Nat := if k < a then k else if k + 1 < A then k + 1 else if k + 1 = A then a else k
theorem drT_off {T : TT} {a A i : Nat} (h3 : i ≠ 3) (h : i < 350) : drT T a A i = T i := by
  unfold drT
  rw [if_neg h3, if_neg (by omega)]
theorem ao_drT {T : TT} {a A b k : Nat} (hb : b + 1 < A) (hA : A ≤ 24) (hk : k < 7) : ao (drT T a A) b k = ao T (rot a A b) k := by
  unfold ao drT rot
  rw [if_neg (by omega)]
  by_cases c : b < a
  · rw [if_pos c, if_neg (by omega)]
  · rw [if_neg c, if_pos hb, if_pos (by omega)]
    congr 1
    omega
theorem rot_lt {a A k : Nat} (ha : a < A) (hA : A ≤ 24) (hk : k < 24) : rot a A k < 24 := by
  unfold rot
  split
  · omega
  · split
    · omega
    · split <;> omega
theorem rot_inj {a A k j : Nat} (ha : a < A) (h : rot a A k = rot a A j) : k = j := by
  unfold rot at h
  split at h <;> split at h <;> (try split at h) <;> (try split at h) <;> (try split at h) <;> (try split at h) <;> omega
theorem SEA.drop {x z : Cn} {q : Nat} {T : TT} {W C S A N a : Nat} (E : SEA x q T W C S A N) (ha : a < A) (h1 : ∀ b k, ¬ (b = q ∧ k = 4) → gi z b k = gi x b k) (h2 : gi z q 4 = nI (A - 1)) (h3 : ∀ b k, b ≠ q + 4 → gr z b k = gr x b k) (h4 : ∀ k, k < 24 → gr z (q + 4) k = gr x (q + 4) (rot a A k)) : SEA z q (drT T a A) W C S (A - 1) N := by
  obtain ⟨e1, e2, ⟨v0, v1, v2, v3, v4, v5, v6, v7⟩, w1, w2, w3, w4, w5, w6, w7, w8, w9, w10, w11, w12, w13, w14⟩ := E
  obtain ⟨r1, r2, r3, r4, r5, r6, r7, r8, r9⟩ := id e2
  have hT : ∀ i, i ≠ 3 → i < 350 → drT T a A i = T i := fun i => drT_off
  refine ⟨e1, ⟨?_, ?_, ?_, ?_, ?_, ?_, ?_, ?_, ?_⟩, ⟨?_, ?_, ?_, ?_, ?_, ?_, ?_, ?_⟩, ?_⟩
  · rw [h3 q 5 (by omega)]; exact r1
  · rw [h3 q 6 (by omega)]; exact r2
  · rw [h3 q 7 (by omega)]; exact r3
  · rw [h3 q 8 (by omega)]; exact r4
  · rw [h3 q 9 (by omega)]; exact r5
  · intro s hs; rw [h3 (q + 3) s (by omega)]; exact r6 s hs
  · intro s t hs ht; rw [h3 (q + 3) s (by omega), h3 (q + 3) t (by omega)]; exact r7 s t hs ht
  · intro s hs; rw [h4 s hs]; exact r8 _ (rot_lt ha w9 hs)
  · intro s t hs ht; rw [h4 s hs, h4 t ht]; exact fun g => rot_inj ha (r9 _ _ (rot_lt ha w9 hs) (rot_lt ha w9 ht) g)
  · rw [h1 q 0 (by omega), hT 0 (by decide) (by decide)]; exact v0
  · rw [h1 q 1 (by omega), hT 4 (by decide) (by decide)]; exact v1
  · rw [h1 q 2 (by omega), hT 5 (by decide) (by decide)]; exact v2
  · rw [h1 q 3 (by omega), hT 2 (by decide) (by decide)]; exact v3
  · rw [h2]; exact (if_pos rfl).symm
  · intro h hh
    rw [h1 (q + 1) h (by omega), h1 (q + 2) h (by omega), hT _ (by omega) (by omega), hT _ (by omega) (by omega)]
    exact v5 h hh
  · intro s p hs hp
    rw [h3 (q + 3) s (by omega)] at hp
    obtain ⟨j, hj, ej⟩ := r6 s (by omega)
    have ep : p = q + 6 + j := Option.some.inj (hp.symm.trans ej)
    exact (v6 s p hs hp).cg (fun k _ => h1 p k (by omega)) (fun k hk => hT _ (by omega) (by omega))
  · intro s p hs hp
    rw [h4 s (by omega)] at hp
    have hr : rot a A s < A := by
      unfold rot
      split
      · omega
      · rw [if_pos (by omega)]; omega
    obtain ⟨j, hj, ej⟩ := r8 _ (rot_lt ha w9 (show s < 24 by omega))
    have ep : p = q + 30 + j := Option.some.inj (hp.symm.trans ej)
    exact (v7 _ p hr hp).cg (fun k _ => h1 p k (by omega)) (fun k hk => ao_drT (by omega) w9 hk)
  · refine ⟨by rw [hT 0 (by decide) (by decide)]; exact w1, w2, w3, by rw [hT 1 (by decide) (by decide)]; exact w4, w5, by rw [hT 2 (by decide) (by decide)]; exact w6, w7, if_pos rfl, by omega, by rw [hT 4 (by decide) (by decide)]; exact w10, w11, fun h hh => by rw [hT _ (by omega) (by omega), hT _ (by omega) (by omega)]; exact w12 h hh, fun s hs => (w13 s hs).cg (fun k hk => hT _ (by omega) (by omega)), fun b hb => ?_⟩
    have hr : rot a A b < A := by
      unfold rot
      split
      · omega
      · rw [if_pos (by omega)]; omega
    exact (w14 _ hr).cg' (fun k hk => ao_drT (by omega) w9 hk)
set_option maxHeartbeats 2000000 in
theorem v_X4_removeAsk_0 {K : Sh} {x : Cn} {Q : Cn → Prop} {b0 : Nat} {l1 : Int32} {b0_8 : Nat} {n_b0_8 : Nat} (k_b0 : kk K b0 = some (4, 0)) (g_b0_8 : gr x b0 8 = some b0_8) (k_b0_8 : kk K b0_8 = some (24, n_b0_8)) (K0 : vp_in l1 n_b0_8 ∧ (∃ c_2 : Nat, gr x b0_8 ((l1 : Int32).toNatClampNeg) = some c_2 ∧ (GV mX4_removeAsk 11 [some (.ref b0), some (.int l1), some (.ref c_2), some (.int (l1 + 1))] [] K x Q))) : mSV mX4_removeAsk [.ref b0, .int l1] K x Q := by
  refine s_V (by decide) (by simp [Value.category]) (Nat.le_of_ble_eq_true rfl) ?_
  show mGM mX4_removeAsk 0 [some (.ref b0), some (.int l1), none, none] [] (hp K x) (PV K Q)
  refine r_aload_n (pc := 0) dX4_removeAsk_0 rfl ?_
  refine s_getR (pc := 1) dX4_removeAsk_1 fl_X4_42 rfl k_b0 g_b0_8 ?_
  refine r_iload_n (pc := 4) dX4_removeAsk_4 rfl ?_
  obtain ⟨i_1, K0⟩ := K0
  obtain ⟨c_2, g_3, K0⟩ := K0
  refine s_aald (pc := 5) dX4_removeAsk_5 (by decide) rfl k_b0_8 i_1 g_3 ?_
  refine r_astore_n (pc := 6) dX4_removeAsk_6 (by decide) ?_
  refine r_iload_n (pc := 7) (L := [some (.ref b0), some (.int l1), some (.ref c_2), none]) dX4_removeAsk_7 rfl ?_
  refine r_iconst (pc := 8) (v := 1) dX4_removeAsk_8 (by decide) ?_
  refine r_iadd (pc := 9) dX4_removeAsk_9 ?_
  refine r_istore_n (pc := 10) dX4_removeAsk_10 (by decide) ?_
  exact r_le (L' := [some (.ref b0), some (.int l1), some (.ref c_2), some (.int (l1 + 1))]) ⟨rfl, ⟨rfl, ⟨rfl, ⟨rfl, trivial⟩⟩⟩⟩ K0
set_option maxHeartbeats 2000000 in
theorem v_X4_removeAsk_11 {K : Sh} {x : Cn} {Q : Cn → Prop} {b0 : Nat} {l1 : Int32} {b2 : Nat} {l3 : Int32} {b0_8 : Nat} {n_b0_8 : Nat} (k_b0 : kk K b0 = some (4, 0)) (g_b0_8 : gr x b0 8 = some b0_8) (k_b0_8 : kk K b0_8 = some (24, n_b0_8)) (k_b2 : kk K b2 = some (0, 0)) (K0 : ((gi x b0 4) ≤ l3 → (vp_in (gi (ui x b0 4 ((gi x b0 4) - 1)) b0 4) n_b0_8 ∧ (Q (ur (ui x b0 4 ((gi x b0 4) - 1)) b0_8 ((gi (ui x b0 4 ((gi x b0 4) - 1)) b0 4) : Int32).toNatClampNeg (some b2))))) ∧ (¬ (gi x b0 4) ≤ l3 → (vp_in l3 n_b0_8 ∧ (∃ c_4 : Nat, gr x b0_8 ((l3 : Int32).toNatClampNeg) = some c_4 ∧ (kk K c_4 = some (0, 0) ∧ (vp_in (l3 - 1) n_b0_8 ∧ (GV mX4_removeAsk 11 [some (.ref b0), some (.int l1), some (.ref b2), some (.int (l3 + 1))] [] K (ur x b0_8 ((l3 - 1) : Int32).toNatClampNeg (some c_4)) Q))))))) : GV mX4_removeAsk 11 [some (.ref b0), some (.int l1), some (.ref b2), some (.int l3)] [] K x Q := by
  show mGM mX4_removeAsk 11 [some (.ref b0), some (.int l1), some (.ref b2), some (.int l3)] [] (hp K x) (PV K Q)
  refine r_iload_n (pc := 11) dX4_removeAsk_11 rfl ?_
  refine r_aload_n (pc := 12) dX4_removeAsk_12 rfl ?_
  refine s_getI (pc := 13) dX4_removeAsk_13 fl_X4_24 rfl k_b0 ?_
  refine r_icmp_ge (pc := 16) (tgt := 39) dX4_removeAsk_16 (by decide) (fun q => ?_) (fun q => ?_)
  · have K0 := K0.1 q
    refine r_aload_n (pc := 39) dX4_removeAsk_39 rfl ?_
    refine r_dup (pc := 40) dX4_removeAsk_40 rfl ?_
    refine s_getI (pc := 41) dX4_removeAsk_41 fl_X4_24 rfl k_b0 ?_
    refine r_iconst (pc := 44) (v := 1) dX4_removeAsk_44 (by decide) ?_
    refine r_isub (pc := 45) dX4_removeAsk_45 ?_
    refine s_putI (pc := 46) dX4_removeAsk_46 fl_X4_24 rfl rfl k_b0 ?_
    refine r_aload_n (pc := 49) dX4_removeAsk_49 rfl ?_
    refine s_getR (pc := 50) dX4_removeAsk_50 fl_X4_42 rfl k_b0 g_b0_8 ?_
    refine r_aload_n (pc := 53) dX4_removeAsk_53 rfl ?_
    refine s_getI (pc := 54) dX4_removeAsk_54 fl_X4_24 rfl k_b0 ?_
    refine r_aload_n (pc := 57) dX4_removeAsk_57 rfl ?_
    obtain ⟨i_2, K0⟩ := K0
    refine s_aast (pc := 58) dX4_removeAsk_58 (by decide) (by decide) rfl k_b0_8 k_b2 i_2 ?_
    exact s_ret rfl dX4_removeAsk_59 K0
  · have K0 := K0.2 q
    refine r_aload_n (pc := 19) dX4_removeAsk_19 rfl ?_
    refine s_getR (pc := 20) dX4_removeAsk_20 fl_X4_42 rfl k_b0 g_b0_8 ?_
    refine r_iload_n (pc := 23) dX4_removeAsk_23 rfl ?_
    refine r_iconst (pc := 24) (v := 1) dX4_removeAsk_24 (by decide) ?_
    refine r_isub (pc := 25) dX4_removeAsk_25 ?_
    refine r_aload_n (pc := 26) dX4_removeAsk_26 rfl ?_
    refine s_getR (pc := 27) dX4_removeAsk_27 fl_X4_42 rfl k_b0 g_b0_8 ?_
    refine r_iload_n (pc := 30) dX4_removeAsk_30 rfl ?_
    obtain ⟨i_3, K0⟩ := K0
    obtain ⟨c_4, g_5, K0⟩ := K0
    refine s_aald (pc := 31) dX4_removeAsk_31 (by decide) rfl k_b0_8 i_3 g_5 ?_
    obtain ⟨e_6, K0⟩ := K0
    obtain ⟨i_7, K0⟩ := K0
    refine s_aast (pc := 32) dX4_removeAsk_32 (by decide) (by decide) rfl k_b0_8 e_6 i_7 ?_
    refine r_iinc (pc := 33) (v := l3 + 1) dX4_removeAsk_33 rfl rfl (by decide) ?_
    refine r_goto (pc := 36) (L := [some (.ref b0), some (.int l1), some (.ref b2), some (.int (l3 + 1))]) (tgt := 11) dX4_removeAsk_36 (by decide) ?_
    exact r_le (L' := [some (.ref b0), some (.int l1), some (.ref b2), some (.int (l3 + 1))]) ⟨rfl, ⟨rfl, ⟨rfl, ⟨rfl, trivial⟩⟩⟩⟩ K0
section
theorem sp_X4_removeAsk {x : Cn} {Q : Cn → Prop} {q : Nat} {T : TT} {W C S A N a : Nat} (E : SEA x q T W C S A N) (ha : a < A) (k : ∀ z, (∀ b j, ¬ (b = q ∧ j = 4) → gi z b j = gi x b j) → gi z q 4 = nI (A - 1) → (∀ b j, b ≠ q + 4 → gr z b j = gr x b j) → (∀ j, j < 24 → gr z (q + 4) j = gr x (q + 4) (rot a A j)) → Q z) : mSV mX4_removeAsk [.ref q, .int (nI a)] KW x Q := by
  have hA : A ≤ 24 := E.nums.2.2.2.2.2.2.2.1
  obtain ⟨j, hj, ej⟩ := E.2.1.2.2.2.2.2.2.2.1 a (by omega)
  have key : ∀ c m y, m + c = A → a < m → y.1 = x.1 → (∀ b i, b ≠ q + 4 → gr y b i = gr x b i) → (∀ i, gr y (q + 4) i = if a ≤ i ∧ i + 1 < m then gr x (q + 4) (i + 1) else gr x (q + 4) i) → GV mX4_removeAsk 11 [some (.ref q), some (.int (nI a)), some (.ref (q + 30 + j)), some (.int (nI m))] [] KW y Q := by
    intro c
    induction c with
    | zero =>
      intro m y hm h0 y1 y2 y3
      have : m = A := by omega
      subst this
      have g1 : ∀ b i, gi y b i = gi x b i := fun b i => by unfold gi; rw [y1]
      have e4 : gi y q 4 = nI m := (g1 q 4).trans E.nums.2.2.2.1
      have r4 : gr y q 8 = some (q + 4) := by rw [y2 q 8 (by omega)]; exact E.2.1.2.2.2.1
      refine v_X4_removeAsk_11 (ks0 E.1) r4 (ks4 E.1) (ks30 E.1 hj) ⟨fun _ => ?_, fun z => absurd (by rw [e4]; exact Int32.le_refl _) z⟩
      have e5 : gi y q 4 - 1 = nI (m - 1) := by rw [e4]; exact pk_sub (b := 1) (by omega)
      rw [e5, show gi (ui y q 4 (nI (m - 1))) q 4 = nI (m - 1) by rw [gi_ui, if_pos ⟨rfl, rfl⟩], nI_clamp (show m - 1 < 2 ^ 31 by omega)]
      refine ⟨vp_in_nI (by omega) (by decide), k _ (fun b i hb => by rw [gi_ur, gi_ui, if_neg hb]; exact g1 b i) (by rw [gi_ur, gi_ui, if_pos ⟨rfl, rfl⟩]) (fun b i hb => by rw [gr_ur, if_neg (fun z => hb z.1), gr_ui]; exact y2 b i hb) (fun i hi => ?_)⟩
      rw [gr_ur, gr_ui]
      unfold rot
      by_cases c1 : i = m - 1
      · rw [if_pos ⟨rfl, c1⟩, if_neg (by omega), if_neg (by omega), if_pos (by omega), ej]
      · rw [if_neg (fun z => c1 z.2), y3]
        by_cases c2 : i < a
        · rw [if_neg (by omega), if_pos c2]
        · rw [if_neg c2]
          by_cases c3 : i + 1 < m
          · rw [if_pos (by omega), if_pos c3]
          · rw [if_neg (by omega), if_neg c3, if_neg (by omega)]
    | succ c ih =>
      intro m y hm h0 y1 y2 y3
      have g1 : ∀ b i, gi y b i = gi x b i := fun b i => by unfold gi; rw [y1]
      have e4 : gi y q 4 = nI A := (g1 q 4).trans E.nums.2.2.2.1
      have r4 : gr y q 8 = some (q + 4) := by rw [y2 q 8 (by omega)]; exact E.2.1.2.2.2.1
      obtain ⟨j2, hj2, ej2⟩ := E.2.1.2.2.2.2.2.2.2.1 m (by omega)
      have g2 : gr y (q + 4) m = some (q + 30 + j2) := by rw [y3, if_neg (by omega)]; exact ej2
      refine v_X4_removeAsk_11 (ks0 E.1) r4 (ks4 E.1) (ks30 E.1 hj) ⟨fun z => absurd (by rw [e4] at z; exact z) (nI_ge (by omega) (by omega)), fun _ => ?_⟩
      have em : nI m - 1 = nI (m - 1) := pk_sub (b := 1) (by omega)
      rw [em, nI_clamp (show m < 2 ^ 31 by omega), nI_clamp (show m - 1 < 2 ^ 31 by omega), nI_1]
      refine ⟨vp_in_nI (by omega) (by decide), _, g2, ks30 E.1 hj2, vp_in_nI (by omega) (by decide), ih (m + 1) _ (by omega) (by omega) y1 (fun b i hb => by rw [gr_ur, if_neg (fun z => hb z.1)]; exact y2 b i hb) (fun i => ?_)⟩
      rw [gr_ur]
      by_cases c1 : i = m - 1
      · rw [if_pos ⟨rfl, c1⟩, if_pos (by omega), ← ej2]
        congr 1
        omega
      · rw [if_neg (fun z => c1 z.2), y3]
        by_cases c2 : a ≤ i ∧ i + 1 < m
        · rw [if_pos c2, if_pos (by omega)]
        · rw [if_neg c2, if_neg (by omega)]
  refine v_X4_removeAsk_0 (ks0 E.1) E.2.1.2.2.2.1 (ks4 E.1) ?_
  rw [nI_clamp (show a < 2 ^ 31 by omega), nI_1]
  exact ⟨vp_in_nI (by omega) (by decide), _, ej, key (A - (a + 1)) (a + 1) x (by omega) (by omega) rfl (fun _ _ _ => rfl) (fun i => by rw [if_neg (by omega)])⟩
theorem EQx.rfr {x y : Cn} (h : EQx x y 718) : RFr x y := ⟨h.1, fun a k a1 _ _ _ _ _ _ => h.2 a k a1⟩
end
set_option maxHeartbeats 2000000 in
theorem v_X7_drop_0 {K : Sh} {x : Cn} {Q : Int32 → Cn → Prop} {b0 : Nat} {l1 : Int32} {b0_2 : Nat} (k_b0 : kk K b0 = some (7, 0)) (g_b0_2 : gr x b0 2 = some b0_2) (k_b0_2 : kk K b0_2 = some (4, 0)) (K0 : ((0 ≤ l1 ∧ l1 < gi x b0_2 4) → (mSV mX7_remember [.ref b0] K x (fun y_2 => gr y_2 b0 2 = some b0_2 ∧ (mSV mX4_removeAsk [.ref b0_2, .int l1] K y_2 (fun y_4 => gr y_4 b0 2 = some b0_2 ∧ (Q (gi y_4 b0_2 4) y_4)))))) ∧ (¬ (0 ≤ l1 ∧ l1 < gi x b0_2 4) → (Q (-2) x))) : mSI mX7_drop [.ref b0, .int l1] K x Q := by
  refine s_I (by decide) (by simp [Value.category]) (Nat.le_of_ble_eq_true rfl) ?_
  show mGM mX7_drop 0 [some (.ref b0), some (.int l1)] [] (hp K x) (PI K Q)
  refine r_aload_n (pc := 0) dX7_drop_0 rfl ?_
  refine r_iload_n (pc := 1) dX7_drop_1 rfl ?_
  refine s_VI (pc := 2) mX7_isAsk (ci := 7) (a := b0) (As := [.int l1]) dX7_drop_2 lk_X7_173 in_X7_isAsk mo_X7_isAsk ⟨by decide, rfl⟩ ⟨by decide, by decide⟩ (Nat.le_of_ble_eq_true rfl) k_b0 (sp_X7_isAsk k_b0 g_b0_2 k_b0_2 ?_)
  refine r_if_ne (pc := 5) (tgt := 11) dX7_drop_5 (by decide) (fun q => ?_) (fun q => ?_)
  · have q := b2i_nz q
    have K0 := K0.1 q
    refine r_aload_n (pc := 11) dX7_drop_11 rfl ?_
    refine s_VV (pc := 12) mX7_remember (ci := 7) (a := b0) (As := []) dX7_drop_12 lk_X7_333 in_X7_remember mo_X7_remember ⟨by decide, rfl⟩ ⟨by decide, by decide⟩ (Nat.le_of_ble_eq_true rfl) k_b0 (mSV_mono K0 (fun y_2 K0 => ?_))
    refine r_aload_n (pc := 15) dX7_drop_15 rfl ?_
    obtain ⟨g_3, K0⟩ := K0
    refine s_getR (pc := 16) dX7_drop_16 fl_X7_20 rfl k_b0 g_3 ?_
    refine r_iload_n (pc := 19) dX7_drop_19 rfl ?_
    refine s_VV (pc := 20) mX4_removeAsk (ci := 4) (a := b0_2) (As := [.int l1]) dX7_drop_20 lk_X7_373 in_X4_removeAsk mo_X4_removeAsk ⟨by decide, rfl⟩ ⟨by decide, by decide⟩ (Nat.le_of_ble_eq_true rfl) k_b0_2 (mSV_mono K0 (fun y_4 K0 => ?_))
    refine r_aload_n (pc := 23) dX7_drop_23 rfl ?_
    obtain ⟨g_5, K0⟩ := K0
    refine s_getR (pc := 24) dX7_drop_24 fl_X7_20 rfl k_b0 g_5 ?_
    refine s_getI (pc := 27) dX7_drop_27 fl_X7_100 rfl k_b0_2 ?_
    exact s_iret rfl dX7_drop_30 K0
  · have q := (b2i_z _).mp q
    have K0 := K0.2 q
    refine r_bipush (pc := 8) (v := (-2)) dX7_drop_8 (by decide) ?_
    exact s_iret rfl dX7_drop_10 K0
set_option maxHeartbeats 2000000 in
theorem v_X8_dropsAsk_0 {K : Sh} {x : Cn} {Q : Cn → Prop} {b0 : Nat} {l1 : Int32}   (K0 : GV mX8_dropsAsk 9 [some (.ref b0), some (.int l1), some (.int (350 + (7 * l1)))] [] K x Q) : mSV mX8_dropsAsk [.ref b0, .int l1] K x Q := by
  refine s_V (by decide) (by simp [Value.category]) (Nat.le_of_ble_eq_true rfl) ?_
  show mGM mX8_dropsAsk 0 [some (.ref b0), some (.int l1), none] [] (hp K x) (PV K Q)
  refine r_sipush (pc := 0) (v := 350) dX8_dropsAsk_0 (by decide) ?_
  refine r_bipush (pc := 3) (v := 7) dX8_dropsAsk_3 (by decide) ?_
  refine r_iload_n (pc := 5) dX8_dropsAsk_5 rfl ?_
  refine r_imul (pc := 6) dX8_dropsAsk_6 ?_
  refine r_iadd (pc := 7) dX8_dropsAsk_7 ?_
  refine r_istore_n (pc := 8) dX8_dropsAsk_8 (by decide) ?_
  exact r_le (L' := [some (.ref b0), some (.int l1), some (.int (350 + (7 * l1)))]) ⟨rfl, ⟨rfl, ⟨rfl, trivial⟩⟩⟩ K0
set_option maxHeartbeats 2000000 in
theorem v_X8_dropsAsk_9 {K : Sh} {x : Cn} {Q : Cn → Prop} {b0 : Nat} {l1 : Int32} {l2 : Int32} {b0_1 : Nat} {n_b0_1 : Nat} (k_b0 : kk K b0 = some (8, 0)) (g_b0_1 : gr x b0 1 = some b0_1) (k_b0_1 : kk K b0_1 = some (20, n_b0_1)) (K0 : (511 ≤ l2 → (vp_in 3 n_b0_1 ∧ (Q (ui x b0_1 3 ((gi x b0_1 3) - 1))))) ∧ (¬ 511 ≤ l2 → (vp_in (l2 + 7) n_b0_1 ∧ (vp_in l2 n_b0_1 ∧ (GV mX8_dropsAsk 9 [some (.ref b0), some (.int l1), some (.int (l2 + 1))] [] K (ui x b0_1 (l2 : Int32).toNatClampNeg (gi x b0_1 ((l2 + 7) : Int32).toNatClampNeg)) Q))))) : GV mX8_dropsAsk 9 [some (.ref b0), some (.int l1), some (.int l2)] [] K x Q := by
  show mGM mX8_dropsAsk 9 [some (.ref b0), some (.int l1), some (.int l2)] [] (hp K x) (PV K Q)
  refine r_iload_n (pc := 9) dX8_dropsAsk_9 rfl ?_
  refine r_sipush (pc := 10) (v := 511) dX8_dropsAsk_10 (by decide) ?_
  refine r_icmp_ge (pc := 13) (tgt := 37) dX8_dropsAsk_13 (by decide) (fun q => ?_) (fun q => ?_)
  · have K0 := K0.1 q
    refine r_aload_n (pc := 37) dX8_dropsAsk_37 rfl ?_
    refine s_getR (pc := 38) dX8_dropsAsk_38 fl_X8_9 rfl k_b0 g_b0_1 ?_
    refine r_iconst (pc := 41) (v := 3) dX8_dropsAsk_41 (by decide) ?_
    refine r_dup2 (pc := 42) dX8_dropsAsk_42 rfl rfl ?_
    obtain ⟨i_2, K0⟩ := K0
    refine s_iald (pc := 43) dX8_dropsAsk_43 k_b0_1 i_2 ?_
    refine r_iconst (pc := 44) (v := 1) dX8_dropsAsk_44 (by decide) ?_
    refine r_isub (pc := 45) dX8_dropsAsk_45 ?_
    refine s_iast (pc := 46) dX8_dropsAsk_46 k_b0_1 i_2 ?_
    exact s_ret rfl dX8_dropsAsk_47 K0
  · have K0 := K0.2 q
    refine r_aload_n (pc := 16) dX8_dropsAsk_16 rfl ?_
    refine s_getR (pc := 17) dX8_dropsAsk_17 fl_X8_9 rfl k_b0 g_b0_1 ?_
    refine r_iload_n (pc := 20) dX8_dropsAsk_20 rfl ?_
    refine r_aload_n (pc := 21) dX8_dropsAsk_21 rfl ?_
    refine s_getR (pc := 22) dX8_dropsAsk_22 fl_X8_9 rfl k_b0 g_b0_1 ?_
    refine r_iload_n (pc := 25) dX8_dropsAsk_25 rfl ?_
    refine r_bipush (pc := 26) (v := 7) dX8_dropsAsk_26 (by decide) ?_
    refine r_iadd (pc := 28) dX8_dropsAsk_28 ?_
    obtain ⟨i_3, K0⟩ := K0
    refine s_iald (pc := 29) dX8_dropsAsk_29 k_b0_1 i_3 ?_
    obtain ⟨i_4, K0⟩ := K0
    refine s_iast (pc := 30) dX8_dropsAsk_30 k_b0_1 i_4 ?_
    refine r_iinc (pc := 31) (v := l2 + 1) dX8_dropsAsk_31 rfl rfl (by decide) ?_
    refine r_goto (pc := 34) (L := [some (.ref b0), some (.int l1), some (.int (l2 + 1))]) (tgt := 9) dX8_dropsAsk_34 (by decide) ?_
    exact r_le (L' := [some (.ref b0), some (.int l1), some (.int (l2 + 1))]) ⟨rfl, ⟨rfl, ⟨rfl, trivial⟩⟩⟩ K0
section
theorem sp_X8_dropsAsk {x : Cn} {Q : Cn → Prop} {a A : Nat} {T : TT} {n : Nat} {H : Nat → TT} (r : RS x T n H) (h3 : T 3 = nI A) (ha : a < A) (hA : A ≤ 24) (q : ∀ y, EQx x y 718 → RS y (drT T a A) n H → Q y) : mSV mX8_dropsAsk [.ref 717, .int (nI a)] KW x Q := by
  have key : ∀ c m y, m + c = 511 → 350 + 7 * a ≤ m → EQx x y 718 → RS y (fun i => if 350 + 7 * a ≤ i ∧ i < m then T (i + 7) else T i) n H → GV mX8_dropsAsk 9 [some (.ref 717), some (.int (nI a)), some (.int (nI m))] [] KW y Q := by
    intro c
    induction c with
    | zero =>
      intro m y hm h0 f r1
      have : m = 511 := by omega
      subst this
      refine v_X8_dropsAsk_9 km r1.1.1 km1 ⟨fun _ => ⟨v0 (k := 3) (by decide) rfl rfl, ?_⟩, fun z => absurd (Int32.le_refl _) z⟩
      have e3 : gi y 718 3 - 1 = nI (A - 1) := by
        rw [r1.2.1]
        show (if 350 + 7 * a ≤ 3 ∧ 3 < 511 then T (3 + 7) else T 3) - 1 = _
        rw [if_neg (by omega), h3]
        exact pk_sub (b := 1) (by omega)
      rw [e3]
      refine q _ f.ui ?_
      have := r1.u8 (k := 3) (v := nI (A - 1))
      have e : uT (fun i => if 350 + 7 * a ≤ i ∧ i < 511 then T (i + 7) else T i) 3 (nI (A - 1)) = drT T a A := rfl
      rw [e] at this
      exact this
    | succ c ih =>
      intro m y hm h0 f r1
      refine v_X8_dropsAsk_9 km r1.1.1 km1 ⟨fun z => absurd z (nI_ge (b := 511) (by omega) (by decide)), fun _ => ?_⟩
      rw [show nI m + 7 = nI (m + 7) from nI_add m 7, nI_1, nI_clamp (show m < 2 ^ 31 by omega), nI_clamp (show m + 7 < 2 ^ 31 by omega)]
      refine ⟨vp_in_nI (by omega) (by decide), vp_in_nI (by omega) (by decide), ih (m + 1) _ (by omega) (by omega) f.ui ?_⟩
      have := r1.u8 (k := m) (v := gi y 718 (m + 7))
      have e : uT (fun i => if 350 + 7 * a ≤ i ∧ i < m then T (i + 7) else T i) m (gi y 718 (m + 7)) = (fun i => if 350 + 7 * a ≤ i ∧ i < m + 1 then T (i + 7) else T i) := by
        funext i
        rw [r1.2.1]
        show (if i = m then (if 350 + 7 * a ≤ m + 7 ∧ m + 7 < m then T (m + 7 + 7) else T (m + 7)) else if 350 + 7 * a ≤ i ∧ i < m then T (i + 7) else T i) = if 350 + 7 * a ≤ i ∧ i < m + 1 then T (i + 7) else T i
        by_cases c1 : i = m
        · rw [if_pos c1, if_neg (show ¬ (350 + 7 * a ≤ m + 7 ∧ m + 7 < m) by omega), if_pos (show 350 + 7 * a ≤ i ∧ i < m + 1 by omega), c1]
        · rw [if_neg c1]
          by_cases c2 : 350 + 7 * a ≤ i ∧ i < m
          · rw [if_pos c2, if_pos (show 350 + 7 * a ≤ i ∧ i < m + 1 by omega)]
          · rw [if_neg c2, if_neg (show ¬ (350 + 7 * a ≤ i ∧ i < m + 1) by omega)]
      rw [e] at this
      exact this
  refine v_X8_dropsAsk_0 ?_
  have e : (350 : Int32) + 7 * nI a = nI (350 + 7 * a) := by
    have := ix2 a (v := 0) 0 rfl
    rw [Int32.add_zero] at this
    exact this
  rw [e]
  refine key (511 - (350 + 7 * a)) (350 + 7 * a) x (by omega) (by omega) (EQx.rf x _) ?_
  have e2 : (fun i => if 350 + 7 * a ≤ i ∧ i < 350 + 7 * a then T (i + 7) else T i) = T := by
    funext i
    rw [if_neg (by omega)]
  rw [e2]
  exact r
end
set_option maxHeartbeats 2000000 in
theorem v_X8_drop_0 {K : Sh} {x : Cn} {Q : Int32 → Cn → Prop} {b0 : Nat} {l1 : Int32} {b0_1 : Nat} {n_b0_1 : Nat} (k_b0 : kk K b0 = some (8, 0)) (g_b0_1 : gr x b0 1 = some b0_1) (k_b0_1 : kk K b0_1 = some (20, n_b0_1)) (K0 : vp_in 3 n_b0_1 ∧ (((0 ≤ l1 ∧ l1 ≤ gi x b0_1 3 - 1) → (mSV mX8_keeps [.ref b0] K x (fun y_3 => mSV mX8_dropsAsk [.ref b0, .int l1] K y_3 (fun y_4 => gr y_4 b0 1 = some b0_1 ∧ (Q (gi y_4 b0_1 3) y_4))))) ∧ (¬ (0 ≤ l1 ∧ l1 ≤ gi x b0_1 3 - 1) → (Q (-2) x)))) : mSI mX8_drop [.ref b0, .int l1] K x Q := by
  refine s_I (by decide) (by simp [Value.category]) (Nat.le_of_ble_eq_true rfl) ?_
  show mGM mX8_drop 0 [some (.ref b0), some (.int l1)] [] (hp K x) (PI K Q)
  refine r_aload_n (pc := 0) dX8_drop_0 rfl ?_
  refine r_iload_n (pc := 1) dX8_drop_1 rfl ?_
  obtain ⟨i_1, K0⟩ := K0
  refine s_VI (pc := 2) mX8_isAsk (ci := 8) (a := b0) (As := [.int l1]) dX8_drop_2 lk_X8_281 in_X8_isAsk mo_X8_isAsk ⟨by decide, rfl⟩ ⟨by decide, by decide⟩ (Nat.le_of_ble_eq_true rfl) k_b0 (sp_X8_isAsk k_b0 g_b0_1 k_b0_1 i_1 ?_)
  refine r_if_ne (pc := 5) (tgt := 11) dX8_drop_5 (by decide) (fun q => ?_) (fun q => ?_)
  · have q := b2i_nz q
    have K0 := K0.1 q
    refine r_aload_n (pc := 11) dX8_drop_11 rfl ?_
    refine s_VV (pc := 12) mX8_keeps (ci := 8) (a := b0) (As := []) dX8_drop_12 lk_X8_366 in_X8_keeps mo_X8_keeps ⟨by decide, rfl⟩ ⟨by decide, by decide⟩ (Nat.le_of_ble_eq_true rfl) k_b0 (mSV_mono K0 (fun y_3 K0 => ?_))
    refine r_aload_n (pc := 15) dX8_drop_15 rfl ?_
    refine r_iload_n (pc := 16) dX8_drop_16 rfl ?_
    refine s_VV (pc := 17) mX8_dropsAsk (ci := 8) (a := b0) (As := [.int l1]) dX8_drop_17 lk_X8_376 in_X8_dropsAsk mo_X8_dropsAsk ⟨by decide, rfl⟩ ⟨by decide, by decide⟩ (Nat.le_of_ble_eq_true rfl) k_b0 (mSV_mono K0 (fun y_4 K0 => ?_))
    refine r_aload_n (pc := 20) dX8_drop_20 rfl ?_
    obtain ⟨g_5, K0⟩ := K0
    refine s_getR (pc := 21) dX8_drop_21 fl_X8_9 rfl k_b0 g_5 ?_
    refine r_iconst (pc := 24) (v := 3) dX8_drop_24 (by decide) ?_
    refine s_iald (pc := 25) dX8_drop_25 k_b0_1 i_1 ?_
    exact s_iret rfl dX8_drop_26 K0
  · have q := (b2i_z _).mp q
    have K0 := K0.2 q
    refine r_bipush (pc := 8) (v := (-2)) dX8_drop_8 (by decide) ?_
    exact s_iret rfl dX8_drop_10 K0
section
theorem sq_X8_drop {y : Cn} {Q : Int32 → Cn → Prop} {T : TT} {W C S A N n : Nat} {H : Nat → TT} {a : Int32} (r : RS y T n H) (F : WF T W C S A N) (k1 : ¬ (0 ≤ a ∧ a < nI A) → Q (-2) y) (k2 : ∀ b, a = nI b → b < A → ∀ z, RFr y z → RS z (drT T b A) (pn n) (push H n T) → Q (nI (A - 1)) z) : mSI mX8_drop [.ref 717, .int a] KW y Q := by
  have hA : A ≤ 24 := F.2.2.2.2.2.2.2.2.1
  refine v_X8_drop_0 km r.1.1 km1 ⟨v0 (k := 3) (by decide) rfl rfl, ?_⟩
  rw [r.2.1, F.2.2.2.2.2.2.2.1, inN' (by omega)]
  refine ⟨fun z => ?_, fun z => k1 z⟩
  obtain ⟨b, hb, rfl⟩ := inN (by omega) z
  refine r.keeps (fun z f1 r1 => sp_X8_dropsAsk r1 F.2.2.2.2.2.2.2.1 hb hA (fun v f2 r2 => ⟨r2.1.1, ?_⟩))
  rw [r2.2.1, show drT T b A 3 = nI (A - 1) from if_pos rfl]
  exact k2 b rfl hb v (f1.tr f2.rfr) r2
end
set_option maxHeartbeats 2000000 in
theorem v_X5_openIn_0 {K : Sh} {x : Cn} {Q : Cn → Prop} {b0 : Nat} {l1 : Int32}  (k_b0 : kk K b0 = some (5, 0)) (K0 : Q (ui (ui (ui (ui (ui x b0 7 l1) b0 8 0) b0 9 0) b0 10 0) b0 11 0)) : mSV mX5_openIn [.ref b0, .int l1] K x Q := by
  refine s_V (by decide) (by simp [Value.category]) (Nat.le_of_ble_eq_true rfl) ?_
  show mGM mX5_openIn 0 [some (.ref b0), some (.int l1)] [] (hp K x) (PV K Q)
  refine r_aload_n (pc := 0) dX5_openIn_0 rfl ?_
  refine r_iload_n (pc := 1) dX5_openIn_1 rfl ?_
  refine s_putI (pc := 2) dX5_openIn_2 fl_X5_34 rfl rfl k_b0 ?_
  refine r_aload_n (pc := 5) dX5_openIn_5 rfl ?_
  refine r_iconst (pc := 6) (v := 0) dX5_openIn_6 (by decide) ?_
  refine s_putI (pc := 7) dX5_openIn_7 fl_X5_37 rfl rfl k_b0 ?_
  refine r_aload_n (pc := 10) dX5_openIn_10 rfl ?_
  refine r_iconst (pc := 11) (v := 0) dX5_openIn_11 (by decide) ?_
  refine s_putI (pc := 12) dX5_openIn_12 fl_X5_40 rfl rfl k_b0 ?_
  refine r_aload_n (pc := 15) dX5_openIn_15 rfl ?_
  refine r_iconst (pc := 16) (v := 0) dX5_openIn_16 (by decide) ?_
  refine s_putI (pc := 17) dX5_openIn_17 fl_X5_43 rfl rfl k_b0 ?_
  refine r_aload_n (pc := 20) dX5_openIn_20 rfl ?_
  refine r_iconst (pc := 21) (v := 0) dX5_openIn_21 (by decide) ?_
  refine s_putI (pc := 22) dX5_openIn_22 fl_X5_46 rfl rfl k_b0 ?_
  exact s_ret rfl dX5_openIn_25 K0
section
theorem sp_X5_openIn_at {x : Cn} {Q : Cn → Prop} {p : Nat} {v : Int32} (h1 : kk KW p = some (5, 0)) (k : ∀ y, EQx x y p → (∀ j, j < 7 → gi y p j = gi x p j) → gi y p 7 = v → (∀ j, 8 ≤ j → j < 12 → gi y p j = 0) → Q y) : mSV mX5_openIn [.ref p, .int v] KW x Q := by
  refine v_X5_openIn_0 h1 (k _ ((((((EQx.rf x p).ui).ui).ui).ui).ui) (fun j hj => ?_) ?_ (fun j h8 h12 => ?_))
  · simp only [gi_ui]
    rw [if_neg (by omega), if_neg (by omega), if_neg (by omega), if_neg (by omega), if_neg (by omega)]
  · simp [gi_ui]
  · have : j = 8 ∨ j = 9 ∨ j = 10 ∨ j = 11 := by omega
    rcases this with rfl | rfl | rfl | rfl <;> simp [gi_ui]
/-- a series stays, in row m -/
def stf (T : TT) (s k : Nat) : Int32 := if k = 4 then 0 else if k = 7 then bas T s else if 8 ≤ k then 0 else so T s k
def stT (T : TT) (s m : Nat) : TT := fun i => if 62 + 12 * m ≤ i ∧ i < 74 + 12 * m then stf T s (i - (62 + 12 * m)) else T i
theorem so_stT {T : TT} {s m k : Nat} (hk : k < 12) : so (stT T s m) m k = stf T s k := by
  unfold so stT
  rw [if_pos (by omega)]
  congr 1
  omega
theorem so_stT' {T : TT} {s m j k : Nat} (hk : k < 12) (h : j ≠ m) : so (stT T s m) j k = so T j k := by
  unfold so stT
  rw [if_neg (by omega)]
theorem stT_off {T : TT} {s m i : Nat} (hm : m < 24) (h : i < 62 ∨ 350 ≤ i) : stT T s m i = T i := by
  unfold stT
  rw [if_neg (by omega)]
theorem bas_stT {T : TT} {s m : Nat} : bas (stT T s m) m = bas T s := by
  unfold bas
  rw [so_stT (by decide), so_stT (by decide), so_stT (by decide), so_stT (by decide)]
  show ((bas T s ||| 0) ||| 0) ||| 0 = _
  simp [bas]
theorem Wse.sta {T : TT} {C W s m : Nat} (w : Wse T C W s) : Wse (stT T s m) C W m := by
  obtain ⟨a1, a2, a3, a4, a5, a6, a7, a8⟩ := id w
  have e : ∀ k, k < 12 → so (stT T s m) m k = stf T s k := fun k hk => so_stT hk
  have z : ∀ k, k < 5 → k ≠ 0 → so (stT T s m) m (7 + k) = 0 := fun k hk h0 => by
    rw [e _ (by omega)]
    unfold stf
    rw [if_neg (by omega), if_neg (by omega), if_pos (by omega)]
  refine ⟨?_, ?_, ?_, ?_, ?_, ?_, ?_, ?_⟩
  · rw [e 0 (by decide)]; exact a1
  · rw [e 1 (by decide)]; exact a2
  · rw [e 2 (by decide)]; exact a3
  · rw [e 3 (by decide)]; exact a4
  · rw [e 4 (by decide)]; exact Or.inl rfl
  · rw [e 5 (by decide), e 6 (by decide)]; exact a6
  · intro i hi k j hk hj h1 h2
    by_cases c1 : k = 0
    · by_cases c2 : j = 0
      · omega
      · rw [z j hj c2, tb_0] at h2; cases h2
    · rw [z k hk c1, tb_0] at h1; cases h1
  · intro i k hk h1
    by_cases c1 : k = 0
    · subst c1
      rw [e (7 + 0) (by decide)] at h1
      exact bas_W w h1
    · rw [z k hk c1, tb_0] at h1; cases h1
end
set_option maxHeartbeats 2000000 in
theorem v_X8_stays_0 {K : Sh} {x : Cn} {Q : Cn → Prop} {b0 : Nat} {l1 : Int32} {l2 : Int32} {b0_3 : Nat} {n_b0_3 : Nat} (k_b0 : kk K b0 = some (8, 0)) (g_b0_3 : gr x b0 3 = some b0_3) (k_b0_3 : kk K b0_3 = some (20, n_b0_3)) (K0 : (l24 l1 n_b0_3) ∧ (GV mX8_stays 9 [some (.ref b0), some (.int l1), some (.int l2), some (.int (bas (gi x b0_3) (l1 : Int32).toNatClampNeg)), some (.int 0)] [] K x Q)) : mSV mX8_stays [.ref b0, .int l1, .int l2] K x Q := by
  refine s_V (by decide) (by simp [Value.category]) (Nat.le_of_ble_eq_true rfl) ?_
  show mGM mX8_stays 0 [some (.ref b0), some (.int l1), some (.int l2), none, none] [] (hp K x) (PV K Q)
  refine r_aload_n (pc := 0) dX8_stays_0 rfl ?_
  refine r_iload_n (pc := 1) dX8_stays_1 rfl ?_
  obtain ⟨p_1, K0⟩ := K0
  refine s_VI (pc := 2) mX8_basisOf (ci := 8) (a := b0) (As := [.int l1]) dX8_stays_2 lk_X8_71 in_X8_basisOf mo_X8_basisOf ⟨by decide, rfl⟩ ⟨by decide, by decide⟩ (Nat.le_of_ble_eq_true rfl) k_b0 (sr_X8_basisOf k_b0 g_b0_3 k_b0_3 p_1 ?_)
  refine r_istore_n (pc := 5) dX8_stays_5 (by decide) ?_
  refine r_iconst (pc := 6) (L := [some (.ref b0), some (.int l1), some (.int l2), some (.int (bas (gi x b0_3) (l1 : Int32).toNatClampNeg)), none]) (v := 0) dX8_stays_6 (by decide) ?_
  refine r_istore (pc := 7) dX8_stays_7 (by decide) ?_
  exact r_le (L' := [some (.ref b0), some (.int l1), some (.int l2), some (.int (bas (gi x b0_3) (l1 : Int32).toNatClampNeg)), some (.int 0)]) ⟨rfl, ⟨rfl, ⟨rfl, ⟨rfl, ⟨rfl, trivial⟩⟩⟩⟩⟩ K0
set_option maxHeartbeats 2000000 in
theorem v_X8_stays_9 {K : Sh} {x : Cn} {Q : Cn → Prop} {b0 : Nat} {l1 : Int32} {l2 : Int32} {l3 : Int32} {l4 : Int32} {b0_3 : Nat} {n_b0_3 : Nat} (k_b0 : kk K b0 = some (8, 0)) (g_b0_3 : gr x b0 3 = some b0_3) (k_b0_3 : kk K b0_3 = some (20, n_b0_3)) (K0 : (12 ≤ l4 → (GV mX8_stays 39 [some (.ref b0), some (.int l1), some (.int l2), some (.int l3), some (.int 0)] [] K x Q)) ∧ (¬ 12 ≤ l4 → ((l24 l1 n_b0_3) ∧ ((l12 l4) ∧ (mSV mX8_lays [.ref b0, .int l2, .int l4, .int (so (gi x b0_3) (l1 : Int32).toNatClampNeg (l4 : Int32).toNatClampNeg)] K x (fun y_4 => GV mX8_stays 9 [some (.ref b0), some (.int l1), some (.int l2), some (.int l3), some (.int (l4 + 1))] [] K y_4 Q)))))) : GV mX8_stays 9 [some (.ref b0), some (.int l1), some (.int l2), some (.int l3), some (.int l4)] [] K x Q := by
  show mGM mX8_stays 9 [some (.ref b0), some (.int l1), some (.int l2), some (.int l3), some (.int l4)] [] (hp K x) (PV K Q)
  refine r_iload (pc := 9) dX8_stays_9 rfl ?_
  refine r_bipush (pc := 11) (v := 12) dX8_stays_11 (by decide) ?_
  refine r_icmp_ge (pc := 13) (tgt := 36) dX8_stays_13 (by decide) (fun q => ?_) (fun q => ?_)
  · have K0 := K0.1 q
    refine r_iconst (pc := 36) (v := 0) dX8_stays_36 (by decide) ?_
    refine r_istore (pc := 37) dX8_stays_37 (by decide) ?_
    exact r_le (L' := [some (.ref b0), some (.int l1), some (.int l2), some (.int l3), some (.int 0)]) ⟨rfl, ⟨rfl, ⟨rfl, ⟨rfl, ⟨rfl, trivial⟩⟩⟩⟩⟩ K0
  · have K0 := K0.2 q
    refine r_aload_n (pc := 16) dX8_stays_16 rfl ?_
    refine r_iload_n (pc := 17) dX8_stays_17 rfl ?_
    refine r_iload (pc := 18) dX8_stays_18 rfl ?_
    refine r_aload_n (pc := 20) dX8_stays_20 rfl ?_
    refine r_iload_n (pc := 21) dX8_stays_21 rfl ?_
    refine r_iload (pc := 22) dX8_stays_22 rfl ?_
    obtain ⟨p_2, K0⟩ := K0
    obtain ⟨p_3, K0⟩ := K0
    refine s_VI (pc := 24) mX8_one (ci := 8) (a := b0) (As := [.int l1, .int l4]) dX8_stays_24 lk_X8_67 in_X8_one mo_X8_one ⟨by decide, rfl⟩ ⟨by decide, by decide⟩ (Nat.le_of_ble_eq_true rfl) k_b0 (sr_X8_one k_b0 g_b0_3 k_b0_3 p_2 p_3 ?_)
    refine s_VV (pc := 27) mX8_lays (ci := 8) (a := b0) (As := [.int l2, .int l4, .int (so (gi x b0_3) (l1 : Int32).toNatClampNeg (l4 : Int32).toNatClampNeg)]) dX8_stays_27 lk_X8_230 in_X8_lays mo_X8_lays ⟨by decide, rfl⟩ ⟨by decide, by decide⟩ (Nat.le_of_ble_eq_true rfl) k_b0 (mSV_mono K0 (fun y_4 K0 => ?_))
    refine r_iinc (pc := 30) (v := l4 + 1) dX8_stays_30 rfl rfl (by decide) ?_
    refine r_goto (pc := 33) (L := [some (.ref b0), some (.int l1), some (.int l2), some (.int l3), some (.int (l4 + 1))]) (tgt := 9) dX8_stays_33 (by decide) ?_
    exact r_le (L' := [some (.ref b0), some (.int l1), some (.int l2), some (.int l3), some (.int (l4 + 1))]) ⟨rfl, ⟨rfl, ⟨rfl, ⟨rfl, ⟨rfl, trivial⟩⟩⟩⟩⟩ K0
set_option maxHeartbeats 2000000 in
theorem v_X8_stays_39 {K : Sh} {x : Cn} {Q : Cn → Prop} {b0 : Nat} {l1 : Int32} {l2 : Int32} {l3 : Int32} {l4 : Int32}  (k_b0 : kk K b0 = some (8, 0)) (K0 : (5 ≤ l4 → (mSV mX8_lays [.ref b0, .int l2, .int 4, .int 0] K x (fun y_2 => Q y_2))) ∧ (¬ 5 ≤ l4 → ((¬ l4 = 0 → (mSV mX8_lays [.ref b0, .int l2, .int (7 + l4), .int 0] K x (fun y_4 => GV mX8_stays 39 [some (.ref b0), some (.int l1), some (.int l2), some (.int l3), some (.int (l4 + 1))] [] K y_4 Q))) ∧ (l4 = 0 → (mSV mX8_lays [.ref b0, .int l2, .int (7 + l4), .int l3] K x (fun y_5 => GV mX8_stays 39 [some (.ref b0), some (.int l1), some (.int l2), some (.int l3), some (.int (l4 + 1))] [] K y_5 Q)))))) : GV mX8_stays 39 [some (.ref b0), some (.int l1), some (.int l2), some (.int l3), some (.int l4)] [] K x Q := by
  show mGM mX8_stays 39 [some (.ref b0), some (.int l1), some (.int l2), some (.int l3), some (.int l4)] [] (hp K x) (PV K Q)
  refine r_iload (pc := 39) dX8_stays_39 rfl ?_
  refine r_iconst (pc := 41) (v := 5) dX8_stays_41 (by decide) ?_
  refine r_icmp_ge (pc := 42) (tgt := 71) dX8_stays_42 (by decide) (fun q => ?_) (fun q => ?_)
  · have K0 := K0.1 q
    refine r_aload_n (pc := 71) dX8_stays_71 rfl ?_
    refine r_iload_n (pc := 72) dX8_stays_72 rfl ?_
    refine r_iconst (pc := 73) (v := 4) dX8_stays_73 (by decide) ?_
    refine r_iconst (pc := 74) (v := 0) dX8_stays_74 (by decide) ?_
    refine s_VV (pc := 75) mX8_lays (ci := 8) (a := b0) (As := [.int l2, .int 4, .int 0]) dX8_stays_75 lk_X8_230 in_X8_lays mo_X8_lays ⟨by decide, rfl⟩ ⟨by decide, by decide⟩ (Nat.le_of_ble_eq_true rfl) k_b0 (mSV_mono K0 (fun y_2 K0 => ?_))
    exact s_ret rfl dX8_stays_78 K0
  · have K0 := K0.2 q
    refine r_aload_n (pc := 45) dX8_stays_45 rfl ?_
    refine r_iload_n (pc := 46) dX8_stays_46 rfl ?_
    refine r_bipush (pc := 47) (v := 7) dX8_stays_47 (by decide) ?_
    refine r_iload (pc := 49) dX8_stays_49 rfl ?_
    refine r_iadd (pc := 51) dX8_stays_51 ?_
    refine r_iload (pc := 52) dX8_stays_52 rfl ?_
    refine r_if_ne (pc := 54) (tgt := 61) dX8_stays_54 (by decide) (fun q => ?_) (fun q => ?_)
    · have K0 := K0.1 q
      refine r_iconst (pc := 61) (v := 0) dX8_stays_61 (by decide) ?_
      refine s_VV (pc := 62) mX8_lays (ci := 8) (a := b0) (As := [.int l2, .int (7 + l4), .int 0]) dX8_stays_62 lk_X8_230 in_X8_lays mo_X8_lays ⟨by decide, rfl⟩ ⟨by decide, by decide⟩ (Nat.le_of_ble_eq_true rfl) k_b0 (mSV_mono K0 (fun y_4 K0 => ?_))
      refine r_iinc (pc := 65) (v := l4 + 1) dX8_stays_65 rfl rfl (by decide) ?_
      refine r_goto (pc := 68) (L := [some (.ref b0), some (.int l1), some (.int l2), some (.int l3), some (.int (l4 + 1))]) (tgt := 39) dX8_stays_68 (by decide) ?_
      exact r_le (L' := [some (.ref b0), some (.int l1), some (.int l2), some (.int l3), some (.int (l4 + 1))]) ⟨rfl, ⟨rfl, ⟨rfl, ⟨rfl, ⟨rfl, trivial⟩⟩⟩⟩⟩ K0
    · have K0 := K0.2 q
      refine r_iload_n (pc := 57) dX8_stays_57 rfl ?_
      refine r_goto (pc := 58) (tgt := 62) dX8_stays_58 (by decide) ?_
      refine s_VV (pc := 62) mX8_lays (ci := 8) (a := b0) (As := [.int l2, .int (7 + l4), .int l3]) dX8_stays_62 lk_X8_230 in_X8_lays mo_X8_lays ⟨by decide, rfl⟩ ⟨by decide, by decide⟩ (Nat.le_of_ble_eq_true rfl) k_b0 (mSV_mono K0 (fun y_5 K0 => ?_))
      refine r_iinc (pc := 65) (v := l4 + 1) dX8_stays_65 rfl rfl (by decide) ?_
      refine r_goto (pc := 68) (L := [some (.ref b0), some (.int l1), some (.int l2), some (.int l3), some (.int (l4 + 1))]) (tgt := 39) dX8_stays_68 (by decide) ?_
      exact r_le (L' := [some (.ref b0), some (.int l1), some (.int l2), some (.int l3), some (.int (l4 + 1))]) ⟨rfl, ⟨rfl, ⟨rfl, ⟨rfl, ⟨rfl, trivial⟩⟩⟩⟩⟩ K0
section
theorem sp_X8_stays {x : Cn} {Q : Cn → Prop} {n s m : Nat} {T : TT} {H : Nat → TT} (r : RS x T n H) (hs : s < 24) (hm : m < 24) (q : ∀ y, RFr x y → RS y (stT T s m) n H → Q y) : mSV mX8_stays [.ref 717, .int (nI s), .int (nI m)] KW x Q := by
  let P1 : Nat → TT := fun k i => if 62 + 12 * m ≤ i ∧ i < 62 + 12 * m + k then so T s (i - (62 + 12 * m)) else T i
  let P2 : Nat → TT := fun k i => if 62 + 12 * m + 7 ≤ i ∧ i < 62 + 12 * m + 7 + k then (if i = 62 + 12 * m + 7 then bas T s else 0) else P1 12 i
  have key2 : ∀ c k y, k + c = 5 → RFr x y → RS y (P2 k) n H → GV mX8_stays 39 [some (.ref 717), some (.int (nI s)), some (.int (nI m)), some (.int (bas T s)), some (.int (nI k))] [] KW y Q := by
    intro c
    induction c with
    | zero =>
      intro k y hk f r1
      have : k = 5 := by omega
      subst this
      refine v_X8_stays_39 km ⟨fun _ => sp_X8_lays (k := 4) r1.1 km1 hm (by decide) (q _ f.u8 ?_), fun z => absurd (Int32.le_refl _) z⟩
      have := r1.u8 (k := 62 + 12 * m + 4) (v := 0)
      have e : uT (P2 5) (62 + 12 * m + 4) 0 = stT T s m := by
        funext i
        show (if i = 62 + 12 * m + 4 then 0 else if 62 + 12 * m + 7 ≤ i ∧ i < 62 + 12 * m + 7 + 5 then (if i = 62 + 12 * m + 7 then bas T s else 0) else if 62 + 12 * m ≤ i ∧ i < 62 + 12 * m + 12 then so T s (i - (62 + 12 * m)) else T i) = _
        unfold stT stf
        by_cases c1 : 62 + 12 * m ≤ i ∧ i < 74 + 12 * m
        · rw [if_pos c1]
          by_cases c2 : i = 62 + 12 * m + 4
          · rw [if_pos c2, if_pos (show i - (62 + 12 * m) = 4 by omega)]
          · rw [if_neg c2, if_neg (show ¬ i - (62 + 12 * m) = 4 by omega)]
            by_cases c3 : i = 62 + 12 * m + 7
            · rw [if_pos (show 62 + 12 * m + 7 ≤ i ∧ i < 62 + 12 * m + 7 + 5 by omega), if_pos c3, if_pos (show i - (62 + 12 * m) = 7 by omega)]
            · by_cases c4 : 62 + 12 * m + 7 ≤ i
              · rw [if_pos (show 62 + 12 * m + 7 ≤ i ∧ i < 62 + 12 * m + 7 + 5 by omega), if_neg c3, if_neg (show ¬ i - (62 + 12 * m) = 7 by omega), if_pos (show 8 ≤ i - (62 + 12 * m) by omega)]
              · rw [if_neg (show ¬ (62 + 12 * m + 7 ≤ i ∧ i < 62 + 12 * m + 7 + 5) by omega), if_pos (show 62 + 12 * m ≤ i ∧ i < 62 + 12 * m + 12 by omega), if_neg (show ¬ i - (62 + 12 * m) = 7 by omega), if_neg (show ¬ 8 ≤ i - (62 + 12 * m) by omega)]
        · rw [if_neg c1, if_neg (by omega), if_neg (by omega), if_neg (by omega)]
      rw [e] at this
      exact this
    | succ c ih =>
      intro k y hk f r1
      have e : ∀ v, v = (if k = 0 then bas T s else 0) → uT (P2 k) (62 + 12 * m + (7 + k)) v = P2 (k + 1) := by
        intro v hv
        funext i
        show (if i = 62 + 12 * m + (7 + k) then v else if 62 + 12 * m + 7 ≤ i ∧ i < 62 + 12 * m + 7 + k then (if i = 62 + 12 * m + 7 then bas T s else 0) else P1 12 i) = (if 62 + 12 * m + 7 ≤ i ∧ i < 62 + 12 * m + 7 + (k + 1) then (if i = 62 + 12 * m + 7 then bas T s else 0) else P1 12 i)
        by_cases c1 : i = 62 + 12 * m + (7 + k)
        · rw [if_pos c1, if_pos (by omega), hv]
          by_cases c2 : k = 0
          · rw [if_pos c2, if_pos (by omega)]
          · rw [if_neg c2, if_neg (by omega)]
        · rw [if_neg c1]
          by_cases c2 : 62 + 12 * m + 7 ≤ i ∧ i < 62 + 12 * m + 7 + k
          · rw [if_pos c2, if_pos (show 62 + 12 * m + 7 ≤ i ∧ i < 62 + 12 * m + 7 + (k + 1) by omega)]
          · rw [if_neg c2, if_neg (show ¬ (62 + 12 * m + 7 ≤ i ∧ i < 62 + 12 * m + 7 + (k + 1)) by omega)]
      refine v_X8_stays_39 km ⟨fun z => absurd z (nI_ge (b := 5) (by omega) (by decide)), fun _ => ?_⟩
      rw [show (7 : Int32) + nI k = nI (7 + k) from nI_add 7 k, nI_1, nI_z (by omega)]
      refine ⟨fun c0 => sp_X8_lays (k := 7 + k) r1.1 km1 hm (by omega) (ih (k + 1) _ (by omega) f.u8 ?_), fun c0 => sp_X8_lays (k := 7 + k) r1.1 km1 hm (by omega) (ih (k + 1) _ (by omega) f.u8 ?_)⟩
      · have := r1.u8 (k := 62 + 12 * m + (7 + k)) (v := 0)
        rw [e _ (by rw [if_neg c0])] at this
        exact this
      · have := r1.u8 (k := 62 + 12 * m + (7 + k)) (v := bas T s)
        rw [e _ (by rw [if_pos c0])] at this
        exact this
  have key1 : ∀ c k y, k + c = 12 → RFr x y → RS y (P1 k) n H → GV mX8_stays 9 [some (.ref 717), some (.int (nI s)), some (.int (nI m)), some (.int (bas T s)), some (.int (nI k))] [] KW y Q := by
    intro c
    induction c with
    | zero =>
      intro k y hk f r1
      have : k = 12 := by omega
      subst this
      refine v_X8_stays_9 km r1.1.2.2.1 km1 ⟨fun _ => key2 5 0 y (by omega) f ?_, fun z => absurd (Int32.le_refl _) z⟩
      have e : P2 0 = P1 12 := by
        funext i
        show (if 62 + 12 * m + 7 ≤ i ∧ i < 62 + 12 * m + 7 + 0 then (if i = 62 + 12 * m + 7 then bas T s else 0) else P1 12 i) = _
        rw [if_neg (by omega)]
      rw [e]
      exact r1
    | succ c ih =>
      intro k y hk f r1
      refine v_X8_stays_9 km r1.1.2.2.1 km1 ⟨fun z => absurd z (nI_ge (b := 12) (by omega) (by decide)), fun _ => ⟨l24_nI hs rfl, ⟨nI_pos' (by omega), nI_lt (b := 12) (by omega) (by decide)⟩, ?_⟩⟩
      rw [nI_1, nI_clamp (show k < 2 ^ 31 by omega), nI_clamp (show s < 2 ^ 31 by omega)]
      refine sp_X8_lays (k := k) r1.1 km1 hm (by omega) (ih (k + 1) _ (by omega) f.u8 ?_)
      have := r1.u8 (k := 62 + 12 * m + k) (v := so (gi y 718) s k)
      have e : uT (P1 k) (62 + 12 * m + k) (so (gi y 718) s k) = P1 (k + 1) := by
        funext i
        have e0 : so (gi y 718) s k = so T s k := by
          rw [r1.2.1]
          show (if 62 + 12 * m ≤ 62 + 12 * s + k ∧ 62 + 12 * s + k < 62 + 12 * m + k then _ else T (62 + 12 * s + k)) = _
          by_cases c1 : 62 + 12 * m ≤ 62 + 12 * s + k ∧ 62 + 12 * s + k < 62 + 12 * m + k
          · omega
          · rw [if_neg c1]; rfl
        rw [e0]
        show (if i = 62 + 12 * m + k then so T s k else if 62 + 12 * m ≤ i ∧ i < 62 + 12 * m + k then so T s (i - (62 + 12 * m)) else T i) = (if 62 + 12 * m ≤ i ∧ i < 62 + 12 * m + (k + 1) then so T s (i - (62 + 12 * m)) else T i)
        by_cases c1 : i = 62 + 12 * m + k
        · rw [if_pos c1, if_pos (by omega), c1]
          congr 1
          omega
        · rw [if_neg c1]
          by_cases c2 : 62 + 12 * m ≤ i ∧ i < 62 + 12 * m + k
          · rw [if_pos c2, if_pos (by omega)]
          · rw [if_neg c2, if_neg (by omega)]
      rw [e] at this
      exact this
  refine v_X8_stays_0 km r.1.2.2.1 km1 ⟨l24_nI hs rfl, ?_⟩
  rw [r.2.1, nI_clamp (show s < 2 ^ 31 by omega)]
  refine key1 12 0 x (by omega) (RFr.rf x) ?_
  have e : P1 0 = T := by
    funext i
    show (if 62 + 12 * m ≤ i ∧ i < 62 + 12 * m + 0 then so T s (i - (62 + 12 * m)) else T i) = _
    rw [if_neg (by omega)]
  rw [e]
  exact r
def enS : Nat → TT × Nat → TT × Nat := fun s t => if kw t.1 s 0 then (stT t.1 s t.2, t.2 + 1) else t
theorem enS_t {s : Nat} {t : TT × Nat} (c : kw t.1 s 0) : enS s t = (stT t.1 s t.2, t.2 + 1) := if_pos c
theorem enS_f {s : Nat} {t : TT × Nat} (c : ¬ kw t.1 s 0) : enS s t = t := if_neg c
def enF (T : TT) (S : Nat) : TT := uT (uT (uT (uT (accT enS S (T, 0)).1 2 (nI (accT enS S (T, 0)).2)) 3 0) 4 0) 5 ((accT enS S (T, 0)).1 5 + 1)
theorem en_bd {T : TT} : ∀ s, s ≤ 24 → (accT enS s (T, 0)).2 ≤ s ∧ ∀ i, i < 62 ∨ 350 ≤ i → (accT enS s (T, 0)).1 i = T i := by
  intro s
  induction s with
  | zero => intro _; exact ⟨Nat.le_refl _, fun i _ => rfl⟩
  | succ s ih =>
    intro hs
    obtain ⟨i1, i2⟩ := ih (by omega)
    simp only [accT]
    generalize accT enS s (T, 0) = t at i1 i2 ⊢
    by_cases c : kw t.1 s 0
    · rw [enS_t c]
      exact ⟨Nat.succ_le_succ i1, fun i hi => (stT_off (by omega) hi).trans (i2 i hi)⟩
    · rw [enS_f c]
      exact ⟨by omega, i2⟩
end
set_option maxHeartbeats 2000000 in
theorem v_X8_ends_0 {K : Sh} {x : Cn} {Q : Int32 → Cn → Prop} {b0 : Nat} {b0_1 : Nat} {n_b0_1 : Nat} (k_b0 : kk K b0 = some (8, 0)) (g_b0_1 : gr x b0 1 = some b0_1) (k_b0_1 : kk K b0_1 = some (20, n_b0_1)) (K0 : vp_in 0 n_b0_1 ∧ (((0 < gi x b0_1 0) → (vp_in 4 n_b0_1 ∧ (((gi x b0_1 0) ≤ (gi x b0_1 4) → (mSV mX8_keeps [.ref b0] K x (fun y_5 => GI mX8_ends 36 [some (.ref b0), some (.int 0), some (.int 0)] [] K y_5 Q))) ∧ (¬ (gi x b0_1 0) ≤ (gi x b0_1 4) → (Q (-6) x))))) ∧ (¬ (0 < gi x b0_1 0) → (Q (-2) x)))) : mSI mX8_ends [.ref b0] K x Q := by
  refine s_I (by decide) (by simp [Value.category]) (Nat.le_of_ble_eq_true rfl) ?_
  show mGM mX8_ends 0 [some (.ref b0), none, none] [] (hp K x) (PI K Q)
  refine r_aload_n (pc := 0) dX8_ends_0 rfl ?_
  obtain ⟨i_1, K0⟩ := K0
  refine s_VI (pc := 1) mX8_isThere (ci := 8) (a := b0) (As := []) dX8_ends_1 lk_X8_49 in_X8_isThere mo_X8_isThere ⟨by decide, rfl⟩ ⟨by decide, by decide⟩ (Nat.le_of_ble_eq_true rfl) k_b0 (sp_X8_isThere k_b0 g_b0_1 k_b0_1 i_1 ?_)
  refine r_if_ne (pc := 4) (tgt := 10) dX8_ends_4 (by decide) (fun q => ?_) (fun q => ?_)
  · have q := b2i_nz q
    have K0 := K0.1 q
    refine r_aload_n (pc := 10) dX8_ends_10 rfl ?_
    refine s_getR (pc := 11) dX8_ends_11 fl_X8_9 rfl k_b0 g_b0_1 ?_
    refine r_iconst (pc := 14) (v := 4) dX8_ends_14 (by decide) ?_
    obtain ⟨i_3, K0⟩ := K0
    refine s_iald (pc := 15) dX8_ends_15 k_b0_1 i_3 ?_
    refine r_aload_n (pc := 16) dX8_ends_16 rfl ?_
    refine s_getR (pc := 17) dX8_ends_17 fl_X8_9 rfl k_b0 g_b0_1 ?_
    refine r_iconst (pc := 20) (v := 0) dX8_ends_20 (by decide) ?_
    refine s_iald (pc := 21) dX8_ends_21 k_b0_1 i_1 ?_
    refine r_icmp_ge (pc := 22) (tgt := 28) dX8_ends_22 (by decide) (fun q => ?_) (fun q => ?_)
    · have K0 := K0.1 q
      refine r_aload_n (pc := 28) dX8_ends_28 rfl ?_
      refine s_VV (pc := 29) mX8_keeps (ci := 8) (a := b0) (As := []) dX8_ends_29 lk_X8_366 in_X8_keeps mo_X8_keeps ⟨by decide, rfl⟩ ⟨by decide, by decide⟩ (Nat.le_of_ble_eq_true rfl) k_b0 (mSV_mono K0 (fun y_5 K0 => ?_))
      refine r_iconst (pc := 32) (v := 0) dX8_ends_32 (by decide) ?_
      refine r_istore_n (pc := 33) dX8_ends_33 (by decide) ?_
      refine r_iconst (pc := 34) (L := [some (.ref b0), some (.int 0), none]) (v := 0) dX8_ends_34 (by decide) ?_
      refine r_istore_n (pc := 35) dX8_ends_35 (by decide) ?_
      exact r_le (L' := [some (.ref b0), some (.int 0), some (.int 0)]) ⟨rfl, ⟨rfl, ⟨rfl, trivial⟩⟩⟩ K0
    · have K0 := K0.2 q
      refine r_bipush (pc := 25) (v := (-6)) dX8_ends_25 (by decide) ?_
      exact s_iret rfl dX8_ends_27 K0
  · have q := (b2i_z _).mp q
    have K0 := K0.2 q
    refine r_bipush (pc := 7) (v := (-2)) dX8_ends_7 (by decide) ?_
    exact s_iret rfl dX8_ends_9 K0
set_option maxHeartbeats 2000000 in
theorem v_X8_ends_36 {K : Sh} {x : Cn} {Q : Int32 → Cn → Prop} {b0 : Nat} {l1 : Int32} {l2 : Int32} {b0_1 : Nat} {n_b0_1 : Nat} (k_b0 : kk K b0 = some (8, 0)) (g_b0_1 : gr x b0 1 = some b0_1) (k_b0_1 : kk K b0_1 = some (20, n_b0_1)) (K0 : vp_in 2 n_b0_1 ∧ (((gi x b0_1 2) ≤ l2 → (vp_in 3 n_b0_1 ∧ (vp_in 4 n_b0_1 ∧ (vp_in 5 n_b0_1 ∧ (Q l1 (ui (ui (ui (ui x b0_1 2 l1) b0_1 3 0) b0_1 4 0) b0_1 5 ((gi (ui (ui (ui x b0_1 2 l1) b0_1 3 0) b0_1 4 0) b0_1 5) + 1))))))) ∧ (¬ (gi x b0_1 2) ≤ l2 → (mSI mX8_isKept [.ref b0, .int l2, .int 0] K x (fun r_7 y_6 => (¬ r_7 = 0 → (mSV mX8_stays [.ref b0, .int l2, .int l1] K y_6 (fun y_9 => GI mX8_ends 36 [some (.ref b0), some (.int (l1 + 1)), some (.int (l2 + 1))] [] K y_9 Q))) ∧ (r_7 = 0 → (GI mX8_ends 36 [some (.ref b0), some (.int l1), some (.int (l2 + 1))] [] K y_6 Q))))))) : GI mX8_ends 36 [some (.ref b0), some (.int l1), some (.int l2)] [] K x Q := by
  show mGM mX8_ends 36 [some (.ref b0), some (.int l1), some (.int l2)] [] (hp K x) (PI K Q)
  refine r_iload_n (pc := 36) dX8_ends_36 rfl ?_
  refine r_aload_n (pc := 37) dX8_ends_37 rfl ?_
  refine s_getR (pc := 38) dX8_ends_38 fl_X8_9 rfl k_b0 g_b0_1 ?_
  refine r_iconst (pc := 41) (v := 2) dX8_ends_41 (by decide) ?_
  obtain ⟨i_1, K0⟩ := K0
  refine s_iald (pc := 42) dX8_ends_42 k_b0_1 i_1 ?_
  refine r_icmp_ge (pc := 43) (tgt := 73) dX8_ends_43 (by decide) (fun q => ?_) (fun q => ?_)
  · have K0 := K0.1 q
    refine r_aload_n (pc := 73) dX8_ends_73 rfl ?_
    refine s_getR (pc := 74) dX8_ends_74 fl_X8_9 rfl k_b0 g_b0_1 ?_
    refine r_iconst (pc := 77) (v := 2) dX8_ends_77 (by decide) ?_
    refine r_iload_n (pc := 78) dX8_ends_78 rfl ?_
    refine s_iast (pc := 79) dX8_ends_79 k_b0_1 i_1 ?_
    refine r_aload_n (pc := 80) dX8_ends_80 rfl ?_
    refine s_getR (pc := 81) dX8_ends_81 fl_X8_9 rfl k_b0 g_b0_1 ?_
    refine r_iconst (pc := 84) (v := 3) dX8_ends_84 (by decide) ?_
    refine r_iconst (pc := 85) (v := 0) dX8_ends_85 (by decide) ?_
    obtain ⟨i_3, K0⟩ := K0
    refine s_iast (pc := 86) dX8_ends_86 k_b0_1 i_3 ?_
    refine r_aload_n (pc := 87) dX8_ends_87 rfl ?_
    refine s_getR (pc := 88) dX8_ends_88 fl_X8_9 rfl k_b0 g_b0_1 ?_
    refine r_iconst (pc := 91) (v := 4) dX8_ends_91 (by decide) ?_
    refine r_iconst (pc := 92) (v := 0) dX8_ends_92 (by decide) ?_
    obtain ⟨i_4, K0⟩ := K0
    refine s_iast (pc := 93) dX8_ends_93 k_b0_1 i_4 ?_
    refine r_aload_n (pc := 94) dX8_ends_94 rfl ?_
    refine s_getR (pc := 95) dX8_ends_95 fl_X8_9 rfl k_b0 g_b0_1 ?_
    refine r_iconst (pc := 98) (v := 5) dX8_ends_98 (by decide) ?_
    refine r_dup2 (pc := 99) dX8_ends_99 rfl rfl ?_
    obtain ⟨i_5, K0⟩ := K0
    refine s_iald (pc := 100) dX8_ends_100 k_b0_1 i_5 ?_
    refine r_iconst (pc := 101) (v := 1) dX8_ends_101 (by decide) ?_
    refine r_iadd (pc := 102) dX8_ends_102 ?_
    refine s_iast (pc := 103) dX8_ends_103 k_b0_1 i_5 ?_
    refine r_iload_n (pc := 104) dX8_ends_104 rfl ?_
    exact s_iret rfl dX8_ends_105 K0
  · have K0 := K0.2 q
    refine r_aload_n (pc := 46) dX8_ends_46 rfl ?_
    refine r_iload_n (pc := 47) dX8_ends_47 rfl ?_
    refine r_iconst (pc := 48) (v := 0) dX8_ends_48 (by decide) ?_
    refine s_VI (pc := 49) mX8_isKept (ci := 8) (a := b0) (As := [.int l2, .int 0]) dX8_ends_49 lk_X8_302 in_X8_isKept mo_X8_isKept ⟨by decide, rfl⟩ ⟨by decide, by decide⟩ (Nat.le_of_ble_eq_true rfl) k_b0 (mSI_mono K0 (fun r_7 y_6 K0 => ?_))
    refine r_if_ne (pc := 52) (tgt := 58) dX8_ends_52 (by decide) (fun q => ?_) (fun q => ?_)
    · have K0 := K0.1 q
      refine r_aload_n (pc := 58) dX8_ends_58 rfl ?_
      refine r_iload_n (pc := 59) dX8_ends_59 rfl ?_
      refine r_iload_n (pc := 60) dX8_ends_60 rfl ?_
      refine s_VV (pc := 61) mX8_stays (ci := 8) (a := b0) (As := [.int l2, .int l1]) dX8_ends_61 lk_X8_395 in_X8_stays mo_X8_stays ⟨by decide, rfl⟩ ⟨by decide, by decide⟩ (Nat.le_of_ble_eq_true rfl) k_b0 (mSV_mono K0 (fun y_9 K0 => ?_))
      refine r_iinc (pc := 64) (v := l1 + 1) dX8_ends_64 rfl rfl (by decide) ?_
      refine r_iinc (pc := 67) (L := [some (.ref b0), some (.int (l1 + 1)), some (.int l2)]) (v := l2 + 1) dX8_ends_67 rfl rfl (by decide) ?_
      refine r_goto (pc := 70) (L := [some (.ref b0), some (.int (l1 + 1)), some (.int (l2 + 1))]) (tgt := 36) dX8_ends_70 (by decide) ?_
      exact r_le (L' := [some (.ref b0), some (.int (l1 + 1)), some (.int (l2 + 1))]) ⟨rfl, ⟨rfl, ⟨rfl, trivial⟩⟩⟩ K0
    · have K0 := K0.2 q
      refine r_goto (pc := 55) (tgt := 67) dX8_ends_55 (by decide) ?_
      refine r_iinc (pc := 67) (v := l2 + 1) dX8_ends_67 rfl rfl (by decide) ?_
      refine r_goto (pc := 70) (L := [some (.ref b0), some (.int l1), some (.int (l2 + 1))]) (tgt := 36) dX8_ends_70 (by decide) ?_
      exact r_le (L' := [some (.ref b0), some (.int l1), some (.int (l2 + 1))]) ⟨rfl, ⟨rfl, ⟨rfl, trivial⟩⟩⟩ K0
section
theorem sq_X8_ends {y : Cn} {Q : Int32 → Cn → Prop} {T : TT} {W C S A N n : Nat} {H : Nat → TT} (r : RS y T n H) (F : WF T W C S A N) (k1 : ¬ 0 < nI W → Q (-2) y) (k2 : 0 < nI W → ¬ W ≤ N → Q (-6) y) (k3 : 0 < nI W → W ≤ N → ∀ z, RFr y z → RS z (enF T S) (pn n) (push H n T) → Q (nI (accT enS S (T, 0)).2) z) : mSI mX8_ends [.ref 717] KW y Q := by
  have hS : S ≤ 24 := F.2.2.2.2.2.2.1
  have hW : W ≤ 30 := F.2.2.1
  have hN : N ≤ W := F.2.2.2.2.2.2.2.2.2.2.1
  refine v_X8_ends_0 km r.1.1 km1 ⟨v0 (k := 0) (by decide) rfl rfl, ?_⟩
  rw [r.2.1, F.1, F.2.2.2.2.2.2.2.2.2.1, nI_leI (by omega) (by omega)]
  refine ⟨fun z1 => ⟨v0 (k := 4) (by decide) rfl rfl, fun z2 => r.keeps (fun z f1 r1 => ?_), fun z2 => k2 z1 z2⟩, fun z => k1 z⟩
  have k3 := k3 z1 z2
  refine lp_acc enS (fun s t => t.2 ≤ s → t.1 2 = nI S → ∀ v, RFr y v → RS v t.1 (pn n) (push H n T) → GI mX8_ends 36 [some (.ref 717), some (.int (nI t.2)), some (.int (nI s))] [] KW v Q) S (T, 0) ?_ (fun s t hs n1 => ?_) (Nat.le_refl _) F.2.2.2.2.2.1 z f1 r1
  · intro t0 t2 v f r2
    refine v_X8_ends_36 km r2.1.1 km1 ⟨v0 (k := 2) (by decide) rfl rfl, fun _ => ⟨v0 (k := 3) (by decide) rfl rfl, v0 (k := 4) (by decide) rfl rfl, v0 (k := 5) (by decide) rfl rfl, ?_⟩, fun z => absurd (by rw [r2.2.1, t2]; exact Int32.le_refl _) z⟩
    have e5 : gi (ui (ui (ui v 718 2 (nI (accT enS S (T, 0)).2)) 718 3 0) 718 4 0) 718 5 = (accT enS S (T, 0)).1 5 := by
      simp [gi_ui, r2.2.1]
    rw [e5]
    exact k3 _ f.u8.u8.u8.u8 r2.u8.u8.u8.u8
  · intro t0 t2 v f r2
    refine v_X8_ends_36 km r2.1.1 km1 ⟨v0 (k := 2) (by decide) rfl rfl, fun z => absurd (by rw [r2.2.1, t2] at z; exact z) (nI_ge hs (by omega)), fun _ => sp_X8_isKept r2.1 km1 (by omega) ?_⟩
    rw [nI_1, nI_1, r2.2.1]
    refine ⟨fun z => ?_, fun z => ?_⟩
    · have c := b2i_nz z
      refine sp_X8_stays r2 (by omega) (by omega) (fun w f2 r3 => n1 (stT t.1 s t.2, t.2 + 1) ?_ ?_ ?_ w (f.tr f2) r3)
      · exact enS_t c
      · show t.2 + 1 ≤ s + 1; omega
      · show stT t.1 s t.2 2 = _
        rw [stT_off (by omega) (by omega)]; exact t2
    · have c : ¬ kw t.1 s 0 := (b2i_z _).mp z
      exact n1 t (enS_f c) (by omega) t2 v f r2
def sw (s m j : Nat) : Nat := if j = m then s else if j = s then m else j
theorem sw_lt {s m j : Nat} (hs : s < 24) (hm : m < 24) (hj : j < 24) : sw s m j < 24 := by
  unfold sw
  split
  · exact hs
  · split <;> omega
theorem sw_inj {s m j i : Nat} (h : sw s m j = sw s m i) : j = i := by
  unfold sw at h
  split at h <;> split at h <;> (try split at h) <;> (try split at h) <;> omega
/-- while the season begins anew: rows below m and from s on are shown -/
def ANW (x y : Cn) (q : Nat) (T : TT) (C W S s m : Nat) : Prop := SRf y q ∧ (∀ b k, ¬ (q + 6 ≤ b ∧ b < q + 30) → gi y b k = gi x b k) ∧ (∀ b k, b ≠ q + 3 → gr y b k = gr x b k) ∧ ∀ j p, (j < m ∨ (s ≤ j ∧ j < S)) → gr y (q + 3) j = some p → SER y p T j ∧ Wse T C W j
theorem ANW.st {x y : Cn} {q : Nat} {T : TT} {C W S s m p p' : Nat} (a : ANW x y q T C W S s m) (hs : s < S) (hS : S ≤ 24) (hm : m ≤ s) (hp : gr y (q + 3) s = some p) (hp' : gr y (q + 3) m = some p') {z : Cn} (h1 : ∀ b k, b ≠ p → gi z b k = gi y b k) (h2 : ∀ b k, b ≠ q + 3 → gr z b k = gr y b k) (h3 : ∀ j, gr z (q + 3) j = if j = m then some p else if j = s then some p' else gr y (q + 3) j) (g1 : ∀ j, j < 7 → gi z p j = if j = 4 then 0 else gi y p j) (g2 : gi z p 7 = bas T s) (g3 : ∀ j, 8 ≤ j → j < 12 → gi z p j = 0) : ANW x z q (stT T s m) C W S (s + 1) (m + 1) := by
  obtain ⟨e2, a2, a3, a4⟩ := a
  obtain ⟨r1, r2, r3, r4, r5, r6, r7, r8, r9⟩ := id e2
  have hz : ∀ j, gr z (q + 3) j = gr y (q + 3) (sw s m j) := fun j => by
    rw [h3]
    unfold sw
    by_cases c1 : j = m
    · rw [if_pos c1, if_pos c1, hp]
    · rw [if_neg c1, if_neg c1]
      by_cases c2 : j = s
      · rw [if_pos c2, if_pos c2, hp']
      · rw [if_neg c2, if_neg c2]
  obtain ⟨i0, hi0, ei0⟩ := r6 s (by omega)
  have ep : p = q + 6 + i0 := Option.some.inj (hp.symm.trans ei0)
  refine ⟨⟨?_, ?_, ?_, ?_, ?_, ?_, ?_, ?_, ?_⟩, fun b k hb => (h1 b k (by omega)).trans (a2 b k hb), fun b k hb => (h2 b k hb).trans (a3 b k hb), fun j p2 hj hp2 => ?_⟩
  · rw [h2 q 5 (by omega)]; exact r1
  · rw [h2 q 6 (by omega)]; exact r2
  · rw [h2 q 7 (by omega)]; exact r3
  · rw [h2 q 8 (by omega)]; exact r4
  · rw [h2 q 9 (by omega)]; exact r5
  · intro j hj; rw [hz j]; exact r6 _ (sw_lt (by omega) (by omega) hj)
  · intro j i hj hi; rw [hz j, hz i]; exact fun g => sw_inj (r7 _ _ (sw_lt (by omega) (by omega) hj) (sw_lt (by omega) (by omega) hi) g)
  · intro j hj; rw [h2 (q + 4) j (by omega)]; exact r8 j hj
  · intro j i hj hi; rw [h2 (q + 4) j (by omega), h2 (q + 4) i (by omega)]; exact r9 j i hj hi
  · obtain ⟨s1, s2⟩ := a4 s p (Or.inr ⟨Nat.le_refl _, hs⟩) hp
    rw [hz] at hp2
    by_cases c1 : j = m
    · subst c1
      have : p2 = p := by
        unfold sw at hp2
        rw [if_pos rfl] at hp2
        exact Option.some.inj (hp2.symm.trans hp)
      subst this
      refine ⟨⟨fun k hk h7 => ?_, ?_⟩, s2.sta⟩
      · rw [so_stT hk]
        unfold stf
        by_cases c2 : k < 7
        · rw [g1 k c2]
          by_cases c3 : k = 4
          · rw [if_pos c3, if_pos c3]
          · rw [if_neg c3, if_neg c3, if_neg (by omega), if_neg (by omega)]
            exact s1.1 k (by omega) (by omega)
        · rw [g3 k (by omega) hk, if_neg (by omega), if_neg (by omega), if_pos (by omega)]
      · rw [g2, bas_stT, so_stT (by decide)]
        show _ = bas T s ||| 0
        simp
    · have hjs : j ≠ s := by omega
      have hj2 : sw s m j = j := by
        unfold sw
        rw [if_neg c1, if_neg hjs]
      rw [hj2] at hp2
      have hne : p2 ≠ p := fun e => hjs (r7 j s (by omega) (by omega) (by rw [hp2, hp, e]))
      obtain ⟨t1, t2⟩ := a4 j p2 (by omega) hp2
      exact ⟨t1.cg (fun k _ => h1 p2 k hne) (fun k hk => so_stT' hk c1), t2.cg (fun k hk => so_stT' hk c1)⟩
end
set_option maxHeartbeats 2000000 in
theorem v_X4_startAnew_0 {K : Sh} {x : Cn} {Q : Cn → Prop} {b0 : Nat}   (K0 : GV mX4_startAnew 4 [some (.ref b0), some (.int 0), some (.int 0), none] [] K x Q) : mSV mX4_startAnew [.ref b0] K x Q := by
  refine s_V (by decide) (by simp [Value.category]) (Nat.le_of_ble_eq_true rfl) ?_
  show mGM mX4_startAnew 0 [some (.ref b0), none, none, none] [] (hp K x) (PV K Q)
  refine r_iconst (pc := 0) (v := 0) dX4_startAnew_0 (by decide) ?_
  refine r_istore_n (pc := 1) dX4_startAnew_1 (by decide) ?_
  refine r_iconst (pc := 2) (L := [some (.ref b0), some (.int 0), none, none]) (v := 0) dX4_startAnew_2 (by decide) ?_
  refine r_istore_n (pc := 3) dX4_startAnew_3 (by decide) ?_
  exact r_le (L' := [some (.ref b0), some (.int 0), some (.int 0), none]) ⟨rfl, ⟨rfl, ⟨rfl, trivial⟩⟩⟩ K0
set_option maxHeartbeats 2000000 in
theorem v_X4_startAnew_4 {K : Sh} {x : Cn} {Q : Cn → Prop} {b0 : Nat} {l1 : Int32} {l2 : Int32} {b0_7 : Nat} {n_b0_7 : Nat} (k_b0 : kk K b0 = some (4, 0)) (g_b0_7 : gr x b0 7 = some b0_7) (k_b0_7 : kk K b0_7 = some (23, n_b0_7)) (K0 : ((gi x b0 3) ≤ l2 → (Q (ui (ui (ui (ui x b0 3 l1) b0 4 0) b0 1 0) b0 2 ((gi (ui (ui (ui x b0 3 l1) b0 4 0) b0 1 0) b0 2) + 1)))) ∧ (¬ (gi x b0 3) ≤ l2 → (vp_in l2 n_b0_7 ∧ (∃ c_3 : Nat, gr x b0_7 ((l2 : Int32).toNatClampNeg) = some c_3 ∧ (kk K c_3 = some (5, 0) ∧ ((¬ (f_safe x c_3) → (GV mX4_startAnew 4 [some (.ref b0), some (.int l1), some (.int (l2 + 1)), none] [] K x Q)) ∧ ((f_safe x c_3) → (mSV mX5_openIn [.ref c_3, .int (f_held x c_3)] K x (fun y_7 => gr y_7 b0 7 = some b0_7 ∧ (vp_in l1 n_b0_7 ∧ (∃ c_10 : Nat, gr y_7 b0_7 ((l1 : Int32).toNatClampNeg) = some c_10 ∧ (kk K c_10 = some (5, 0) ∧ (gr (ur (ui y_7 c_3 4 0) b0_7 (l2 : Int32).toNatClampNeg (some c_10)) b0 7 = some b0_7 ∧ (GV mX4_startAnew 4 [some (.ref b0), some (.int (l1 + 1)), some (.int (l2 + 1)), none] [] K (ur (ur (ui y_7 c_3 4 0) b0_7 (l2 : Int32).toNatClampNeg (some c_10)) b0_7 (l1 : Int32).toNatClampNeg (some c_3)) Q)))))))))))))) : GV mX4_startAnew 4 [some (.ref b0), some (.int l1), some (.int l2), none] [] K x Q := by
  show mGM mX4_startAnew 4 [some (.ref b0), some (.int l1), some (.int l2), none] [] (hp K x) (PV K Q)
  refine r_iload_n (pc := 4) dX4_startAnew_4 rfl ?_
  refine r_aload_n (pc := 5) dX4_startAnew_5 rfl ?_
  refine s_getI (pc := 6) dX4_startAnew_6 fl_X4_21 rfl k_b0 ?_
  refine r_icmp_ge (pc := 9) (tgt := 67) dX4_startAnew_9 (by decide) (fun q => ?_) (fun q => ?_)
  · have K0 := K0.1 q
    refine r_aload_n (pc := 67) dX4_startAnew_67 rfl ?_
    refine r_iload_n (pc := 68) dX4_startAnew_68 rfl ?_
    refine s_putI (pc := 69) dX4_startAnew_69 fl_X4_21 rfl rfl k_b0 ?_
    refine r_aload_n (pc := 72) dX4_startAnew_72 rfl ?_
    refine r_iconst (pc := 73) (v := 0) dX4_startAnew_73 (by decide) ?_
    refine s_putI (pc := 74) dX4_startAnew_74 fl_X4_24 rfl rfl k_b0 ?_
    refine r_aload_n (pc := 77) dX4_startAnew_77 rfl ?_
    refine r_iconst (pc := 78) (v := 0) dX4_startAnew_78 (by decide) ?_
    refine s_putI (pc := 79) dX4_startAnew_79 fl_X4_15 rfl rfl k_b0 ?_
    refine r_aload_n (pc := 82) dX4_startAnew_82 rfl ?_
    refine r_dup (pc := 83) dX4_startAnew_83 rfl ?_
    refine s_getI (pc := 84) dX4_startAnew_84 fl_X4_18 rfl k_b0 ?_
    refine r_iconst (pc := 87) (v := 1) dX4_startAnew_87 (by decide) ?_
    refine r_iadd (pc := 88) dX4_startAnew_88 ?_
    refine s_putI (pc := 89) dX4_startAnew_89 fl_X4_18 rfl rfl k_b0 ?_
    exact s_ret rfl dX4_startAnew_92 K0
  · have K0 := K0.2 q
    refine r_aload_n (pc := 12) dX4_startAnew_12 rfl ?_
    refine s_getR (pc := 13) dX4_startAnew_13 fl_X4_36 rfl k_b0 g_b0_7 ?_
    refine r_iload_n (pc := 16) dX4_startAnew_16 rfl ?_
    obtain ⟨i_2, K0⟩ := K0
    obtain ⟨c_3, g_4, K0⟩ := K0
    refine s_aald (pc := 17) dX4_startAnew_17 (by decide) rfl k_b0_7 i_2 g_4 ?_
    refine r_astore_n (pc := 18) dX4_startAnew_18 (by decide) ?_
    refine r_aload_n (pc := 19) (L := [some (.ref b0), some (.int l1), some (.int l2), some (.ref c_3)]) dX4_startAnew_19 rfl ?_
    obtain ⟨e_5, K0⟩ := K0
    refine s_VI (pc := 20) mX5_isSafe (ci := 5) (a := c_3) (As := []) dX4_startAnew_20 lk_X4_154 in_X5_isSafe mo_X5_isSafe ⟨by decide, rfl⟩ ⟨by decide, by decide⟩ (Nat.le_of_ble_eq_true rfl) e_5 (sp_X5_isSafe e_5 ?_)
    refine r_if_eq (pc := 23) (tgt := 61) dX4_startAnew_23 (by decide) (fun q => ?_) (fun q => ?_)
    · have q := (b2i_z _).mp q
      have K0 := K0.1 q
      refine r_iinc (pc := 61) (v := l2 + 1) dX4_startAnew_61 rfl rfl (by decide) ?_
      refine r_goto (pc := 64) (L := [some (.ref b0), some (.int l1), some (.int (l2 + 1)), some (.ref c_3)]) (tgt := 4) dX4_startAnew_64 (by decide) ?_
      exact r_le (L' := [some (.ref b0), some (.int l1), some (.int (l2 + 1)), none]) ⟨rfl, ⟨rfl, ⟨rfl, trivial⟩⟩⟩ K0
    · have q := b2i_nz q
      have K0 := K0.2 q
      refine r_aload_n (pc := 26) dX4_startAnew_26 rfl ?_
      refine r_aload_n (pc := 27) dX4_startAnew_27 rfl ?_
      refine s_VI (pc := 28) mX5_heldBits (ci := 5) (a := c_3) (As := []) dX4_startAnew_28 lk_X4_88 in_X5_heldBits mo_X5_heldBits ⟨by decide, rfl⟩ ⟨by decide, by decide⟩ (Nat.le_of_ble_eq_true rfl) e_5 (sp_X5_heldBits e_5 ?_)
      refine s_VV (pc := 31) mX5_openIn (ci := 5) (a := c_3) (As := [.int (f_held x c_3)]) dX4_startAnew_31 lk_X4_157 in_X5_openIn mo_X5_openIn ⟨by decide, rfl⟩ ⟨by decide, by decide⟩ (Nat.le_of_ble_eq_true rfl) e_5 (mSV_mono K0 (fun y_7 K0 => ?_))
      refine r_aload_n (pc := 34) dX4_startAnew_34 rfl ?_
      refine r_iconst (pc := 35) (v := 0) dX4_startAnew_35 (by decide) ?_
      refine s_putZ (pc := 36) dX4_startAnew_36 fl_X4_137 rfl rfl e_5 (by decide) ?_
      refine r_aload_n (pc := 39) dX4_startAnew_39 rfl ?_
      obtain ⟨g_8, K0⟩ := K0
      refine s_getR (pc := 40) dX4_startAnew_40 fl_X4_36 rfl k_b0 g_8 ?_
      refine r_iload_n (pc := 43) dX4_startAnew_43 rfl ?_
      refine r_aload_n (pc := 44) dX4_startAnew_44 rfl ?_
      refine s_getR (pc := 45) dX4_startAnew_45 fl_X4_36 rfl k_b0 g_8 ?_
      refine r_iload_n (pc := 48) dX4_startAnew_48 rfl ?_
      obtain ⟨i_9, K0⟩ := K0
      obtain ⟨c_10, g_11, K0⟩ := K0
      refine s_aald (pc := 49) dX4_startAnew_49 (by decide) rfl k_b0_7 i_9 g_11 ?_
      obtain ⟨e_12, K0⟩ := K0
      refine s_aast (pc := 50) dX4_startAnew_50 (by decide) (by decide) rfl k_b0_7 e_12 i_2 ?_
      refine r_aload_n (pc := 51) dX4_startAnew_51 rfl ?_
      obtain ⟨g_13, K0⟩ := K0
      refine s_getR (pc := 52) dX4_startAnew_52 fl_X4_36 rfl k_b0 g_13 ?_
      refine r_iload_n (pc := 55) dX4_startAnew_55 rfl ?_
      refine r_aload_n (pc := 56) dX4_startAnew_56 rfl ?_
      refine s_aast (pc := 57) dX4_startAnew_57 (by decide) (by decide) rfl k_b0_7 e_5 i_9 ?_
      refine r_iinc (pc := 58) (v := l1 + 1) dX4_startAnew_58 rfl rfl (by decide) ?_
      refine r_iinc (pc := 61) (L := [some (.ref b0), some (.int (l1 + 1)), some (.int l2), some (.ref c_3)]) (v := l2 + 1) dX4_startAnew_61 rfl rfl (by decide) ?_
      refine r_goto (pc := 64) (L := [some (.ref b0), some (.int (l1 + 1)), some (.int (l2 + 1)), some (.ref c_3)]) (tgt := 4) dX4_startAnew_64 (by decide) ?_
      exact r_le (L' := [some (.ref b0), some (.int (l1 + 1)), some (.int (l2 + 1)), none]) ⟨rfl, ⟨rfl, ⟨rfl, trivial⟩⟩⟩ K0
section
theorem sp_X4_startAnew {x : Cn} {Q : Cn → Prop} {q : Nat} {T : TT} {W C S A N : Nat} (E : SEA x q T W C S A N) (k : ∀ z, (∀ b k, ¬ (q ≤ b ∧ b < q + 54) → gi z b k = gi x b k) → (∀ b k, b ≠ q + 3 → gr z b k = gr x b k) → SEA z q (enF T S) W C (accT enS S (T, 0)).2 0 0 → Q z) : mSV mX4_startAnew [.ref q] KW x Q := by
  have hS : S ≤ 24 := E.nums.2.2.2.2.2.2.1
  have e3 := E.nums.2.2.1
  refine v_X4_startAnew_0 (lp_acc enS (fun s t => t.2 ≤ s → ∀ y, ANW x y q t.1 C W S s t.2 → GV mX4_startAnew 4 [some (.ref q), some (.int (nI t.2)), some (.int (nI s)), none] [] KW y Q) S (T, 0) ?_ (fun s t hs n1 => ?_) (Nat.le_refl _) x ⟨E.2.1, fun _ _ _ => rfl, fun _ _ _ => rfl, fun j p hj hp => ⟨E.2.2.1.2.2.2.2.2.2.1 j p (by omega) hp, E.2.2.2.2.2.2.2.2.2.2.2.2.2.2.2.1 j (by omega)⟩⟩)
  · intro t0 y a
    obtain ⟨b1, b2⟩ := en_bd (T := T) S hS
    obtain ⟨a1, a2, a3, a4⟩ := a
    have e3' : gi y q 3 = nI S := (a2 q 3 (by omega)).trans e3
    refine v_X4_startAnew_4 (ks0 E.1) a1.2.2.1 (ks3 E.1) ⟨fun _ => ?_, fun z => absurd (by rw [e3']; exact Int32.le_refl _) z⟩
    obtain ⟨e1, e2, ⟨v0, v1, v2, v3, v4, v5, v6, v7⟩, w1, w2, w3, w4, w5, w6, w7, w8, w9, w10, w11, w12, w13, w14⟩ := E
    have hF : ∀ i, i ≠ 2 → i ≠ 3 → i ≠ 4 → i ≠ 5 → enF T S i = (accT enS S (T, 0)).1 i := fun i h2 h3 h4 h5 => by
      unfold enF
      rw [uT_ne _ _ h5, uT_ne _ _ h4, uT_ne _ _ h3, uT_ne _ _ h2]
    have hT : ∀ i, i < 62 → i ≠ 2 → i ≠ 3 → i ≠ 4 → i ≠ 5 → enF T S i = T i := fun i h h2 h3 h4 h5 => (hF i h2 h3 h4 h5).trans (b2 i (Or.inl h))
    have e5 : gi (ui (ui (ui y q 3 (nI (accT enS S (T, 0)).2)) q 4 0) q 1 0) q 2 = gi x q 2 := by
      simp only [gi_ui]
      rw [if_neg (by omega), if_neg (by omega), if_neg (by omega)]
      exact a2 q 2 (by omega)
    rw [e5]
    have off : ∀ b i, ¬ (b = q ∧ 1 ≤ i ∧ i ≤ 4) → gi (ui (ui (ui (ui y q 3 (nI (accT enS S (T, 0)).2)) q 4 0) q 1 0) q 2 (gi x q 2 + 1)) b i = gi y b i := fun b i c => by
      simp only [gi_ui]
      rw [if_neg (by omega), if_neg (by omega), if_neg (by omega), if_neg (by omega)]
    refine k _ (fun b i hb => (off b i (by omega)).trans (a2 b i (by omega))) (fun b i hb => a3 b i hb) ⟨e1, a1.keep rfl, ⟨?_, ?_, ?_, ?_, ?_, ?_, ?_, ?_⟩, ?_⟩
    · rw [off q 0 (by omega), a2 q 0 (by omega), hT 0 (by decide) (by decide) (by decide) (by decide) (by decide)]; exact v0
    · simp [gi_ui, enF, uT]
    · simp only [gi_ui, if_true, and_self]
      rw [v2]
      show _ = uT _ 5 _ 5
      rw [uT_at, b2 5 (by omega)]
    · simp [gi_ui, enF, uT]
    · simp [gi_ui, enF, uT]
    · intro h hh
      rw [off (q + 1) h (by omega), off (q + 2) h (by omega), a2 (q + 1) h (by omega), a2 (q + 2) h (by omega), hT _ (by omega) (by omega) (by omega) (by omega) (by omega), hT _ (by omega) (by omega) (by omega) (by omega) (by omega)]
      exact v5 h hh
    · intro j p hj hp
      obtain ⟨i0, hi0, ei0⟩ := a1.2.2.2.2.2.1 j (by omega)
      have ep : p = q + 6 + i0 := Option.some.inj ((show gr y (q + 3) j = some p from hp).symm.trans ei0)
      exact (a4 j p (Or.inl hj) hp).1.cg (fun k _ => off p k (by omega)) (fun k hk => hF _ (by omega) (by omega) (by omega) (by omega))
    · intro j p hj; omega
    · refine ⟨by rw [hT 0 (by decide) (by decide) (by decide) (by decide) (by decide)]; exact w1, w2, w3, by rw [hT 1 (by decide) (by decide) (by decide) (by decide) (by decide)]; exact w4, w5, by simp [enF, uT], by omega, by simp [enF, uT]; rfl, by decide, by simp [enF, uT]; rfl, by omega, fun h hh => by rw [hT _ (by omega) (by omega) (by omega) (by omega) (by omega), hT _ (by omega) (by omega) (by omega) (by omega) (by omega)]; exact w12 h hh, fun j hj => ?_, fun a ha => by omega⟩
      obtain ⟨i0, hi0, ei0⟩ := a1.2.2.2.2.2.1 j (by omega)
      exact (a4 j _ (Or.inl hj) ei0).2.cg (fun k hk => hF _ (by omega) (by omega) (by omega) (by omega))
  · intro t0 y a
    obtain ⟨a1, a2, a3, a4⟩ := id a
    have e3' : gi y q 3 = nI S := (a2 q 3 (by omega)).trans e3
    obtain ⟨i0, hi0, ei0⟩ := a1.2.2.2.2.2.1 s (by omega)
    obtain ⟨i1, hi1, ei1⟩ := a1.2.2.2.2.2.1 t.2 (by omega)
    obtain ⟨s1, s2⟩ := a4 s _ (Or.inr ⟨Nat.le_refl _, hs⟩) ei0
    refine v_X4_startAnew_4 (ks0 E.1) a1.2.2.1 (ks3 E.1) ⟨fun z => absurd (by rw [e3'] at z; exact z) (nI_ge hs (by omega)), fun _ => ?_⟩
    rw [nI_1, nI_1, nI_clamp (show s < 2 ^ 31 by omega), nI_clamp (show t.2 < 2 ^ 31 by omega)]
    refine ⟨vp_in_nI (by omega) (by decide), _, ei0, ks6 E.1 hi0, fun z => ?_, fun z => ?_⟩
    · have c : ¬ kw t.1 s 0 := fun u => z ((s1.safe s2).mpr u)
      refine n1 t (enS_f c) (by omega) y ⟨a1, a2, a3, fun j p hj hp => a4 j p (by omega) hp⟩
    · have c : kw t.1 s 0 := (s1.safe s2).mp z
      refine sp_X5_openIn_at (ks6 E.1 hi0) (fun v f v1 v2 v3 => ?_)
      have hg : ∀ b i, gr v b i = gr y b i := fun b i => by unfold gr; rw [f.1]
      refine ⟨(hg q 7).trans a1.2.2.1, vp_in_nI (by omega) (by decide), _, (hg _ _).trans ei1, ks6 E.1 hi1, ?_, n1 (stT t.1 s t.2, t.2 + 1) (enS_t c) (show t.2 + 1 ≤ s + 1 by omega) _ (a.st hs hS t0 ei0 ei1 (fun b i hb => ?_) (fun b i hb => ?_) (fun j => ?_) (fun j hj => ?_) ?_ (fun j h8 h12 => ?_))⟩
      · rw [gr_ur, if_neg (by omega), gr_ui, hg]; exact a1.2.2.1
      · rw [gi_ur, gi_ur, gi_ui, if_neg (fun z => hb z.1)]; exact f.2 b i hb
      · rw [gr_ur, if_neg (fun z => hb z.1), gr_ur, if_neg (fun z => hb z.1), gr_ui]; exact hg b i
      · rw [gr_ur, gr_ur, gr_ui]
        by_cases c1 : j = t.2
        · rw [if_pos ⟨rfl, c1⟩, if_pos c1]
        · rw [if_neg (fun z => c1 z.2), if_neg c1]
          by_cases c2 : j = s
          · rw [if_pos ⟨rfl, c2⟩, if_pos c2]
          · rw [if_neg (fun z => c2 z.2), if_neg c2]; exact hg _ _
      · rw [gi_ur, gi_ur, gi_ui]
        by_cases c1 : j = 4
        · rw [if_pos ⟨rfl, c1⟩, if_pos c1]
        · rw [if_neg (fun z => c1 z.2), if_neg c1]; exact v1 j hj
      · rw [gi_ur, gi_ur, gi_ui, if_neg (by omega), v2]; exact s1.held s2
      · rw [gi_ur, gi_ur, gi_ui, if_neg (by omega)]; exact v3 j h8 h12
end
set_option maxHeartbeats 2000000 in
theorem v_X7_ends_0 {K : Sh} {x : Cn} {Q : Int32 → Cn → Prop} {b0 : Nat} {b0_2 : Nat} (k_b0 : kk K b0 = some (7, 0)) (g_b0_2 : gr x b0 2 = some b0_2) (k_b0_2 : kk K b0_2 = some (4, 0)) (K0 : ((0 < gi x b0_2 0) → (((gi x b0_2 0 ≤ gi x b0_2 1) → (mSV mX7_remember [.ref b0] K x (fun y_3 => gr y_3 b0 2 = some b0_2 ∧ (mSV mX4_startAnew [.ref b0_2] K y_3 (fun y_5 => gr y_5 b0 2 = some b0_2 ∧ (Q (gi y_5 b0_2 3) y_5)))))) ∧ (¬ (gi x b0_2 0 ≤ gi x b0_2 1) → (Q (-6) x)))) ∧ (¬ (0 < gi x b0_2 0) → (Q (-2) x))) : mSI mX7_ends [.ref b0] K x Q := by
  refine s_I (by decide) (by simp [Value.category]) (Nat.le_of_ble_eq_true rfl) ?_
  show mGM mX7_ends 0 [some (.ref b0)] [] (hp K x) (PI K Q)
  refine r_aload_n (pc := 0) dX7_ends_0 rfl ?_
  refine s_VI (pc := 1) mX7_hasText (ci := 7) (a := b0) (As := []) dX7_ends_1 lk_X7_121 in_X7_hasText mo_X7_hasText ⟨by decide, rfl⟩ ⟨by decide, by decide⟩ (Nat.le_of_ble_eq_true rfl) k_b0 (sp_X7_hasText k_b0 g_b0_2 k_b0_2 ?_)
  refine r_if_ne (pc := 4) (tgt := 10) dX7_ends_4 (by decide) (fun q => ?_) (fun q => ?_)
  · have q := b2i_nz q
    have K0 := K0.1 q
    refine r_aload_n (pc := 10) dX7_ends_10 rfl ?_
    refine s_getR (pc := 11) dX7_ends_11 fl_X7_20 rfl k_b0 g_b0_2 ?_
    refine s_VI (pc := 14) mX4_isOver (ci := 4) (a := b0_2) (As := []) dX7_ends_14 lk_X7_279 in_X4_isOver mo_X4_isOver ⟨by decide, rfl⟩ ⟨by decide, by decide⟩ (Nat.le_of_ble_eq_true rfl) k_b0_2 (sp_X4_isOver k_b0_2 ?_)
    refine r_if_ne (pc := 17) (tgt := 23) dX7_ends_17 (by decide) (fun q => ?_) (fun q => ?_)
    · have q := b2i_nz q
      have K0 := K0.1 q
      refine r_aload_n (pc := 23) dX7_ends_23 rfl ?_
      refine s_VV (pc := 24) mX7_remember (ci := 7) (a := b0) (As := []) dX7_ends_24 lk_X7_333 in_X7_remember mo_X7_remember ⟨by decide, rfl⟩ ⟨by decide, by decide⟩ (Nat.le_of_ble_eq_true rfl) k_b0 (mSV_mono K0 (fun y_3 K0 => ?_))
      refine r_aload_n (pc := 27) dX7_ends_27 rfl ?_
      obtain ⟨g_4, K0⟩ := K0
      refine s_getR (pc := 28) dX7_ends_28 fl_X7_20 rfl k_b0 g_4 ?_
      refine s_VV (pc := 31) mX4_startAnew (ci := 4) (a := b0_2) (As := []) dX7_ends_31 lk_X7_376 in_X4_startAnew mo_X4_startAnew ⟨by decide, rfl⟩ ⟨by decide, by decide⟩ (Nat.le_of_ble_eq_true rfl) k_b0_2 (mSV_mono K0 (fun y_5 K0 => ?_))
      refine r_aload_n (pc := 34) dX7_ends_34 rfl ?_
      obtain ⟨g_6, K0⟩ := K0
      refine s_getR (pc := 35) dX7_ends_35 fl_X7_20 rfl k_b0 g_6 ?_
      refine s_getI (pc := 38) dX7_ends_38 fl_X7_97 rfl k_b0_2 ?_
      exact s_iret rfl dX7_ends_41 K0
    · have q := (b2i_z _).mp q
      have K0 := K0.2 q
      refine r_bipush (pc := 20) (v := (-6)) dX7_ends_20 (by decide) ?_
      exact s_iret rfl dX7_ends_22 K0
  · have q := (b2i_z _).mp q
    have K0 := K0.2 q
    refine r_bipush (pc := 7) (v := (-2)) dX7_ends_7 (by decide) ?_
    exact s_iret rfl dX7_ends_9 K0
theorem eq_drop (a : Int32) : Both mX7_drop mX8_drop [.int a] := by
  intro x R
  obtain ⟨W, C, S, A, N, n, H, ac, rs, nm⟩ := R.ac
  have E := ac.2.2.2.2
  have hn := E.nums
  have hA : A ≤ 24 := hn.2.2.2.2.2.2.2.1
  have hC : C ≤ 8 := hn.2.2.2.2.2.1
  refine v_X7_drop_0 k0 R.1.2.1 (ks0 E.1) ?_
  rw [hn.2.2.2.1]
  refine ⟨fun z => ac.rem (fun _ _ => rfl) (fun y ay y1 y2 => ⟨ay.2.1.2.1, ?_⟩), fun z => sq_X8_drop rs E.2.2.2 (fun _ => ⟨rfl, R⟩) (fun b hb hb2 => absurd ⟨hb ▸ nI_pos' (by omega), hb ▸ nI_lt hb2 (by omega)⟩ z)⟩
  obtain ⟨b, hb, rfl⟩ := inN (by omega) z
  refine sp_X4_removeAsk ay.2.2.2.2 hb (fun v v1 v2 v3 v4 => ?_)
  have a2 : AC x v W C S (A - 1) N (pn n) (drT (gi x 718) b A) (push H n (gi x 718)) := ay.up2 (fun d i hd => v1 d i (by omega)) (fun d i hd => v3 d i (by omega)) (ay.2.2.2.2.drop hb v1 v2 v3 v4)
  refine ⟨a2.2.1.2.1, ?_⟩
  rw [v2]
  exact sq_X8_drop (a2.rs rs) E.2.2.2 (fun u => absurd z u) (fun b' hb' hb2 w f2 r2 => ⟨rfl, by
    have : b' = b := ((nI_eq (by omega) (by omega)).mp hb').symm
    subst this
    exact a2.fin R nm (fun c hc => drT_off (by omega) (by omega)) f2 r2⟩)
theorem eq_ends : Both mX7_ends mX8_ends [] := by
  intro x R
  obtain ⟨W, C, S, A, N, n, H, ac, rs, nm⟩ := R.ac
  have E := ac.2.2.2.2
  have hn := E.nums
  have hS : S ≤ 24 := hn.2.2.2.2.2.2.1
  have hC : C ≤ 8 := hn.2.2.2.2.2.1
  have hW : W ≤ 30 := hn.2.2.2.2.1
  have hN : N ≤ W := hn.2.2.2.2.2.2.2.2
  refine v_X7_ends_0 k0 R.1.2.1 (ks0 E.1) ?_
  rw [hn.1, hn.2.1, nI_leI (by omega) (by omega)]
  refine ⟨fun z1 => ⟨fun z2 => ac.rem (fun _ _ => rfl) (fun y ay y1 y2 => ⟨ay.2.1.2.1, sp_X4_startAnew ay.2.2.2.2 (fun v v1 v2 v3 => ?_)⟩), fun z2 => sq_X8_ends rs E.2.2.2 (fun u => absurd z1 u) (fun _ _ => ⟨rfl, R⟩) (fun _ u => absurd u z2)⟩, fun z => sq_X8_ends rs E.2.2.2 (fun _ => ⟨rfl, R⟩) (fun u => absurd u z) (fun u => absurd u z)⟩
  have a2 : AC x v W C (accT enS S (gi x 718, 0)).2 0 0 (pn n) (enF (gi x 718) S) (push H n (gi x 718)) := ay.up2 (fun d i hd => v1 d i (by omega)) (fun d i hd => v2 d i (by omega)) v3
  refine ⟨a2.2.1.2.1, ?_⟩
  rw [v3.nums.2.2.1]
  refine sq_X8_ends (a2.rs rs) E.2.2.2 (fun u => absurd z1 u) (fun _ u => absurd z2 u) (fun _ _ w f2 r2 => ⟨rfl, a2.fin R nm (fun c hc => ?_) f2 r2⟩)
  unfold enF
  rw [uT_ne _ _ (by omega), uT_ne _ _ (by omega), uT_ne _ _ (by omega), uT_ne _ _ (by omega)]
  exact (en_bd S hS).2 _ (by omega)
end
/-! 52.swap.lean.txt -/
section
/-- day, hour and way of two series change over, fields below m -/
def swK (T : TT) (s t m : Nat) : TT := fun i => if 63 + 12 * s ≤ i ∧ i < 62 + 12 * s + m then T (i - 12 * s + 12 * t) else if 63 + 12 * t ≤ i ∧ i < 62 + 12 * t + m then T (i - 12 * t + 12 * s) else T i
abbrev swT (T : TT) (s t : Nat) : TT := swK T s t 4
theorem so_swS {T : TT} {s t m k : Nat} (hm : m ≤ 4) (h1 : 1 ≤ k) (hk : k < m) : so (swK T s t m) s k = so T t k := by
  unfold so swK
  rw [if_pos (by omega)]
  congr 1
  omega
theorem so_swS' {T : TT} {s t m k : Nat} (hst : s ≠ t) (hm : m ≤ 4) (h1 : 1 ≤ k) (hk : k < m) : so (swK T s t m) t k = so T s k := by
  unfold so swK
  rw [if_neg (by omega), if_pos (by omega)]
  congr 1
  omega
theorem so_swN {T : TT} {s t m j k : Nat} (hm : m ≤ 4) (hk : k < 12) (h : (j ≠ s ∧ j ≠ t) ∨ k = 0 ∨ m ≤ k) : so (swK T s t m) j k = so T j k := by
  unfold so swK
  rw [if_neg (by omega), if_neg (by omega)]
theorem swK_off {T : TT} {s t m i : Nat} (hs : s < 24) (ht : t < 24) (hm : m ≤ 4) (h : i < 62 ∨ 350 ≤ i) : swK T s t m i = T i := by
  unfold swK
  rw [if_neg (by omega), if_neg (by omega)]
theorem swT_swT {T : TT} {s t : Nat} (hst : s ≠ t) : swT (swT T s t) s t = T := by
  funext i
  show (if 63 + 12 * s ≤ i ∧ i < 62 + 12 * s + 4 then swK T s t 4 (i - 12 * s + 12 * t) else if 63 + 12 * t ≤ i ∧ i < 62 + 12 * t + 4 then swK T s t 4 (i - 12 * t + 12 * s) else swK T s t 4 i) = T i
  unfold swK
  by_cases c1 : 63 + 12 * s ≤ i ∧ i < 62 + 12 * s + 4
  · rw [if_pos c1, if_neg (by omega), if_pos (by omega)]
    congr 1
    omega
  · rw [if_neg c1]
    by_cases c2 : 63 + 12 * t ≤ i ∧ i < 62 + 12 * t + 4
    · rw [if_pos c2, if_pos (by omega)]
      congr 1
      omega
    · rw [if_neg c2, if_neg c1, if_neg c2]
theorem Wse.mix {T T' : TT} {C W a b j : Nat} (wa : Wse T C W a) (wb : Wse T C W b) (h0 : ∀ k, k < 12 → k = 0 ∨ 4 ≤ k → so T' j k = so T a k) (h1 : ∀ k, 1 ≤ k → k ≤ 3 → so T' j k = so T b k) : Wse T' C W j := by
  obtain ⟨a1, -, -, -, a5, a6, a7, a8⟩ := wa
  obtain ⟨-, b2, b3, b4, -, -, -, -⟩ := wb
  refine ⟨by rw [h0 0 (by decide) (by decide)]; exact a1, by rw [h1 1 (by decide) (by decide)]; exact b2, by rw [h1 2 (by decide) (by decide)]; exact b3, by rw [h1 3 (by decide) (by decide)]; exact b4, by rw [h0 4 (by decide) (by decide)]; exact a5, by rw [h0 5 (by decide) (by decide), h0 6 (by decide) (by decide)]; exact a6, ?_, ?_⟩
  · intro i hi k j' hk hj
    rw [h0 (7 + k) (by omega) (by omega), h0 (7 + j') (by omega) (by omega)]
    exact a7 i hi k j' hk hj
  · intro i k hk
    rw [h0 (7 + k) (by omega) (by omega)]
    exact a8 i k hk
theorem Wse.swS {T : TT} {C W s t : Nat} (hst : s ≠ t) (ws : Wse T C W s) (wt : Wse T C W t) : Wse (swT T s t) C W s ∧ Wse (swT T s t) C W t :=
  ⟨ws.mix wt (fun k hk h => so_swN (by decide) hk (by omega)) (fun k h1 h3 => so_swS (by decide) h1 (by omega)), wt.mix ws (fun k hk h => so_swN (by decide) hk (by omega)) (fun k h1 h3 => so_swS' hst (by decide) h1 (by omega))⟩
theorem Wse.swA {T : TT} {C W s t S : Nat} (hst : s ≠ t) (hs : s < S) (ht : t < S) (w : ∀ j, j < S → Wse T C W j) : ∀ j, j < S → Wse (swT T s t) C W j := by
  intro j hj
  by_cases c1 : j = s
  · rw [c1]; exact ((w s hs).swS hst (w t ht)).1
  · by_cases c2 : j = t
    · rw [c2]; exact ((w s hs).swS hst (w t ht)).2
    · exact (w j hj).cg (fun k hk => so_swN (by decide) hk (Or.inl ⟨c1, c2⟩))
theorem WF.sw {T : TT} {W C S A N s t : Nat} (F : WF T W C S A N) (hst : s ≠ t) (hs : s < S) (ht : t < S) : WF (swT T s t) W C S A N := by
  obtain ⟨w1, w2, w3, w4, w5, w6, w7, w8, w9, w10, w11, w12, w13, w14⟩ := F
  have hT : ∀ i, i < 62 ∨ 350 ≤ i → swT T s t i = T i := fun i hi => swK_off (by omega) (by omega) (by decide) hi
  exact ⟨by rw [hT 0 (by omega)]; exact w1, w2, w3, by rw [hT 1 (by omega)]; exact w4, w5, by rw [hT 2 (by omega)]; exact w6, w7, by rw [hT 3 (by omega)]; exact w8, w9, by rw [hT 4 (by omega)]; exact w10, w11, fun h hh => by rw [hT _ (by omega), hT _ (by omega)]; exact w12 h hh, Wse.swA hst hs ht w13, fun a ha => (w14 a ha).cg (fun k hk => hT _ (by omega))⟩
theorem bas_sw {T : TT} {s t j : Nat} : bas (swT T s t) j = bas T j := by
  unfold bas
  rw [so_swN (by decide) (by decide) (by omega), so_swN (by decide) (by decide) (by omega), so_swN (by decide) (by decide) (by omega), so_swN (by decide) (by decide) (by omega)]
theorem SEA.swp {x z : Cn} {q p p' : Nat} {T : TT} {W C S A N s t : Nat} (E : SEA x q T W C S A N) (hs : s < S) (ht : t < S) (hst : s ≠ t) (hp : gr x (q + 3) s = some p) (hp' : gr x (q + 3) t = some p') (h1 : z.2 = x.2) (h2 : ∀ b k, ¬ ((b = p ∨ b = p') ∧ 1 ≤ k ∧ k ≤ 3) → gi z b k = gi x b k) (h3 : ∀ k, 1 ≤ k → k ≤ 3 → gi z p k = gi x p' k ∧ gi z p' k = gi x p k) : SEA z q (swT T s t) W C S A N := by
  have F := E.2.2.2.sw hst hs ht
  obtain ⟨e1, e2, ⟨v0, v1, v2, v3, v4, v5, v6, v7⟩, w1, w2, w3, w4, w5, w6, w7, w8, w9, w10, w11, w12, w13, w14⟩ := E
  obtain ⟨r1, r2, r3, r4, r5, r6, r7, r8, r9⟩ := id e2
  have hg : ∀ b k, gr z b k = gr x b k := fun b k => by unfold gr; rw [h1]
  obtain ⟨j, hj, ej⟩ := r6 s (by omega)
  have ep : p = q + 6 + j := Option.some.inj (hp.symm.trans ej)
  obtain ⟨j', hj', ej'⟩ := r6 t (by omega)
  have ep' : p' = q + 6 + j' := Option.some.inj (hp'.symm.trans ej')
  have hT : ∀ i, i < 62 ∨ 350 ≤ i → swT T s t i = T i := fun i hi => swK_off (by omega) (by omega) (by decide) hi
  refine ⟨e1, e2.keep h1, ⟨?_, ?_, ?_, ?_, ?_, ?_, ?_, ?_⟩, F⟩
  · rw [h2 q 0 (by omega), hT 0 (by omega)]; exact v0
  · rw [h2 q 1 (by omega), hT 4 (by omega)]; exact v1
  · rw [h2 q 2 (by omega), hT 5 (by omega)]; exact v2
  · rw [h2 q 3 (by omega), hT 2 (by omega)]; exact v3
  · rw [h2 q 4 (by omega), hT 3 (by omega)]; exact v4
  · intro h hh
    rw [h2 (q + 1) h (by omega), h2 (q + 2) h (by omega), hT _ (by omega), hT _ (by omega)]
    exact v5 h hh
  · intro i pi hi hpi
    rw [hg] at hpi
    have g0 := v6 i pi hi hpi
    by_cases c1 : i = s
    · subst c1
      have : pi = p := Option.some.inj (hpi.symm.trans hp)
      subst this
      refine ⟨fun k hk h7 => ?_, ?_⟩
      · by_cases c2 : 1 ≤ k ∧ k ≤ 3
        · rw [(h3 k c2.1 c2.2).1, so_swS (by decide) c2.1 (by omega)]
          exact (v6 t p' ht hp').1 k hk h7
        · rw [h2 pi k (fun u => c2 u.2), so_swN (by decide) hk (by omega)]
          exact g0.1 k hk h7
      · rw [h2 pi 7 (by omega), bas_sw, so_swN (by decide) (by decide) (by omega)]
        exact g0.2
    · by_cases c2 : i = t
      · subst c2
        have : pi = p' := Option.some.inj (hpi.symm.trans hp')
        subst this
        refine ⟨fun k hk h7 => ?_, ?_⟩
        · by_cases c2 : 1 ≤ k ∧ k ≤ 3
          · rw [(h3 k c2.1 c2.2).2, so_swS' hst (by decide) c2.1 (by omega)]
            exact (v6 s p hs hp).1 k hk h7
          · rw [h2 pi k (fun u => c2 u.2), so_swN (by decide) hk (by omega)]
            exact g0.1 k hk h7
        · rw [h2 pi 7 (by omega), bas_sw, so_swN (by decide) (by decide) (by omega)]
          exact g0.2
      · have n1 : pi ≠ p := fun e => c1 (r7 i s (by omega) (by omega) (by rw [hpi, hp, e]))
        have n2 : pi ≠ p' := fun e => c2 (r7 i t (by omega) (by omega) (by rw [hpi, hp', e]))
        exact g0.cg (fun k _ => h2 pi k (fun u => u.1.elim n1 n2)) (fun k hk => so_swN (by decide) hk (Or.inl ⟨c1, c2⟩))
  · intro i pi hi hpi
    rw [hg] at hpi
    obtain ⟨j2, hj2, ej2⟩ := r8 i (by omega)
    have ep2 : pi = q + 30 + j2 := Option.some.inj (hpi.symm.trans ej2)
    exact (v7 i pi hi hpi).cg (fun k _ => h2 pi k (by omega)) (fun k hk => hT _ (by omega))
theorem sn_X8_canBe {x : Cn} {Q : Int32 → Cn → Prop} {t : Nat} (M : MRf x t) (ht : kk KW t = some (20, 518)) {W S N : Nat} (t0 : gi x t 0 = nI W) (hW : W ≤ 30) (t4 : gi x t 2 = nI S) (hS : S ≤ 24) (t8 : gi x t 4 = nI N) (hN : N ≤ W) {d way bits b wo : Int32} {h : Nat} (hh : h < 24) (hw : way = 0 ∨ way = 1) (hb : ∀ i, i < 32 → tb bits i = true → N ≤ i → i < W) (hwo : ∀ s, s < 24 → (tb wo s = true ↔ nI s = b)) (k : Q (bP (fitC (gi x t) S N d h way bits wo)) x) : mSI mX8_canBe [.ref 717, .int bits, .int d, .int (nI h), .int way, .int b] KW x Q := by
  have key : ∀ n w, w + n = W → (∀ i, i < w → tb bits i = true → N ≤ i → ¬ gi x t (6 + 2 * h) ≤ nI (nW (gi x t) S i d (nI h) 0 wo) ∧ (¬ way = 1 → ¬ gi x t (7 + 2 * h) ≤ nI (nW (gi x t) S i d (nI h) 1 wo))) → GI mX8_canBe 3 [some (.ref 717), some (.int bits), some (.int d), some (.int (nI h)), some (.int way), some (.int b), some (.int (nI w))] [] KW x Q := by
    intro n
    induction n with
    | zero =>
      intro w hw2 g
      refine v_X8_canBe_3 km M.2.2.1 ht ⟨v0 (k := 0) (by decide) rfl rfl, fun _ => ?_, fun z => absurd (by rw [t0]; exact nI_le (by omega) (by omega)) z⟩
      exact (bP_k k).1 (fun i hi h1 h2 => g i (by have := hb i hi h1 h2; omega) h1 h2)
    | succ n ih =>
      intro w hw2 g
      have nx : (tb bits w = true → N ≤ w → ¬ gi x t (6 + 2 * h) ≤ nI (nW (gi x t) S w d (nI h) 0 wo) ∧ (¬ way = 1 → ¬ gi x t (7 + 2 * h) ≤ nI (nW (gi x t) S w d (nI h) 1 wo))) → GI mX8_canBe 3 [some (.ref 717), some (.int bits), some (.int d), some (.int (nI h)), some (.int way), some (.int b), some (.int (nI w + 1))] [] KW x Q := by
        intro gg
        rw [nI_1]
        refine ih (w + 1) (by omega) (fun i hi => ?_)
        by_cases c : i = w
        · rw [c]; exact gg
        · exact g i (by omega)
      refine v_X8_canBe_3 km M.2.2.1 ht ⟨v0 (k := 0) (by decide) rfl rfl, fun z => absurd (by rw [t0] at z; exact z) (nI_ge (by omega) (by omega)), fun _ => ⟨v0 (k := 4) (by decide) rfl rfl, ?_⟩⟩
      rw [f_has_tb _ (by omega), tb_and, t8, t0, tb_fn hW hN (by omega) (by omega)]
      refine ⟨fun z => ?_, fun z => nx (fun z1 z2 => absurd (by rw [z1, decide_eq_true (by omega)]; rfl) z)⟩
      simp only [Bool.and_eq_true, decide_eq_true_eq] at z
      refine sp_X8_loadBut M ht t4 hS (by omega) ⟨M.2.2.1, ?_⟩
      rw [ixh1, ixh, nI_clamp (show 6 + 2 * h < 2 ^ 31 by omega), nI_clamp (show 7 + 2 * h < 2 ^ 31 by omega), ldB_nW0 hwo S hS]
      refine ⟨vp_in_nI (by omega) (by decide), fun z2 => ⟨fun z3 => nx (fun _ _ => ⟨Int32.not_le.mpr z2, fun u => absurd (hw.resolve_left z3) u⟩), fun z3 => ?_⟩, fun z2 => ?_⟩
      · refine sp_X8_loadBut M ht t4 hS (by omega) ⟨M.2.2.1, vp_in_nI (by omega) (by decide), ?_⟩
        rw [ldB_nW1 hwo S hS]
        refine ⟨fun z4 => nx (fun _ _ => ⟨Int32.not_le.mpr z2, fun _ => Int32.not_le.mpr z4⟩), fun z4 => ?_⟩
        exact (bP_k k).2 (fun f => (f w (by omega) z.1 z.2.1).2 (by rw [z3]; decide) (Int32.not_lt.mp z4))
      · exact (bP_k k).2 (fun f => (f w (by omega) z.1 z.2.1).1 (Int32.not_lt.mp z2))
  exact v_X8_canBe_0 (key W 0 (by omega) (fun i hi => absurd hi (by omega)))
theorem sn_X8_canBeAt {x : Cn} {Q : Int32 → Cn → Prop} {T : TT} {n : Nat} {H : Nat → TT} (r : RS x T n H) {W C S N : Nat} (t0 : T 0 = nI W) (hW : W ≤ 30) (t4 : T 2 = nI S) (hS : S ≤ 24) (t8 : T 4 = nI N) (hN : N ≤ W) {s h : Nat} (hs : s < 24) (hh : h < 24) (w : Wse T C W s) (k : Q (bP (fitC T S N (so T s 1) h (so T s 3) (bas T s) (1 <<< (nI s &&& 31)))) x) : mSI mX8_canBeAt [.ref 717, .int (nI s), .int (nI h)] KW x Q := by
  refine v_X8_canBeAt_0 km r.1.2.2.1 km1 ⟨l24_nI (by omega) rfl, ?_⟩
  rw [nI_clamp (by omega)]
  have k' : Q (bP (fitC (gi x 718) S N (so T s 1) h (so T s 3) (bas T s) (1 <<< (nI s &&& 31)))) x := by rw [r.2.1]; exact k
  rw [r.2.1]
  exact sn_X8_canBe r.1 km1 (by rw [r.2.1]; exact t0) hW (by rw [r.2.1]; exact t4) hS (by rw [r.2.1]; exact t8) hN hh w.2.2.2.1 (fun i hi h1 h2 => bas_W w h1) (wo_1 (by omega)) ⟨bP_01 _, k'⟩
/-- two may change over -/
def csw (T : TT) (S N s t : Nat) : Prop := ¬ so T s 0 = so T t 0 ∧ fitC (swT T s t) S N (so (swT T s t) s 1) (shr (swT T s t) s) (so (swT T s t) s 3) (bas (swT T s t) s) ((1 <<< (nI s &&& 31)) ||| (1 <<< (nI t &&& 31))) ∧ fitC (swT T s t) S N (so (swT T s t) t 1) (shr (swT T s t) t) (so (swT T s t) t 3) (bas (swT T s t) t) (1 <<< (nI t &&& 31))
/-- one out by its day: as left out -/
theorem fitC_7 {T : TT} {S N s t d h : Nat} {way bits : Int32} (hS : S ≤ 24) (ht : t < 24) (hd : d < 7) (hh : h < 24) : fitC (uT T (62 + 12 * t + 1) 7) S N (nI d) h way bits (1 <<< (nI s &&& 31)) ↔ fitC T S N (nI d) h way bits ((1 <<< (nI s &&& 31)) ||| (1 <<< (nI t &&& 31))) := by
  have e : ∀ i io, nW (uT T (62 + 12 * t + 1) 7) S i (nI d) (nI h) io (1 <<< (nI s &&& 31)) = nW T S i (nI d) (nI h) io ((1 <<< (nI s &&& 31)) ||| (1 <<< (nI t &&& 31))) := by
    intro i io
    refine cnt_congr S (fun j hj => ?_)
    unfold cW
    by_cases c : j = t
    · subst c
      have e1 : so (uT T (62 + 12 * j + 1) 7) j 1 = 7 := by rw [so_uT _ _ _ _ _ _ (by decide) (by decide), if_pos ⟨rfl, rfl⟩]
      have n7 : ¬ (7 : Int32) = nI d := fun g => by
        have := (nI_eq (a := 7) (b := d) (by decide) (by omega)).mp g
        omega
      have t1 : tb ((1 : Int32) <<< (nI s &&& 31) ||| (1 <<< (nI j &&& 31))) j = true := by
        rw [tb_or, (wo_1 ht j ht).mpr rfl, Bool.or_true]
      rw [decide_eq_false (fun u => n7 (e1 ▸ u.1)), decide_eq_false (fun u => u.2.2.1 t1)]
      rfl
    · have e1 : ∀ k, k < 12 → so (uT T (62 + 12 * t + 1) 7) j k = so T j k := fun k hk => by rw [so_uT _ _ _ _ _ _ (by decide) hk, if_neg (fun u => c u.1)]
      have t1 : tb ((1 : Int32) <<< (nI t &&& 31)) j = false := by
        cases hq : tb ((1 : Int32) <<< (nI t &&& 31)) j
        · rfl
        · exact absurd ((nI_eq (by omega) (by omega)).mp ((wo_1 ht j (by omega)).mp hq)) c
      rw [e1 1 (by decide), e1 2 (by decide), e1 3 (by decide), bas_cg e1, tb_or, t1, Bool.or_false]
  have eT : ∀ i, i < 62 → uT T (62 + 12 * t + 1) 7 i = T i := fun i hi => uT_ne _ _ (by omega)
  unfold fitC
  simp only [e, eT (6 + 2 * h) (by omega), eT (7 + 2 * h) (by omega)]
set_option maxHeartbeats 2000000 in
theorem v_X5_changeOver_0 {K : Sh} {x : Cn} {Q : Cn → Prop} {b0 : Nat} {b1 : Nat}  (k_b0 : kk K b0 = some (5, 0)) (k_b1 : kk K b1 = some (5, 0)) (K0 : ∀ r_1 : Int32, r_1 = gi (ui (ui x b0 1 (gi x b1 1)) b0 2 (gi (ui x b0 1 (gi x b1 1)) b1 2)) b1 3 → (Q (ui (ui (ui (ui (ui (ui x b0 1 (gi x b1 1)) b0 2 (gi (ui x b0 1 (gi x b1 1)) b1 2)) b0 3 r_1) b1 1 (gi x b0 1)) b1 2 (gi x b0 2)) b1 3 (gi x b0 3)))) : mSV mX5_changeOver [.ref b0, .ref b1] K x Q := by
  refine s_V (by decide) (by simp [Value.category]) (Nat.le_of_ble_eq_true rfl) ?_
  show mGM mX5_changeOver 0 [some (.ref b0), some (.ref b1), none, none, none] [] (hp K x) (PV K Q)
  refine r_aload_n (pc := 0) dX5_changeOver_0 rfl ?_
  refine s_getI (pc := 1) dX5_changeOver_1 fl_X5_15 rfl k_b0 ?_
  refine r_istore_n (pc := 4) dX5_changeOver_4 (by decide) ?_
  refine r_aload_n (pc := 5) (L := [some (.ref b0), some (.ref b1), some (.int (gi x b0 1)), none, none]) dX5_changeOver_5 rfl ?_
  refine s_getI (pc := 6) dX5_changeOver_6 fl_X5_18 rfl k_b0 ?_
  refine r_istore_n (pc := 9) dX5_changeOver_9 (by decide) ?_
  refine r_aload_n (pc := 10) (L := [some (.ref b0), some (.ref b1), some (.int (gi x b0 1)), some (.int (gi x b0 2)), none]) dX5_changeOver_10 rfl ?_
  refine s_getI (pc := 11) dX5_changeOver_11 fl_X5_21 rfl k_b0 ?_
  refine r_istore (pc := 14) dX5_changeOver_14 (by decide) ?_
  refine r_aload_n (pc := 16) (L := [some (.ref b0), some (.ref b1), some (.int (gi x b0 1)), some (.int (gi x b0 2)), some (.int (gi x b0 3))]) dX5_changeOver_16 rfl ?_
  refine r_aload_n (pc := 17) dX5_changeOver_17 rfl ?_
  refine s_getI (pc := 18) dX5_changeOver_18 fl_X5_15 rfl k_b1 ?_
  refine s_putI (pc := 21) dX5_changeOver_21 fl_X5_15 rfl rfl k_b0 ?_
  refine r_aload_n (pc := 24) dX5_changeOver_24 rfl ?_
  refine r_aload_n (pc := 25) dX5_changeOver_25 rfl ?_
  refine s_getI (pc := 26) dX5_changeOver_26 fl_X5_18 rfl k_b1 ?_
  refine s_putI (pc := 29) dX5_changeOver_29 fl_X5_18 rfl rfl k_b0 ?_
  refine r_aload_n (pc := 32) dX5_changeOver_32 rfl ?_
  refine r_aload_n (pc := 33) dX5_changeOver_33 rfl ?_
  refine s_getI (pc := 34) dX5_changeOver_34 fl_X5_21 rfl k_b1 ?_
  obtain ⟨r_1, w_2⟩ : ∃ z : Int32, z = gi (ui (ui x b0 1 (gi x b1 1)) b0 2 (gi (ui x b0 1 (gi x b1 1)) b1 2)) b1 3 := ⟨_, rfl⟩
  rw [← w_2]
  have K0 := K0 r_1 w_2
  refine s_putI (pc := 37) dX5_changeOver_37 fl_X5_21 rfl rfl k_b0 ?_
  refine r_aload_n (pc := 40) dX5_changeOver_40 rfl ?_
  refine r_iload_n (pc := 41) dX5_changeOver_41 rfl ?_
  refine s_putI (pc := 42) dX5_changeOver_42 fl_X5_15 rfl rfl k_b1 ?_
  refine r_aload_n (pc := 45) dX5_changeOver_45 rfl ?_
  refine r_iload_n (pc := 46) dX5_changeOver_46 rfl ?_
  refine s_putI (pc := 47) dX5_changeOver_47 fl_X5_18 rfl rfl k_b1 ?_
  refine r_aload_n (pc := 50) dX5_changeOver_50 rfl ?_
  refine r_iload (pc := 51) dX5_changeOver_51 rfl ?_
  refine s_putI (pc := 53) dX5_changeOver_53 fl_X5_21 rfl rfl k_b1 ?_
  exact s_ret rfl dX5_changeOver_56 K0
section
theorem sp_X5_changeOver {x : Cn} {Q : Cn → Prop} {p p' : Nat} (h1 : kk KW p = some (5, 0)) (h2 : kk KW p' = some (5, 0)) (hne : p ≠ p') (k : ∀ z : Cn, z.2 = x.2 → (∀ b i, ¬ ((b = p ∨ b = p') ∧ 1 ≤ i ∧ i ≤ 3) → gi z b i = gi x b i) → (∀ i, 1 ≤ i → i ≤ 3 → gi z p i = gi x p' i ∧ gi z p' i = gi x p i) → Q z) : mSV mX5_changeOver [.ref p, .ref p'] KW x Q := by
  refine v_X5_changeOver_0 h1 h2 (fun r hr => ?_)
  have e2 : gi (ui x p 1 (gi x p' 1)) p' 2 = gi x p' 2 := by rw [gi_ui, if_neg (fun u => hne u.1.symm)]
  have e3 : r = gi x p' 3 := by
    rw [hr, gi_ui, if_neg (fun u => hne u.1.symm), gi_ui, if_neg (fun u => hne u.1.symm)]
  rw [e2, e3]
  refine k _ rfl (fun b i hb => ?_) (fun i i1 i3 => ?_)
  · simp only [gi_ui]
    rw [if_neg (fun u => hb ⟨Or.inr u.1, by omega⟩), if_neg (fun u => hb ⟨Or.inr u.1, by omega⟩), if_neg (fun u => hb ⟨Or.inr u.1, by omega⟩), if_neg (fun u => hb ⟨Or.inl u.1, by omega⟩), if_neg (fun u => hb ⟨Or.inl u.1, by omega⟩), if_neg (fun u => hb ⟨Or.inl u.1, by omega⟩)]
  · have : i = 1 ∨ i = 2 ∨ i = 3 := by omega
    have hne' : ¬ p' = p := fun u => hne u.symm
    rcases this with rfl | rfl | rfl <;> simp [gi_ui, hne, hne']
theorem AC.swp {x y z : Cn} {W C S A N n s t p p' : Nat} {T : TT} {H : Nat → TT} (a : AC x y W C S A N n T H) (hs : s < S) (ht : t < S) (hst : s ≠ t) (hp : gr y 5 s = some p) (hp' : gr y 5 t = some p') (h1 : z.2 = y.2) (h2 : ∀ b k, ¬ ((b = p ∨ b = p') ∧ 1 ≤ k ∧ k ≤ 3) → gi z b k = gi y b k) (h3 : ∀ k, 1 ≤ k → k ≤ 3 → gi z p k = gi y p' k ∧ gi z p' k = gi y p k) : AC x z W C S A N n (swT T s t) H := by
  have E := a.2.2.2.2
  have hS24 : S ≤ 24 := E.nums.2.2.2.2.2.2.1
  obtain ⟨j, hj, ej⟩ := E.2.1.2.2.2.2.2.1 s (by omega)
  have ep : p = 2 + 6 + j := Option.some.inj (hp.symm.trans ej)
  obtain ⟨j', hj', ej'⟩ := E.2.1.2.2.2.2.2.1 t (by omega)
  have ep' : p' = 2 + 6 + j' := Option.some.inj (hp'.symm.trans ej')
  exact a.up (fun b k g => h2 b k (by omega)) h1 (E.swp hs ht hst hp hp' h1 h2 h3)
end
set_option maxHeartbeats 2000000 in
theorem v_X7_whySwapFails_0 {K : Sh} {x : Cn} {Q : Int32 → Cn → Prop} {b0 : Nat} {l1 : Int32} {l2 : Int32} {b0_2 : Nat} {b0_2_7 : Nat} {n_b0_2_7 : Nat} (k_b0 : kk K b0 = some (7, 0)) (g_b0_2 : gr x b0 2 = some b0_2) (k_b0_2 : kk K b0_2 = some (4, 0)) (g_b0_2_7 : gr x b0_2 7 = some b0_2_7) (k_b0_2_7 : kk K b0_2_7 = some (23, n_b0_2_7)) (K0 : vp_in l1 n_b0_2_7 ∧ (∃ c_2 : Nat, gr x b0_2_7 ((l1 : Int32).toNatClampNeg) = some c_2 ∧ (vp_in l2 n_b0_2_7 ∧ (∃ c_5 : Nat, gr x b0_2_7 ((l2 : Int32).toNatClampNeg) = some c_5 ∧ (kk K c_2 = some (5, 0) ∧ ((¬ (gi x c_2 4) = 0 → (Q (-5) x)) ∧ ((gi x c_2 4) = 0 → (kk K c_5 = some (5, 0) ∧ (((gi x c_5 4) = 0 → ((¬ (gi x c_2 0) = (gi x c_5 0) → (mSV mX5_changeOver [.ref c_2, .ref c_5] K x (fun y_12 => gr y_12 b0 2 = some b0_2 ∧ (mSI mX4_hasPlace [.ref b0_2, .int (gi y_12 c_2 1), .int (gi y_12 c_2 2), .int (gi y_12 c_2 3), .int (f_held y_12 c_2), .int ((1 <<< (l1 &&& 31)) ||| (1 <<< (l2 &&& 31)))] K y_12 (fun r_15 y_14 => (r_15 = 0 → (mSV mX5_changeOver [.ref c_2, .ref c_5] K y_14 (fun y_17 => Q (-6) y_17))) ∧ (¬ r_15 = 0 → (gr y_14 b0 2 = some b0_2 ∧ (mSI mX4_hasPlace [.ref b0_2, .int (gi y_14 c_5 1), .int (gi y_14 c_5 2), .int (gi y_14 c_5 3), .int (f_held y_14 c_5), .int (1 <<< (l2 &&& 31))] K y_14 (fun r_20 y_19 => (r_20 = 0 → (mSV mX5_changeOver [.ref c_2, .ref c_5] K y_19 (fun y_22 => Q (-6) y_22))) ∧ (¬ r_20 = 0 → (mSV mX5_changeOver [.ref c_2, .ref c_5] K y_19 (fun y_23 => Q 0 y_23)))))))))))) ∧ ((gi x c_2 0) = (gi x c_5 0) → (Q (-6) x)))) ∧ (¬ (gi x c_5 4) = 0 → (Q (-5) x))))))))))) : mSI mX7_whySwapFails [.ref b0, .int l1, .int l2] K x Q := by
  refine s_I (by decide) (by simp [Value.category]) (Nat.le_of_ble_eq_true rfl) ?_
  show mGM mX7_whySwapFails 0 [some (.ref b0), some (.int l1), some (.int l2), none, none, none] [] (hp K x) (PI K Q)
  refine r_aload_n (pc := 0) dX7_whySwapFails_0 rfl ?_
  refine s_getR (pc := 1) dX7_whySwapFails_1 fl_X7_20 rfl k_b0 g_b0_2 ?_
  refine s_getR (pc := 4) dX7_whySwapFails_4 fl_X7_135 rfl k_b0_2 g_b0_2_7 ?_
  refine r_iload_n (pc := 7) dX7_whySwapFails_7 rfl ?_
  obtain ⟨i_1, K0⟩ := K0
  obtain ⟨c_2, g_3, K0⟩ := K0
  refine s_aald (pc := 8) dX7_whySwapFails_8 (by decide) rfl k_b0_2_7 i_1 g_3 ?_
  refine r_astore_n (pc := 9) dX7_whySwapFails_9 (by decide) ?_
  refine r_aload_n (pc := 10) (L := [some (.ref b0), some (.int l1), some (.int l2), some (.ref c_2), none, none]) dX7_whySwapFails_10 rfl ?_
  refine s_getR (pc := 11) dX7_whySwapFails_11 fl_X7_20 rfl k_b0 g_b0_2 ?_
  refine s_getR (pc := 14) dX7_whySwapFails_14 fl_X7_135 rfl k_b0_2 g_b0_2_7 ?_
  refine r_iload_n (pc := 17) dX7_whySwapFails_17 rfl ?_
  obtain ⟨i_4, K0⟩ := K0
  obtain ⟨c_5, g_6, K0⟩ := K0
  refine s_aald (pc := 18) dX7_whySwapFails_18 (by decide) rfl k_b0_2_7 i_4 g_6 ?_
  refine r_astore (pc := 19) dX7_whySwapFails_19 (by decide) ?_
  refine r_aload_n (pc := 21) (L := [some (.ref b0), some (.int l1), some (.int l2), some (.ref c_2), some (.ref c_5), none]) dX7_whySwapFails_21 rfl ?_
  obtain ⟨e_7, K0⟩ := K0
  refine s_getI (pc := 22) dX7_whySwapFails_22 fl_X7_153 rfl e_7 ?_
  refine r_if_ne (pc := 25) (tgt := 36) dX7_whySwapFails_25 (by decide) (fun q => ?_) (fun q => ?_)
  · have K0 := K0.1 q
    refine r_bipush (pc := 36) (v := (-5)) dX7_whySwapFails_36 (by decide) ?_
    exact s_iret rfl dX7_whySwapFails_38 K0
  · have K0 := K0.2 q
    refine r_aload (pc := 28) dX7_whySwapFails_28 rfl ?_
    obtain ⟨e_9, K0⟩ := K0
    refine s_getI (pc := 30) dX7_whySwapFails_30 fl_X7_153 rfl e_9 ?_
    refine r_if_eq (pc := 33) (tgt := 39) dX7_whySwapFails_33 (by decide) (fun q => ?_) (fun q => ?_)
    · have K0 := K0.1 q
      refine r_aload_n (pc := 39) dX7_whySwapFails_39 rfl ?_
      refine s_getI (pc := 40) dX7_whySwapFails_40 fl_X7_139 rfl e_7 ?_
      refine r_aload (pc := 43) dX7_whySwapFails_43 rfl ?_
      refine s_getI (pc := 45) dX7_whySwapFails_45 fl_X7_139 rfl e_9 ?_
      refine r_icmp_ne (pc := 48) (tgt := 54) dX7_whySwapFails_48 (by decide) (fun q => ?_) (fun q => ?_)
      · have K0 := K0.1 q
        refine r_aload_n (pc := 54) dX7_whySwapFails_54 rfl ?_
        refine r_aload (pc := 55) dX7_whySwapFails_55 rfl ?_
        refine s_VV (pc := 57) mX5_changeOver (ci := 5) (a := c_2) (As := [.ref c_5]) dX7_whySwapFails_57 lk_X7_354 in_X5_changeOver mo_X5_changeOver ⟨by decide, rfl⟩ ⟨by decide, by decide⟩ (Nat.le_of_ble_eq_true rfl) e_7 (mSV_mono K0 (fun y_12 K0 => ?_))
        refine r_aload_n (pc := 60) dX7_whySwapFails_60 rfl ?_
        obtain ⟨g_13, K0⟩ := K0
        refine s_getR (pc := 61) dX7_whySwapFails_61 fl_X7_20 rfl k_b0 g_13 ?_
        refine r_aload_n (pc := 64) dX7_whySwapFails_64 rfl ?_
        refine s_getI (pc := 65) dX7_whySwapFails_65 fl_X7_144 rfl e_7 ?_
        refine r_aload_n (pc := 68) dX7_whySwapFails_68 rfl ?_
        refine s_getI (pc := 69) dX7_whySwapFails_69 fl_X7_147 rfl e_7 ?_
        refine r_aload_n (pc := 72) dX7_whySwapFails_72 rfl ?_
        refine s_getI (pc := 73) dX7_whySwapFails_73 fl_X7_150 rfl e_7 ?_
        refine r_aload_n (pc := 76) dX7_whySwapFails_76 rfl ?_
        refine s_VI (pc := 77) mX5_heldBits (ci := 5) (a := c_2) (As := []) dX7_whySwapFails_77 lk_X7_272 in_X5_heldBits mo_X5_heldBits ⟨by decide, rfl⟩ ⟨by decide, by decide⟩ (Nat.le_of_ble_eq_true rfl) e_7 (sp_X5_heldBits e_7 ?_)
        refine r_iconst (pc := 80) (v := 1) dX7_whySwapFails_80 (by decide) ?_
        refine r_iload_n (pc := 81) dX7_whySwapFails_81 rfl ?_
        refine r_ishl (pc := 82) dX7_whySwapFails_82 ?_
        refine r_iconst (pc := 83) (v := 1) dX7_whySwapFails_83 (by decide) ?_
        refine r_iload_n (pc := 84) dX7_whySwapFails_84 rfl ?_
        refine r_ishl (pc := 85) dX7_whySwapFails_85 ?_
        refine r_ior (pc := 86) dX7_whySwapFails_86 ?_
        refine s_VI (pc := 87) mX4_hasPlace (ci := 4) (a := b0_2) (As := [.int (gi y_12 c_2 1), .int (gi y_12 c_2 2), .int (gi y_12 c_2 3), .int (f_held y_12 c_2), .int ((1 <<< (l1 &&& 31)) ||| (1 <<< (l2 &&& 31)))]) dX7_whySwapFails_87 lk_X7_295 in_X4_hasPlace mo_X4_hasPlace ⟨by decide, rfl⟩ ⟨by decide, by decide⟩ (Nat.le_of_ble_eq_true rfl) k_b0_2 (mSI_mono K0 (fun r_15 y_14 K0 => ?_))
        refine r_if_eq (pc := 90) (tgt := 130) dX7_whySwapFails_90 (by decide) (fun q => ?_) (fun q => ?_)
        · have K0 := K0.1 q
          refine r_iconst (pc := 130) (v := 0) dX7_whySwapFails_130 (by decide) ?_
          refine r_istore (pc := 131) dX7_whySwapFails_131 (by decide) ?_
          refine r_aload_n (pc := 133) (L := [some (.ref b0), some (.int l1), some (.int l2), some (.ref c_2), some (.ref c_5), some (.int 0)]) dX7_whySwapFails_133 rfl ?_
          refine r_aload (pc := 134) dX7_whySwapFails_134 rfl ?_
          refine s_VV (pc := 136) mX5_changeOver (ci := 5) (a := c_2) (As := [.ref c_5]) dX7_whySwapFails_136 lk_X7_354 in_X5_changeOver mo_X5_changeOver ⟨by decide, rfl⟩ ⟨by decide, by decide⟩ (Nat.le_of_ble_eq_true rfl) e_7 (mSV_mono K0 (fun y_17 K0 => ?_))
          refine r_iload (pc := 139) dX7_whySwapFails_139 rfl ?_
          refine r_if_eq (pc := 141) (tgt := 148) dX7_whySwapFails_141 (by decide) (fun _ => ?_) (fun q => by first | exact absurd q (by decide) | exact absurd (by decide) q)
          refine r_bipush (pc := 148) (v := (-6)) dX7_whySwapFails_148 (by decide) ?_
          exact s_iret rfl dX7_whySwapFails_150 K0
        · have K0 := K0.2 q
          refine r_aload_n (pc := 93) dX7_whySwapFails_93 rfl ?_
          obtain ⟨g_18, K0⟩ := K0
          refine s_getR (pc := 94) dX7_whySwapFails_94 fl_X7_20 rfl k_b0 g_18 ?_
          refine r_aload (pc := 97) dX7_whySwapFails_97 rfl ?_
          refine s_getI (pc := 99) dX7_whySwapFails_99 fl_X7_144 rfl e_9 ?_
          refine r_aload (pc := 102) dX7_whySwapFails_102 rfl ?_
          refine s_getI (pc := 104) dX7_whySwapFails_104 fl_X7_147 rfl e_9 ?_
          refine r_aload (pc := 107) dX7_whySwapFails_107 rfl ?_
          refine s_getI (pc := 109) dX7_whySwapFails_109 fl_X7_150 rfl e_9 ?_
          refine r_aload (pc := 112) dX7_whySwapFails_112 rfl ?_
          refine s_VI (pc := 114) mX5_heldBits (ci := 5) (a := c_5) (As := []) dX7_whySwapFails_114 lk_X7_272 in_X5_heldBits mo_X5_heldBits ⟨by decide, rfl⟩ ⟨by decide, by decide⟩ (Nat.le_of_ble_eq_true rfl) e_9 (sp_X5_heldBits e_9 ?_)
          refine r_iconst (pc := 117) (v := 1) dX7_whySwapFails_117 (by decide) ?_
          refine r_iload_n (pc := 118) dX7_whySwapFails_118 rfl ?_
          refine r_ishl (pc := 119) dX7_whySwapFails_119 ?_
          refine s_VI (pc := 120) mX4_hasPlace (ci := 4) (a := b0_2) (As := [.int (gi y_14 c_5 1), .int (gi y_14 c_5 2), .int (gi y_14 c_5 3), .int (f_held y_14 c_5), .int (1 <<< (l2 &&& 31))]) dX7_whySwapFails_120 lk_X7_295 in_X4_hasPlace mo_X4_hasPlace ⟨by decide, rfl⟩ ⟨by decide, by decide⟩ (Nat.le_of_ble_eq_true rfl) k_b0_2 (mSI_mono K0 (fun r_20 y_19 K0 => ?_))
          refine r_if_eq (pc := 123) (tgt := 130) dX7_whySwapFails_123 (by decide) (fun q => ?_) (fun q => ?_)
          · have K0 := K0.1 q
            refine r_iconst (pc := 130) (v := 0) dX7_whySwapFails_130 (by decide) ?_
            refine r_istore (pc := 131) dX7_whySwapFails_131 (by decide) ?_
            refine r_aload_n (pc := 133) (L := [some (.ref b0), some (.int l1), some (.int l2), some (.ref c_2), some (.ref c_5), some (.int 0)]) dX7_whySwapFails_133 rfl ?_
            refine r_aload (pc := 134) dX7_whySwapFails_134 rfl ?_
            refine s_VV (pc := 136) mX5_changeOver (ci := 5) (a := c_2) (As := [.ref c_5]) dX7_whySwapFails_136 lk_X7_354 in_X5_changeOver mo_X5_changeOver ⟨by decide, rfl⟩ ⟨by decide, by decide⟩ (Nat.le_of_ble_eq_true rfl) e_7 (mSV_mono K0 (fun y_22 K0 => ?_))
            refine r_iload (pc := 139) dX7_whySwapFails_139 rfl ?_
            refine r_if_eq (pc := 141) (tgt := 148) dX7_whySwapFails_141 (by decide) (fun _ => ?_) (fun q => by first | exact absurd q (by decide) | exact absurd (by decide) q)
            refine r_bipush (pc := 148) (v := (-6)) dX7_whySwapFails_148 (by decide) ?_
            exact s_iret rfl dX7_whySwapFails_150 K0
          · have K0 := K0.2 q
            refine r_iconst (pc := 126) (v := 1) dX7_whySwapFails_126 (by decide) ?_
            refine r_goto (pc := 127) (tgt := 131) dX7_whySwapFails_127 (by decide) ?_
            refine r_istore (pc := 131) dX7_whySwapFails_131 (by decide) ?_
            refine r_aload_n (pc := 133) (L := [some (.ref b0), some (.int l1), some (.int l2), some (.ref c_2), some (.ref c_5), some (.int 1)]) dX7_whySwapFails_133 rfl ?_
            refine r_aload (pc := 134) dX7_whySwapFails_134 rfl ?_
            refine s_VV (pc := 136) mX5_changeOver (ci := 5) (a := c_2) (As := [.ref c_5]) dX7_whySwapFails_136 lk_X7_354 in_X5_changeOver mo_X5_changeOver ⟨by decide, rfl⟩ ⟨by decide, by decide⟩ (Nat.le_of_ble_eq_true rfl) e_7 (mSV_mono K0 (fun y_23 K0 => ?_))
            refine r_iload (pc := 139) dX7_whySwapFails_139 rfl ?_
            refine r_if_eq (pc := 141) (tgt := 148) dX7_whySwapFails_141 (by decide) (fun q => by first | exact absurd q (by decide) | exact absurd (by decide) q) (fun _ => ?_)
            refine r_iconst (pc := 144) (v := 0) dX7_whySwapFails_144 (by decide) ?_
            refine r_goto (pc := 145) (tgt := 150) dX7_whySwapFails_145 (by decide) ?_
            exact s_iret rfl dX7_whySwapFails_150 K0
      · have K0 := K0.2 q
        refine r_bipush (pc := 51) (v := (-6)) dX7_whySwapFails_51 (by decide) ?_
        exact s_iret rfl dX7_whySwapFails_53 K0
    · have K0 := K0.2 q
      refine r_bipush (pc := 36) (v := (-5)) dX7_whySwapFails_36 (by decide) ?_
      exact s_iret rfl dX7_whySwapFails_38 K0
section
theorem sp_X7_whySwapFails {x y : Cn} {Q : Int32 → Cn → Prop} {W C S A N n s t : Nat} {T : TT} {H : Nat → TT} (a : AC x y W C S A N n T H) (hs : s < S) (ht : t < S) (k1 : ¬ (so T s 4 = 0 ∧ so T t 4 = 0) → Q (-5) y) (k2 : so T s 4 = 0 ∧ so T t 4 = 0 → ¬ csw T S N s t → ∀ z, AC x z W C S A N n T H → Q (-6) z) (k3 : so T s 4 = 0 ∧ so T t 4 = 0 → csw T S N s t → ∀ z, AC x z W C S A N n T H → Q 0 z) : mSI mX7_whySwapFails [.ref 0, .int (nI s), .int (nI t)] KW y Q := by
  have E := a.2.2.2.2
  have hS : S ≤ 24 := E.nums.2.2.2.2.2.2.1
  obtain ⟨p, p1, p2, p3, p4, p5, p6⟩ := E.ser hs
  obtain ⟨p', q1, q2, q3, q4, q5, q6⟩ := E.ser ht
  refine v_X7_whySwapFails_0 k0 a.2.1.2.1 (ks0 E.1) E.2.1.2.2.1 (ks3 E.1) ?_
  rw [nI_clamp (show s < 2 ^ 31 by omega), nI_clamp (show t < 2 ^ 31 by omega)]
  refine ⟨vp_in_nI (by omega) (by decide), p, p1, vp_in_nI (by omega) (by decide), p', q1, p2, ?_⟩
  rw [p3.1 4 (by decide) (by decide), q3.1 4 (by decide) (by decide), p3.1 0 (by decide) (by decide), q3.1 0 (by decide) (by decide)]
  refine ⟨fun z => k1 (fun u => z u.1), fun z1 => ⟨q2, fun z2 => ⟨fun z3 => ?_, fun z3 => k2 ⟨z1, z2⟩ (fun u => u.1 z3) y a⟩, fun z2 => k1 (fun u => z2 u.2)⟩⟩
  have hst : s ≠ t := fun u => z3 (by rw [u])
  have hne : p ≠ p' := fun u => hst (E.2.1.2.2.2.2.2.2.1 s t (by omega) (by omega) (by rw [p1, q1, u]))
  have back : ∀ (v : Cn) (G : Cn → Prop), AC x v W C S A N n (swT T s t) H → gr v 5 s = some p → gr v 5 t = some p' → (∀ w, AC x w W C S A N n T H → G w) → mSV mX5_changeOver [.ref p, .ref p'] KW v G := by
    intro v G av g1 g2 k
    refine sp_X5_changeOver p2 q2 hne (fun w w1 w2 w3 => k w ?_)
    have := av.swp hs ht hst g1 g2 w1 w2 w3
    rw [swT_swT hst] at this
    exact this
  refine sp_X5_changeOver p2 q2 hne (fun v v1 v2 v3 => ?_)
  have av := a.swp hs ht hst p1 q1 v1 v2 v3
  have hgv : ∀ b k, gr v b k = gr y b k := fun b k => by unfold gr; rw [v1]
  have Ev := av.2.2.2.2
  obtain ⟨p0, pp1, pp2, pp3, pp4, pp5, pp6⟩ := Ev.ser hs
  have e0 : p0 = p := Option.some.inj (pp1.symm.trans ((hgv 5 s).trans p1))
  subst e0
  have hd := pp6.dh
  refine ⟨av.2.1.2.1, ?_⟩
  rw [pp3.1 1 (by decide) (by decide), pp3.1 2 (by decide) (by decide), pp3.1 3 (by decide) (by decide), pp4, hd.2.2.2]
  refine sp_X4_hasPlace Ev hd.2.2.1 (fun w f => ?_)
  have aw := av.e7 f
  have hgw : ∀ b k, gr w b k = gr y b k := fun b k => by unfold gr; rw [f.1, v1]
  refine ⟨fun z => back w _ aw ((hgw 5 s).trans p1) ((hgw 5 t).trans q1) (k2 ⟨z1, z2⟩ (fun u => bP_z.mp z u.2.1)), fun z4 => ?_⟩
  have Ew := aw.2.2.2.2
  obtain ⟨p0', qq1, qq2, qq3, qq4, qq5, qq6⟩ := Ew.ser ht
  have e0' : p0' = p' := Option.some.inj (qq1.symm.trans ((hgw 5 t).trans q1))
  subst e0'
  have hd' := qq6.dh
  refine ⟨aw.2.1.2.1, ?_⟩
  rw [qq3.1 1 (by decide) (by decide), qq3.1 2 (by decide) (by decide), qq3.1 3 (by decide) (by decide), qq4, hd'.2.2.2]
  refine sp_X4_hasPlace Ew hd'.2.2.1 (fun w2 f2 => ?_)
  have aw2 := aw.e7 f2
  have hgw2 : ∀ b k, gr w2 b k = gr y b k := fun b k => by unfold gr; rw [f2.1, f.1, v1]
  refine ⟨fun z => back w2 _ aw2 ((hgw2 5 s).trans p1) ((hgw2 5 t).trans q1) (k2 ⟨z1, z2⟩ (fun u => bP_z.mp z u.2.2)), fun z5 => back w2 _ aw2 ((hgw2 5 s).trans p1) ((hgw2 5 t).trans q1) (k3 ⟨z1, z2⟩ ⟨z3, ?_, ?_⟩)⟩
  · exact Classical.byContradiction (fun g => z4 (bP_z.mpr g))
  · exact Classical.byContradiction (fun g => z5 (bP_z.mpr g))
end
set_option maxHeartbeats 2000000 in
theorem v_X8_changesOver_0 {K : Sh} {x : Cn} {Q : Cn → Prop} {b0 : Nat} {l1 : Int32} {l2 : Int32}   (K0 : GV mX8_changesOver 2 [some (.ref b0), some (.int l1), some (.int l2), some (.int 1), none] [] K x Q) : mSV mX8_changesOver [.ref b0, .int l1, .int l2] K x Q := by
  refine s_V (by decide) (by simp [Value.category]) (Nat.le_of_ble_eq_true rfl) ?_
  show mGM mX8_changesOver 0 [some (.ref b0), some (.int l1), some (.int l2), none, none] [] (hp K x) (PV K Q)
  refine r_iconst (pc := 0) (v := 1) dX8_changesOver_0 (by decide) ?_
  refine r_istore_n (pc := 1) dX8_changesOver_1 (by decide) ?_
  exact r_le (L' := [some (.ref b0), some (.int l1), some (.int l2), some (.int 1), none]) ⟨rfl, ⟨rfl, ⟨rfl, ⟨rfl, trivial⟩⟩⟩⟩ K0
set_option maxHeartbeats 2000000 in
theorem v_X8_changesOver_2 {K : Sh} {x : Cn} {Q : Cn → Prop} {b0 : Nat} {l1 : Int32} {l2 : Int32} {l3 : Int32} {b0_3 : Nat} {n_b0_3 : Nat} (k_b0 : kk K b0 = some (8, 0)) (g_b0_3 : gr x b0 3 = some b0_3) (k_b0_3 : kk K b0_3 = some (20, n_b0_3)) (K0 : (3 < l3 → (Q x)) ∧ (¬ 3 < l3 → ((l24 l1 n_b0_3) ∧ ((l12 l3) ∧ ((l24 l2 n_b0_3) ∧ (mSV mX8_lays [.ref b0, .int l1, .int l3, .int (so (gi x b0_3) (l2 : Int32).toNatClampNeg (l3 : Int32).toNatClampNeg)] K x (fun y_5 => mSV mX8_lays [.ref b0, .int l2, .int l3, .int (so (gi x b0_3) (l1 : Int32).toNatClampNeg (l3 : Int32).toNatClampNeg)] K y_5 (fun y_6 => GV mX8_changesOver 2 [some (.ref b0), some (.int l1), some (.int l2), some (.int (l3 + 1)), none] [] K y_6 Q)))))))) : GV mX8_changesOver 2 [some (.ref b0), some (.int l1), some (.int l2), some (.int l3), none] [] K x Q := by
  show mGM mX8_changesOver 2 [some (.ref b0), some (.int l1), some (.int l2), some (.int l3), none] [] (hp K x) (PV K Q)
  refine r_iload_n (pc := 2) dX8_changesOver_2 rfl ?_
  refine r_iconst (pc := 3) (v := 3) dX8_changesOver_3 (by decide) ?_
  refine r_icmp_gt (pc := 4) (tgt := 41) dX8_changesOver_4 (by decide) (fun q => ?_) (fun q => ?_)
  · have K0 := K0.1 q
    exact s_ret rfl dX8_changesOver_41 K0
  · have K0 := K0.2 q
    refine r_aload_n (pc := 7) dX8_changesOver_7 rfl ?_
    refine r_iload_n (pc := 8) dX8_changesOver_8 rfl ?_
    refine r_iload_n (pc := 9) dX8_changesOver_9 rfl ?_
    obtain ⟨p_2, K0⟩ := K0
    obtain ⟨p_3, K0⟩ := K0
    refine s_VI (pc := 10) mX8_one (ci := 8) (a := b0) (As := [.int l1, .int l3]) dX8_changesOver_10 lk_X8_67 in_X8_one mo_X8_one ⟨by decide, rfl⟩ ⟨by decide, by decide⟩ (Nat.le_of_ble_eq_true rfl) k_b0 (sr_X8_one k_b0 g_b0_3 k_b0_3 p_2 p_3 ?_)
    refine r_istore (pc := 13) dX8_changesOver_13 (by decide) ?_
    refine r_aload_n (pc := 15) (L := [some (.ref b0), some (.int l1), some (.int l2), some (.int l3), some (.int (so (gi x b0_3) (l1 : Int32).toNatClampNeg (l3 : Int32).toNatClampNeg))]) dX8_changesOver_15 rfl ?_
    refine r_iload_n (pc := 16) dX8_changesOver_16 rfl ?_
    refine r_iload_n (pc := 17) dX8_changesOver_17 rfl ?_
    refine r_aload_n (pc := 18) dX8_changesOver_18 rfl ?_
    refine r_iload_n (pc := 19) dX8_changesOver_19 rfl ?_
    refine r_iload_n (pc := 20) dX8_changesOver_20 rfl ?_
    obtain ⟨p_4, K0⟩ := K0
    refine s_VI (pc := 21) mX8_one (ci := 8) (a := b0) (As := [.int l2, .int l3]) dX8_changesOver_21 lk_X8_67 in_X8_one mo_X8_one ⟨by decide, rfl⟩ ⟨by decide, by decide⟩ (Nat.le_of_ble_eq_true rfl) k_b0 (sr_X8_one k_b0 g_b0_3 k_b0_3 p_4 p_3 ?_)
    refine s_VV (pc := 24) mX8_lays (ci := 8) (a := b0) (As := [.int l1, .int l3, .int (so (gi x b0_3) (l2 : Int32).toNatClampNeg (l3 : Int32).toNatClampNeg)]) dX8_changesOver_24 lk_X8_230 in_X8_lays mo_X8_lays ⟨by decide, rfl⟩ ⟨by decide, by decide⟩ (Nat.le_of_ble_eq_true rfl) k_b0 (mSV_mono K0 (fun y_5 K0 => ?_))
    refine r_aload_n (pc := 27) dX8_changesOver_27 rfl ?_
    refine r_iload_n (pc := 28) dX8_changesOver_28 rfl ?_
    refine r_iload_n (pc := 29) dX8_changesOver_29 rfl ?_
    refine r_iload (pc := 30) dX8_changesOver_30 rfl ?_
    refine s_VV (pc := 32) mX8_lays (ci := 8) (a := b0) (As := [.int l2, .int l3, .int (so (gi x b0_3) (l1 : Int32).toNatClampNeg (l3 : Int32).toNatClampNeg)]) dX8_changesOver_32 lk_X8_230 in_X8_lays mo_X8_lays ⟨by decide, rfl⟩ ⟨by decide, by decide⟩ (Nat.le_of_ble_eq_true rfl) k_b0 (mSV_mono K0 (fun y_6 K0 => ?_))
    refine r_iinc (pc := 35) (v := l3 + 1) dX8_changesOver_35 rfl rfl (by decide) ?_
    refine r_goto (pc := 38) (L := [some (.ref b0), some (.int l1), some (.int l2), some (.int (l3 + 1)), some (.int (so (gi x b0_3) (l1 : Int32).toNatClampNeg (l3 : Int32).toNatClampNeg))]) (tgt := 2) dX8_changesOver_38 (by decide) ?_
    exact r_le (L' := [some (.ref b0), some (.int l1), some (.int l2), some (.int (l3 + 1)), none]) ⟨rfl, ⟨rfl, ⟨rfl, ⟨rfl, trivial⟩⟩⟩⟩ K0
section
theorem sp_X8_changesOver {x : Cn} {Q : Cn → Prop} {n s t : Nat} {T : TT} {H : Nat → TT} (r : RS x T n H) (hs : s < 24) (ht : t < 24) (hst : s ≠ t) (q : ∀ y, RFr x y → RS y (swT T s t) n H → Q y) : mSV mX8_changesOver [.ref 717, .int (nI s), .int (nI t)] KW x Q := by
  have key : ∀ c m y, m + c = 4 → 1 ≤ m → RFr x y → RS y (swK T s t m) n H → GV mX8_changesOver 2 [some (.ref 717), some (.int (nI s)), some (.int (nI t)), some (.int (nI m)), none] [] KW y Q := by
    intro c
    induction c with
    | zero =>
      intro m y hm h0 f r1
      have : m = 4 := by omega
      subst this
      exact v_X8_changesOver_2 km r1.1.2.2.1 km1 ⟨fun _ => q y f r1, fun z => absurd (by decide) z⟩
    | succ c ih =>
      intro m y hm h0 f r1
      refine v_X8_changesOver_2 km r1.1.2.2.1 km1 ⟨fun z => absurd z (nI_nlt (a := 3) (b := m) (by omega) (by decide)), fun _ => ⟨l24_nI hs rfl, ⟨nI_pos' (by omega), nI_lt (b := 12) (by omega) (by decide)⟩, l24_nI ht rfl, ?_⟩⟩
      rw [nI_1, nI_clamp (show m < 2 ^ 31 by omega), nI_clamp (show s < 2 ^ 31 by omega), nI_clamp (show t < 2 ^ 31 by omega)]
      refine sp_X8_lays (k := m) r1.1 km1 hs (by omega) ?_
      have r2 := r1.u8 (k := 62 + 12 * s + m) (v := so (gi y 718) t m)
      refine sp_X8_lays (k := m) r2.1 km1 ht (by omega) (ih (m + 1) _ (by omega) (by omega) f.u8.u8 ?_)
      have r3 := r2.u8 (k := 62 + 12 * t + m) (v := so (gi y 718) s m)
      have e : uT (uT (swK T s t m) (62 + 12 * s + m) (so (gi y 718) t m)) (62 + 12 * t + m) (so (gi y 718) s m) = swK T s t (m + 1) := by
        funext i
        rw [r1.2.1, so_swN (by omega) (by omega) (by omega), so_swN (by omega) (by omega) (by omega)]
        unfold uT
        by_cases c1 : i = 62 + 12 * t + m
        · rw [if_pos c1]
          unfold swK so
          rw [if_neg (by omega), if_pos (by omega)]
          congr 1
          omega
        · rw [if_neg c1]
          by_cases c2 : i = 62 + 12 * s + m
          · rw [if_pos c2]
            unfold swK so
            rw [if_pos (by omega)]
            congr 1
            omega
          · rw [if_neg c2]
            unfold swK
            by_cases c3 : 63 + 12 * s ≤ i ∧ i < 62 + 12 * s + m
            · rw [if_pos c3, if_pos (by omega)]
            · rw [if_neg c3, if_neg (show ¬ (63 + 12 * s ≤ i ∧ i < 62 + 12 * s + (m + 1)) by omega)]
              by_cases c4 : 63 + 12 * t ≤ i ∧ i < 62 + 12 * t + m
              · rw [if_pos c4, if_pos (by omega)]
              · rw [if_neg c4, if_neg (by omega)]
      rw [e] at r3
      exact r3
  refine v_X8_changesOver_0 (key 3 1 x (by omega) (by omega) (RFr.rf x) ?_)
  have e : swK T s t 1 = T := by
    funext i
    unfold swK
    rw [if_neg (by omega), if_neg (by omega)]
  rw [e]
  exact r
end
set_option maxHeartbeats 2000000 in
theorem v_X8_canSwap_0 {K : Sh} {x : Cn} {Q : Int32 → Cn → Prop} {b0 : Nat} {l1 : Int32} {l2 : Int32} {b0_3 : Nat} {n_b0_3 : Nat} (k_b0 : kk K b0 = some (8, 0)) (g_b0_3 : gr x b0 3 = some b0_3) (k_b0_3 : kk K b0_3 = some (20, n_b0_3)) (K0 : (l24 l1 n_b0_3) ∧ ((l24 l2 n_b0_3) ∧ ((¬ (so (gi x b0_3) (l1 : Int32).toNatClampNeg 0) = (so (gi x b0_3) (l2 : Int32).toNatClampNeg 0) → (mSV mX8_changesOver [.ref b0, .int l1, .int l2] K x (fun y_4 => gr y_4 b0 3 = some b0_3 ∧ (mSV mX8_lays [.ref b0, .int l2, .int 1, .int 7] K y_4 (fun y_6 => gr y_6 b0 3 = some b0_3 ∧ (mSI mX8_canBeAt [.ref b0, .int l1, .int (so (gi y_6 b0_3) (l1 : Int32).toNatClampNeg 2)] K y_6 (fun r_9 y_8 => mSV mX8_lays [.ref b0, .int l2, .int 1, .int (so (gi y_4 b0_3) (l2 : Int32).toNatClampNeg 1)] K y_8 (fun y_10 => (r_9 = 0 → (mSV mX8_changesOver [.ref b0, .int l1, .int l2] K y_10 (fun y_12 => Q 0 y_12))) ∧ (¬ r_9 = 0 → (gr y_10 b0 3 = some b0_3 ∧ (mSI mX8_canBeAt [.ref b0, .int l2, .int (so (gi y_10 b0_3) (l2 : Int32).toNatClampNeg 2)] K y_10 (fun r_15 y_14 => (r_15 = 0 → (mSV mX8_changesOver [.ref b0, .int l1, .int l2] K y_14 (fun y_17 => Q 0 y_17))) ∧ (¬ r_15 = 0 → (mSV mX8_changesOver [.ref b0, .int l1, .int l2] K y_14 (fun y_18 => Q 1 y_18))))))))))))))) ∧ ((so (gi x b0_3) (l1 : Int32).toNatClampNeg 0) = (so (gi x b0_3) (l2 : Int32).toNatClampNeg 0) → (Q 0 x))))) : mSI mX8_canSwap [.ref b0, .int l1, .int l2] K x Q := by
  refine s_I (by decide) (by simp [Value.category]) (Nat.le_of_ble_eq_true rfl) ?_
  show mGM mX8_canSwap 0 [some (.ref b0), some (.int l1), some (.int l2), none, none] [] (hp K x) (PI K Q)
  refine r_aload_n (pc := 0) dX8_canSwap_0 rfl ?_
  refine r_iload_n (pc := 1) dX8_canSwap_1 rfl ?_
  refine r_iconst (pc := 2) (v := 0) dX8_canSwap_2 (by decide) ?_
  obtain ⟨p_1, K0⟩ := K0
  refine s_VI (pc := 3) mX8_one (ci := 8) (a := b0) (As := [.int l1, .int 0]) dX8_canSwap_3 lk_X8_67 in_X8_one mo_X8_one ⟨by decide, rfl⟩ ⟨by decide, by decide⟩ (Nat.le_of_ble_eq_true rfl) k_b0 (sr_X8_one k_b0 g_b0_3 k_b0_3 p_1 ⟨by decide, by decide⟩ ?_)
  refine r_aload_n (pc := 6) dX8_canSwap_6 rfl ?_
  refine r_iload_n (pc := 7) dX8_canSwap_7 rfl ?_
  refine r_iconst (pc := 8) (v := 0) dX8_canSwap_8 (by decide) ?_
  obtain ⟨p_2, K0⟩ := K0
  refine s_VI (pc := 9) mX8_one (ci := 8) (a := b0) (As := [.int l2, .int 0]) dX8_canSwap_9 lk_X8_67 in_X8_one mo_X8_one ⟨by decide, rfl⟩ ⟨by decide, by decide⟩ (Nat.le_of_ble_eq_true rfl) k_b0 (sr_X8_one k_b0 g_b0_3 k_b0_3 p_2 ⟨by decide, by decide⟩ ?_)
  refine r_icmp_ne (pc := 12) (tgt := 17) dX8_canSwap_12 (by decide) (fun q => ?_) (fun q => ?_)
  · have K0 := K0.1 q
    refine r_aload_n (pc := 17) dX8_canSwap_17 rfl ?_
    refine r_iload_n (pc := 18) dX8_canSwap_18 rfl ?_
    refine r_iload_n (pc := 19) dX8_canSwap_19 rfl ?_
    refine s_VV (pc := 20) mX8_changesOver (ci := 8) (a := b0) (As := [.int l1, .int l2]) dX8_canSwap_20 lk_X8_379 in_X8_changesOver mo_X8_changesOver ⟨by decide, rfl⟩ ⟨by decide, by decide⟩ (Nat.le_of_ble_eq_true rfl) k_b0 (mSV_mono K0 (fun y_4 K0 => ?_))
    refine r_aload_n (pc := 23) dX8_canSwap_23 rfl ?_
    refine r_iload_n (pc := 24) dX8_canSwap_24 rfl ?_
    refine r_iconst (pc := 25) (v := 1) dX8_canSwap_25 (by decide) ?_
    obtain ⟨g_5, K0⟩ := K0
    refine s_VI (pc := 26) mX8_one (ci := 8) (a := b0) (As := [.int l2, .int 1]) dX8_canSwap_26 lk_X8_67 in_X8_one mo_X8_one ⟨by decide, rfl⟩ ⟨by decide, by decide⟩ (Nat.le_of_ble_eq_true rfl) k_b0 (sr_X8_one k_b0 g_5 k_b0_3 p_2 ⟨by decide, by decide⟩ ?_)
    refine r_istore_n (pc := 29) dX8_canSwap_29 (by decide) ?_
    refine r_aload_n (pc := 30) (L := [some (.ref b0), some (.int l1), some (.int l2), some (.int (so (gi y_4 b0_3) (l2 : Int32).toNatClampNeg 1)), none]) dX8_canSwap_30 rfl ?_
    refine r_iload_n (pc := 31) dX8_canSwap_31 rfl ?_
    refine r_iconst (pc := 32) (v := 1) dX8_canSwap_32 (by decide) ?_
    refine r_bipush (pc := 33) (v := 7) dX8_canSwap_33 (by decide) ?_
    refine s_VV (pc := 35) mX8_lays (ci := 8) (a := b0) (As := [.int l2, .int 1, .int 7]) dX8_canSwap_35 lk_X8_230 in_X8_lays mo_X8_lays ⟨by decide, rfl⟩ ⟨by decide, by decide⟩ (Nat.le_of_ble_eq_true rfl) k_b0 (mSV_mono K0 (fun y_6 K0 => ?_))
    refine r_aload_n (pc := 38) dX8_canSwap_38 rfl ?_
    refine r_iload_n (pc := 39) dX8_canSwap_39 rfl ?_
    refine r_aload_n (pc := 40) dX8_canSwap_40 rfl ?_
    refine r_iload_n (pc := 41) dX8_canSwap_41 rfl ?_
    refine r_iconst (pc := 42) (v := 2) dX8_canSwap_42 (by decide) ?_
    obtain ⟨g_7, K0⟩ := K0
    refine s_VI (pc := 43) mX8_one (ci := 8) (a := b0) (As := [.int l1, .int 2]) dX8_canSwap_43 lk_X8_67 in_X8_one mo_X8_one ⟨by decide, rfl⟩ ⟨by decide, by decide⟩ (Nat.le_of_ble_eq_true rfl) k_b0 (sr_X8_one k_b0 g_7 k_b0_3 p_1 ⟨by decide, by decide⟩ ?_)
    refine s_VI (pc := 46) mX8_canBeAt (ci := 8) (a := b0) (As := [.int l1, .int (so (gi y_6 b0_3) (l1 : Int32).toNatClampNeg 2)]) dX8_canSwap_46 lk_X8_360 in_X8_canBeAt mo_X8_canBeAt ⟨by decide, rfl⟩ ⟨by decide, by decide⟩ (Nat.le_of_ble_eq_true rfl) k_b0 (mSI_mono K0 (fun r_9 y_8 K0 => ?_))
    refine r_istore (pc := 49) dX8_canSwap_49 (by decide) ?_
    refine r_aload_n (pc := 51) (L := [some (.ref b0), some (.int l1), some (.int l2), some (.int (so (gi y_4 b0_3) (l2 : Int32).toNatClampNeg 1)), some (.int r_9)]) dX8_canSwap_51 rfl ?_
    refine r_iload_n (pc := 52) dX8_canSwap_52 rfl ?_
    refine r_iconst (pc := 53) (v := 1) dX8_canSwap_53 (by decide) ?_
    refine r_iload_n (pc := 54) dX8_canSwap_54 rfl ?_
    refine s_VV (pc := 55) mX8_lays (ci := 8) (a := b0) (As := [.int l2, .int 1, .int (so (gi y_4 b0_3) (l2 : Int32).toNatClampNeg 1)]) dX8_canSwap_55 lk_X8_230 in_X8_lays mo_X8_lays ⟨by decide, rfl⟩ ⟨by decide, by decide⟩ (Nat.le_of_ble_eq_true rfl) k_b0 (mSV_mono K0 (fun y_10 K0 => ?_))
    refine r_iload (pc := 58) dX8_canSwap_58 rfl ?_
    refine r_if_eq (pc := 60) (tgt := 81) dX8_canSwap_60 (by decide) (fun q => ?_) (fun q => ?_)
    · have K0 := K0.1 q
      refine r_iconst (pc := 81) (v := 0) dX8_canSwap_81 (by decide) ?_
      refine r_istore (pc := 82) dX8_canSwap_82 (by decide) ?_
      refine r_aload_n (pc := 84) (L := [some (.ref b0), some (.int l1), some (.int l2), some (.int (so (gi y_4 b0_3) (l2 : Int32).toNatClampNeg 1)), some (.int 0)]) dX8_canSwap_84 rfl ?_
      refine r_iload_n (pc := 85) dX8_canSwap_85 rfl ?_
      refine r_iload_n (pc := 86) dX8_canSwap_86 rfl ?_
      refine s_VV (pc := 87) mX8_changesOver (ci := 8) (a := b0) (As := [.int l1, .int l2]) dX8_canSwap_87 lk_X8_379 in_X8_changesOver mo_X8_changesOver ⟨by decide, rfl⟩ ⟨by decide, by decide⟩ (Nat.le_of_ble_eq_true rfl) k_b0 (mSV_mono K0 (fun y_12 K0 => ?_))
      refine r_iload (pc := 90) dX8_canSwap_90 rfl ?_
      exact s_zret rfl (by decide) dX8_canSwap_92 K0
    · have K0 := K0.2 q
      refine r_aload_n (pc := 63) dX8_canSwap_63 rfl ?_
      refine r_iload_n (pc := 64) dX8_canSwap_64 rfl ?_
      refine r_aload_n (pc := 65) dX8_canSwap_65 rfl ?_
      refine r_iload_n (pc := 66) dX8_canSwap_66 rfl ?_
      refine r_iconst (pc := 67) (v := 2) dX8_canSwap_67 (by decide) ?_
      obtain ⟨g_13, K0⟩ := K0
      refine s_VI (pc := 68) mX8_one (ci := 8) (a := b0) (As := [.int l2, .int 2]) dX8_canSwap_68 lk_X8_67 in_X8_one mo_X8_one ⟨by decide, rfl⟩ ⟨by decide, by decide⟩ (Nat.le_of_ble_eq_true rfl) k_b0 (sr_X8_one k_b0 g_13 k_b0_3 p_2 ⟨by decide, by decide⟩ ?_)
      refine s_VI (pc := 71) mX8_canBeAt (ci := 8) (a := b0) (As := [.int l2, .int (so (gi y_10 b0_3) (l2 : Int32).toNatClampNeg 2)]) dX8_canSwap_71 lk_X8_360 in_X8_canBeAt mo_X8_canBeAt ⟨by decide, rfl⟩ ⟨by decide, by decide⟩ (Nat.le_of_ble_eq_true rfl) k_b0 (mSI_mono K0 (fun r_15 y_14 K0 => ?_))
      refine r_if_eq (pc := 74) (tgt := 81) dX8_canSwap_74 (by decide) (fun q => ?_) (fun q => ?_)
      · have K0 := K0.1 q
        refine r_iconst (pc := 81) (v := 0) dX8_canSwap_81 (by decide) ?_
        refine r_istore (pc := 82) dX8_canSwap_82 (by decide) ?_
        refine r_aload_n (pc := 84) (L := [some (.ref b0), some (.int l1), some (.int l2), some (.int (so (gi y_4 b0_3) (l2 : Int32).toNatClampNeg 1)), some (.int 0)]) dX8_canSwap_84 rfl ?_
        refine r_iload_n (pc := 85) dX8_canSwap_85 rfl ?_
        refine r_iload_n (pc := 86) dX8_canSwap_86 rfl ?_
        refine s_VV (pc := 87) mX8_changesOver (ci := 8) (a := b0) (As := [.int l1, .int l2]) dX8_canSwap_87 lk_X8_379 in_X8_changesOver mo_X8_changesOver ⟨by decide, rfl⟩ ⟨by decide, by decide⟩ (Nat.le_of_ble_eq_true rfl) k_b0 (mSV_mono K0 (fun y_17 K0 => ?_))
        refine r_iload (pc := 90) dX8_canSwap_90 rfl ?_
        exact s_zret rfl (by decide) dX8_canSwap_92 K0
      · have K0 := K0.2 q
        refine r_iconst (pc := 77) (v := 1) dX8_canSwap_77 (by decide) ?_
        refine r_goto (pc := 78) (tgt := 82) dX8_canSwap_78 (by decide) ?_
        refine r_istore (pc := 82) dX8_canSwap_82 (by decide) ?_
        refine r_aload_n (pc := 84) (L := [some (.ref b0), some (.int l1), some (.int l2), some (.int (so (gi y_4 b0_3) (l2 : Int32).toNatClampNeg 1)), some (.int 1)]) dX8_canSwap_84 rfl ?_
        refine r_iload_n (pc := 85) dX8_canSwap_85 rfl ?_
        refine r_iload_n (pc := 86) dX8_canSwap_86 rfl ?_
        refine s_VV (pc := 87) mX8_changesOver (ci := 8) (a := b0) (As := [.int l1, .int l2]) dX8_canSwap_87 lk_X8_379 in_X8_changesOver mo_X8_changesOver ⟨by decide, rfl⟩ ⟨by decide, by decide⟩ (Nat.le_of_ble_eq_true rfl) k_b0 (mSV_mono K0 (fun y_18 K0 => ?_))
        refine r_iload (pc := 90) dX8_canSwap_90 rfl ?_
        exact s_zret rfl (by decide) dX8_canSwap_92 K0
  · have K0 := K0.2 q
    refine r_iconst (pc := 15) (v := 0) dX8_canSwap_15 (by decide) ?_
    exact s_zret rfl (by decide) dX8_canSwap_16 K0
section
theorem sq_X8_canSwap {y : Cn} {Q : Int32 → Cn → Prop} {T : TT} {W C S A N n s t : Nat} {H : Nat → TT} (r : RS y T n H) (F : WF T W C S A N) (hs : s < S) (ht : t < S) (k : ∀ z, RFr y z → RS z T n H → Q (bP (csw T S N s t)) z) : mSI mX8_canSwap [.ref 717, .int (nI s), .int (nI t)] KW y Q := by
  have hS : S ≤ 24 := F.2.2.2.2.2.2.1
  have hW : W ≤ 30 := F.2.2.1
  have hN : N ≤ W := F.2.2.2.2.2.2.2.2.2.2.1
  refine v_X8_canSwap_0 km r.1.2.2.1 km1 ⟨l24_nI (by omega) rfl, l24_nI (by omega) rfl, ?_⟩
  rw [nI_clamp (show s < 2 ^ 31 by omega), nI_clamp (show t < 2 ^ 31 by omega)]
  have hno : ∀ z, RFr y z → RS z T n H → ¬ csw T S N s t → Q 0 z := fun z f r1 c => by
    have := k z f r1
    rw [bP_f c] at this
    exact this
  refine ⟨fun z1 => ?_, fun z1 => hno y (RFr.rf y) r (fun u => u.1 (by rw [r.2.1] at z1; exact z1))⟩
  rw [r.2.1] at z1
  have hst : s ≠ t := fun u => z1 (by rw [u])
  have F' := F.sw hst hs ht
  have ws := F'.2.2.2.2.2.2.2.2.2.2.2.2.1 s hs
  have wt := F'.2.2.2.2.2.2.2.2.2.2.2.2.1 t ht
  have hd := ws.dh
  have hd' := wt.dh
  refine sp_X8_changesOver r (by omega) (by omega) hst (fun v f1 r1 => ⟨r1.1.2.2.1, sp_X8_lays (k := 1) r1.1 km1 (by omega) (by decide) ?_⟩)
  have r2 := r1.u8 (k := 62 + 12 * t + 1) (v := 7)
  have es : ∀ k, k < 12 → so (uT (swT T s t) (62 + 12 * t + 1) 7) s k = so (swT T s t) s k := fun k hk => by rw [so_uT _ _ _ _ _ _ (by decide) hk, if_neg (fun u => hst u.1)]
  refine ⟨r2.1.2.2.1, ?_⟩
  rw [r2.2.1, es 2 (by decide), hd.2.2.2]
  refine sn_X8_canBeAt r2 (W := W) (C := C) (S := S) (N := N) (by rw [uT_ne _ _ (by omega)]; exact F'.1) hW (by rw [uT_ne _ _ (by omega)]; exact F'.2.2.2.2.2.1) hS (by rw [uT_ne _ _ (by omega)]; exact F'.2.2.2.2.2.2.2.2.2.1) hN (by omega) hd.2.2.1 (ws.cg es) ?_
  rw [es 1 (by decide), es 3 (by decide), bas_cg es, hd.2.1, bP_congr (fitC_7 hS (by omega) hd.1 hd.2.2.1)]
  refine sp_X8_lays (k := 1) r2.1 km1 (by omega) (by decide) ?_
  have r3 := r2.u8 (k := 62 + 12 * t + 1) (v := so (gi v 718) t 1)
  have e3 : uT (uT (swT T s t) (62 + 12 * t + 1) 7) (62 + 12 * t + 1) (so (gi v 718) t 1) = swT T s t := by
    rw [r1.2.1]
    funext i
    unfold uT
    by_cases c1 : i = 62 + 12 * t + 1
    · rw [if_pos c1, c1]; rfl
    · rw [if_neg c1, if_neg c1]
  rw [e3] at r3
  have f3 := (f1.u8 (k := 62 + 12 * t + 1) (v := 7)).u8 (k := 62 + 12 * t + 1) (v := so (gi v 718) t 1)
  have back : ∀ (w : Cn) (G : Cn → Prop), RS w (swT T s t) n H → (∀ u, RFr w u → RS u T n H → G u) → mSV mX8_changesOver [.ref 717, .int (nI s), .int (nI t)] KW w G := by
    intro w G rw1 kk1
    refine sp_X8_changesOver rw1 (by omega) (by omega) hst (fun u f r4 => kk1 u f ?_)
    rw [swT_swT hst] at r4
    exact r4
  refine ⟨fun z2 => back _ _ r3 (fun u f r4 => hno u (f3.tr f) r4 (fun g => bP_z.mp z2 (by rw [← hd.2.1]; exact g.2.1))), fun z2 => ⟨r3.1.2.2.1, ?_⟩⟩
  rw [r3.2.1, hd'.2.2.2]
  refine sn_X8_canBeAt r3 (W := W) (C := C) (S := S) (N := N) F'.1 hW F'.2.2.2.2.2.1 hS F'.2.2.2.2.2.2.2.2.2.1 hN (by omega) hd'.2.2.1 wt ?_
  refine ⟨fun z3 => back _ _ r3 (fun u f r4 => hno u (f3.tr f) r4 (fun g => bP_z.mp z3 g.2.2)), fun z3 => back _ _ r3 (fun u f r4 => ?_)⟩
  have yes : csw T S N s t := ⟨z1, by rw [hd.2.1]; exact Classical.byContradiction (fun g => z2 (bP_z.mpr g)), Classical.byContradiction (fun g => z3 (bP_z.mpr g))⟩
  have := k u (f3.tr f) r4
  rw [bP_t yes] at this
  exact this
end
set_option maxHeartbeats 2000000 in
theorem v_X7_swap_0 {K : Sh} {x : Cn} {Q : Int32 → Cn → Prop} {b0 : Nat} {l1 : Int32} {l2 : Int32} {b0_2 : Nat} (k_b0 : kk K b0 = some (7, 0)) (g_b0_2 : gr x b0 2 = some b0_2) (k_b0_2 : kk K b0_2 = some (4, 0)) (K0 : (¬ (0 ≤ l1 ∧ l1 < gi x b0_2 3) → (Q (-2) x)) ∧ ((0 ≤ l1 ∧ l1 < gi x b0_2 3) → (((0 ≤ l2 ∧ l2 < gi x b0_2 3) → (mSI mX7_whySwapFails [.ref b0, .int l1, .int l2] K x (fun r_4 y_3 => (r_4 = 0 → (mSV mX7_remember [.ref b0] K y_3 (fun y_6 => gr y_6 b0 2 = some b0_2 ∧ (∃ c_8 : Nat, gr y_6 b0_2 7 = some c_8 ∧ (∃ n_11 : Nat, kk K c_8 = some (23, n_11) ∧ (vp_in l1 n_11 ∧ (∃ c_13 : Nat, gr y_6 c_8 ((l1 : Int32).toNatClampNeg) = some c_13 ∧ (vp_in l2 n_11 ∧ (∃ c_16 : Nat, gr y_6 c_8 ((l2 : Int32).toNatClampNeg) = some c_16 ∧ (kk K c_13 = some (5, 0) ∧ (mSV mX5_changeOver [.ref c_13, .ref c_16] K y_6 (fun y_19 => Q 1 y_19)))))))))))) ∧ (¬ r_4 = 0 → (Q r_4 y_3))))) ∧ (¬ (0 ≤ l2 ∧ l2 < gi x b0_2 3) → (Q (-2) x))))) : mSI mX7_swap [.ref b0, .int l1, .int l2] K x Q := by
  refine s_I (by decide) (by simp [Value.category]) (Nat.le_of_ble_eq_true rfl) ?_
  show mGM mX7_swap 0 [some (.ref b0), some (.int l1), some (.int l2), none] [] (hp K x) (PI K Q)
  refine r_aload_n (pc := 0) dX7_swap_0 rfl ?_
  refine r_iload_n (pc := 1) dX7_swap_1 rfl ?_
  refine s_VI (pc := 2) mX7_isSeries (ci := 7) (a := b0) (As := [.int l1]) dX7_swap_2 lk_X7_132 in_X7_isSeries mo_X7_isSeries ⟨by decide, rfl⟩ ⟨by decide, by decide⟩ (Nat.le_of_ble_eq_true rfl) k_b0 (sp_X7_isSeries k_b0 g_b0_2 k_b0_2 ?_)
  refine r_if_eq (pc := 5) (tgt := 16) dX7_swap_5 (by decide) (fun q => ?_) (fun q => ?_)
  · have q := (b2i_z _).mp q
    have K0 := K0.1 q
    refine r_bipush (pc := 16) (v := (-2)) dX7_swap_16 (by decide) ?_
    exact s_iret rfl dX7_swap_18 K0
  · have q := b2i_nz q
    have K0 := K0.2 q
    refine r_aload_n (pc := 8) dX7_swap_8 rfl ?_
    refine r_iload_n (pc := 9) dX7_swap_9 rfl ?_
    refine s_VI (pc := 10) mX7_isSeries (ci := 7) (a := b0) (As := [.int l2]) dX7_swap_10 lk_X7_132 in_X7_isSeries mo_X7_isSeries ⟨by decide, rfl⟩ ⟨by decide, by decide⟩ (Nat.le_of_ble_eq_true rfl) k_b0 (sp_X7_isSeries k_b0 g_b0_2 k_b0_2 ?_)
    refine r_if_ne (pc := 13) (tgt := 19) dX7_swap_13 (by decide) (fun q => ?_) (fun q => ?_)
    · have q := b2i_nz q
      have K0 := K0.1 q
      refine r_aload_n (pc := 19) dX7_swap_19 rfl ?_
      refine r_iload_n (pc := 20) dX7_swap_20 rfl ?_
      refine r_iload_n (pc := 21) dX7_swap_21 rfl ?_
      refine s_VI (pc := 22) mX7_whySwapFails (ci := 7) (a := b0) (As := [.int l1, .int l2]) dX7_swap_22 lk_X7_330 in_X7_whySwapFails mo_X7_whySwapFails ⟨by decide, rfl⟩ ⟨by decide, by decide⟩ (Nat.le_of_ble_eq_true rfl) k_b0 (mSI_mono K0 (fun r_4 y_3 K0 => ?_))
      refine r_istore_n (pc := 25) dX7_swap_25 (by decide) ?_
      refine r_iload_n (pc := 26) (L := [some (.ref b0), some (.int l1), some (.int l2), some (.int r_4)]) dX7_swap_26 rfl ?_
      refine r_if_eq (pc := 27) (tgt := 32) dX7_swap_27 (by decide) (fun q => ?_) (fun q => ?_)
      · have K0 := K0.1 q
        refine r_aload_n (pc := 32) dX7_swap_32 rfl ?_
        refine s_VV (pc := 33) mX7_remember (ci := 7) (a := b0) (As := []) dX7_swap_33 lk_X7_333 in_X7_remember mo_X7_remember ⟨by decide, rfl⟩ ⟨by decide, by decide⟩ (Nat.le_of_ble_eq_true rfl) k_b0 (mSV_mono K0 (fun y_6 K0 => ?_))
        refine r_aload_n (pc := 36) dX7_swap_36 rfl ?_
        obtain ⟨g_7, K0⟩ := K0
        refine s_getR (pc := 37) dX7_swap_37 fl_X7_20 rfl k_b0 g_7 ?_
        obtain ⟨c_8, g_9, K0⟩ := K0
        refine s_getR (pc := 40) dX7_swap_40 fl_X7_135 rfl k_b0_2 g_9 ?_
        refine r_iload_n (pc := 43) dX7_swap_43 rfl ?_
        obtain ⟨n_11, e_10, K0⟩ := K0
        obtain ⟨i_12, K0⟩ := K0
        obtain ⟨c_13, g_14, K0⟩ := K0
        refine s_aald (pc := 44) dX7_swap_44 (by decide) rfl e_10 i_12 g_14 ?_
        refine r_aload_n (pc := 45) dX7_swap_45 rfl ?_
        refine s_getR (pc := 46) dX7_swap_46 fl_X7_20 rfl k_b0 g_7 ?_
        refine s_getR (pc := 49) dX7_swap_49 fl_X7_135 rfl k_b0_2 g_9 ?_
        refine r_iload_n (pc := 52) dX7_swap_52 rfl ?_
        obtain ⟨i_15, K0⟩ := K0
        obtain ⟨c_16, g_17, K0⟩ := K0
        refine s_aald (pc := 53) dX7_swap_53 (by decide) rfl e_10 i_15 g_17 ?_
        obtain ⟨e_18, K0⟩ := K0
        refine s_VV (pc := 54) mX5_changeOver (ci := 5) (a := c_13) (As := [.ref c_16]) dX7_swap_54 lk_X7_354 in_X5_changeOver mo_X5_changeOver ⟨by decide, rfl⟩ ⟨by decide, by decide⟩ (Nat.le_of_ble_eq_true rfl) e_18 (mSV_mono K0 (fun y_19 K0 => ?_))
        refine r_iconst (pc := 57) (v := 1) dX7_swap_57 (by decide) ?_
        exact s_iret rfl dX7_swap_58 K0
      · have K0 := K0.2 q
        refine r_iload_n (pc := 30) dX7_swap_30 rfl ?_
        exact s_iret rfl dX7_swap_31 K0
    · have q := (b2i_z _).mp q
      have K0 := K0.2 q
      refine r_bipush (pc := 16) (v := (-2)) dX7_swap_16 (by decide) ?_
      exact s_iret rfl dX7_swap_18 K0
set_option maxHeartbeats 2000000 in
theorem v_X8_swap_0 {K : Sh} {x : Cn} {Q : Int32 → Cn → Prop} {b0 : Nat} {l1 : Int32} {l2 : Int32} {b0_1 : Nat} {n_b0_1 : Nat} {b0_3 : Nat} {n_b0_3 : Nat} (k_b0 : kk K b0 = some (8, 0)) (g_b0_1 : gr x b0 1 = some b0_1) (k_b0_1 : kk K b0_1 = some (20, n_b0_1)) (g_b0_3 : gr x b0 3 = some b0_3) (k_b0_3 : kk K b0_3 = some (20, n_b0_3)) (K0 : vp_in 2 n_b0_1 ∧ ((¬ (0 ≤ l1 ∧ l1 ≤ gi x b0_1 2 - 1) → (Q (-2) x)) ∧ ((0 ≤ l1 ∧ l1 ≤ gi x b0_1 2 - 1) → (((0 ≤ l2 ∧ l2 ≤ gi x b0_1 2 - 1) → ((l24 l1 n_b0_3) ∧ (((so (gi x b0_3) (l1 : Int32).toNatClampNeg 4 = 1) → (Q (-5) x)) ∧ (¬ (so (gi x b0_3) (l1 : Int32).toNatClampNeg 4 = 1) → ((l24 l2 n_b0_3) ∧ ((¬ (so (gi x b0_3) (l2 : Int32).toNatClampNeg 4 = 1) → (mSI mX8_canSwap [.ref b0, .int l1, .int l2] K x (fun r_9 y_8 => (¬ r_9 = 0 → (mSV mX8_keeps [.ref b0] K y_8 (fun y_11 => mSV mX8_changesOver [.ref b0, .int l1, .int l2] K y_11 (fun y_12 => Q 1 y_12)))) ∧ (r_9 = 0 → (Q (-6) y_8))))) ∧ ((so (gi x b0_3) (l2 : Int32).toNatClampNeg 4 = 1) → (Q (-5) x)))))))) ∧ (¬ (0 ≤ l2 ∧ l2 ≤ gi x b0_1 2 - 1) → (Q (-2) x)))))) : mSI mX8_swap [.ref b0, .int l1, .int l2] K x Q := by
  refine s_I (by decide) (by simp [Value.category]) (Nat.le_of_ble_eq_true rfl) ?_
  show mGM mX8_swap 0 [some (.ref b0), some (.int l1), some (.int l2)] [] (hp K x) (PI K Q)
  refine r_aload_n (pc := 0) dX8_swap_0 rfl ?_
  refine r_iload_n (pc := 1) dX8_swap_1 rfl ?_
  obtain ⟨i_1, K0⟩ := K0
  refine s_VI (pc := 2) mX8_isSeries (ci := 8) (a := b0) (As := [.int l1]) dX8_swap_2 lk_X8_273 in_X8_isSeries mo_X8_isSeries ⟨by decide, rfl⟩ ⟨by decide, by decide⟩ (Nat.le_of_ble_eq_true rfl) k_b0 (sp_X8_isSeries k_b0 g_b0_1 k_b0_1 i_1 ?_)
  refine r_if_eq (pc := 5) (tgt := 16) dX8_swap_5 (by decide) (fun q => ?_) (fun q => ?_)
  · have q := (b2i_z _).mp q
    have K0 := K0.1 q
    refine r_bipush (pc := 16) (v := (-2)) dX8_swap_16 (by decide) ?_
    exact s_iret rfl dX8_swap_18 K0
  · have q := b2i_nz q
    have K0 := K0.2 q
    refine r_aload_n (pc := 8) dX8_swap_8 rfl ?_
    refine r_iload_n (pc := 9) dX8_swap_9 rfl ?_
    refine s_VI (pc := 10) mX8_isSeries (ci := 8) (a := b0) (As := [.int l2]) dX8_swap_10 lk_X8_273 in_X8_isSeries mo_X8_isSeries ⟨by decide, rfl⟩ ⟨by decide, by decide⟩ (Nat.le_of_ble_eq_true rfl) k_b0 (sp_X8_isSeries k_b0 g_b0_1 k_b0_1 i_1 ?_)
    refine r_if_ne (pc := 13) (tgt := 19) dX8_swap_13 (by decide) (fun q => ?_) (fun q => ?_)
    · have q := b2i_nz q
      have K0 := K0.1 q
      refine r_aload_n (pc := 19) dX8_swap_19 rfl ?_
      refine r_iload_n (pc := 20) dX8_swap_20 rfl ?_
      obtain ⟨p_4, K0⟩ := K0
      refine s_VI (pc := 21) mX8_isNew (ci := 8) (a := b0) (As := [.int l1]) dX8_swap_21 lk_X8_382 in_X8_isNew mo_X8_isNew ⟨by decide, rfl⟩ ⟨by decide, by decide⟩ (Nat.le_of_ble_eq_true rfl) k_b0 (sr_X8_isNew k_b0 g_b0_3 k_b0_3 p_4 ?_)
      refine r_if_ne (pc := 24) (tgt := 35) dX8_swap_24 (by decide) (fun q => ?_) (fun q => ?_)
      · have q := b2i_nz q
        have K0 := K0.1 q
        refine r_bipush (pc := 35) (v := (-5)) dX8_swap_35 (by decide) ?_
        exact s_iret rfl dX8_swap_37 K0
      · have q := (b2i_z _).mp q
        have K0 := K0.2 q
        refine r_aload_n (pc := 27) dX8_swap_27 rfl ?_
        refine r_iload_n (pc := 28) dX8_swap_28 rfl ?_
        obtain ⟨p_6, K0⟩ := K0
        refine s_VI (pc := 29) mX8_isNew (ci := 8) (a := b0) (As := [.int l2]) dX8_swap_29 lk_X8_382 in_X8_isNew mo_X8_isNew ⟨by decide, rfl⟩ ⟨by decide, by decide⟩ (Nat.le_of_ble_eq_true rfl) k_b0 (sr_X8_isNew k_b0 g_b0_3 k_b0_3 p_6 ?_)
        refine r_if_eq (pc := 32) (tgt := 38) dX8_swap_32 (by decide) (fun q => ?_) (fun q => ?_)
        · have q := (b2i_z _).mp q
          have K0 := K0.1 q
          refine r_aload_n (pc := 38) dX8_swap_38 rfl ?_
          refine r_iload_n (pc := 39) dX8_swap_39 rfl ?_
          refine r_iload_n (pc := 40) dX8_swap_40 rfl ?_
          refine s_VI (pc := 41) mX8_canSwap (ci := 8) (a := b0) (As := [.int l1, .int l2]) dX8_swap_41 lk_X8_385 in_X8_canSwap mo_X8_canSwap ⟨by decide, rfl⟩ ⟨by decide, by decide⟩ (Nat.le_of_ble_eq_true rfl) k_b0 (mSI_mono K0 (fun r_9 y_8 K0 => ?_))
          refine r_if_ne (pc := 44) (tgt := 50) dX8_swap_44 (by decide) (fun q => ?_) (fun q => ?_)
          · have K0 := K0.1 q
            refine r_aload_n (pc := 50) dX8_swap_50 rfl ?_
            refine s_VV (pc := 51) mX8_keeps (ci := 8) (a := b0) (As := []) dX8_swap_51 lk_X8_366 in_X8_keeps mo_X8_keeps ⟨by decide, rfl⟩ ⟨by decide, by decide⟩ (Nat.le_of_ble_eq_true rfl) k_b0 (mSV_mono K0 (fun y_11 K0 => ?_))
            refine r_aload_n (pc := 54) dX8_swap_54 rfl ?_
            refine r_iload_n (pc := 55) dX8_swap_55 rfl ?_
            refine r_iload_n (pc := 56) dX8_swap_56 rfl ?_
            refine s_VV (pc := 57) mX8_changesOver (ci := 8) (a := b0) (As := [.int l1, .int l2]) dX8_swap_57 lk_X8_379 in_X8_changesOver mo_X8_changesOver ⟨by decide, rfl⟩ ⟨by decide, by decide⟩ (Nat.le_of_ble_eq_true rfl) k_b0 (mSV_mono K0 (fun y_12 K0 => ?_))
            refine r_iconst (pc := 60) (v := 1) dX8_swap_60 (by decide) ?_
            exact s_iret rfl dX8_swap_61 K0
          · have K0 := K0.2 q
            refine r_bipush (pc := 47) (v := (-6)) dX8_swap_47 (by decide) ?_
            exact s_iret rfl dX8_swap_49 K0
        · have q := b2i_nz q
          have K0 := K0.2 q
          refine r_bipush (pc := 35) (v := (-5)) dX8_swap_35 (by decide) ?_
          exact s_iret rfl dX8_swap_37 K0
    · have q := (b2i_z _).mp q
      have K0 := K0.2 q
      refine r_bipush (pc := 16) (v := (-2)) dX8_swap_16 (by decide) ?_
      exact s_iret rfl dX8_swap_18 K0
section
theorem sq_X8_swap {y : Cn} {Q : Int32 → Cn → Prop} {T : TT} {W C S A N n : Nat} {H : Nat → TT} {a b : Int32} (r : RS y T n H) (F : WF T W C S A N) (k1 : ¬ ((0 ≤ a ∧ a < nI S) ∧ (0 ≤ b ∧ b < nI S)) → Q (-2) y) (k2 : ∀ s t, a = nI s → b = nI t → s < S → t < S → ¬ (so T s 4 = 0 ∧ so T t 4 = 0) → Q (-5) y) (k3 : ∀ s t, a = nI s → b = nI t → s < S → t < S → so T s 4 = 0 ∧ so T t 4 = 0 → ¬ csw T S N s t → ∀ z, RFr y z → RS z T n H → Q (-6) z) (k4 : ∀ s t, a = nI s → b = nI t → s < S → t < S → so T s 4 = 0 ∧ so T t 4 = 0 → csw T S N s t → ∀ z, RFr y z → RS z (swT T s t) (pn n) (push H n T) → Q 1 z) : mSI mX8_swap [.ref 717, .int a, .int b] KW y Q := by
  have hS : S ≤ 24 := F.2.2.2.2.2.2.1
  refine v_X8_swap_0 km r.1.1 km1 r.1.2.2.1 km1 ⟨v0 (k := 2) (by decide) rfl rfl, ?_⟩
  rw [r.2.1, F.2.2.2.2.2.1, inN' (by omega), inN' (by omega)]
  refine ⟨fun z => k1 (fun u => z u.1), fun z1 => ⟨fun z2 => ?_, fun z => k1 (fun u => z u.2)⟩⟩
  obtain ⟨s, hs, rfl⟩ := inN (by omega) z1
  obtain ⟨t, ht, rfl⟩ := inN (by omega) z2
  have o1 := (F.2.2.2.2.2.2.2.2.2.2.2.2.1 s hs).2.2.2.2.1
  have o2 := (F.2.2.2.2.2.2.2.2.2.2.2.2.1 t ht).2.2.2.2.1
  rw [nI_clamp (show s < 2 ^ 31 by omega), nI_clamp (show t < 2 ^ 31 by omega)]
  refine ⟨l24_nI (by omega) rfl, fun z3 => k2 s t rfl rfl hs ht (fun u => absurd (u.1.symm.trans z3) (by decide)), fun z3 => ⟨l24_nI (by omega) rfl, fun z4 => ?_, fun z4 => k2 s t rfl rfl hs ht (fun u => absurd (u.2.symm.trans z4) (by decide))⟩⟩
  have c0 : so T s 4 = 0 ∧ so T t 4 = 0 := ⟨o1.resolve_right z3, o2.resolve_right z4⟩
  refine sq_X8_canSwap r F hs ht (fun v f1 r1 => ⟨fun z5 => ?_, fun z5 => k3 s t rfl rfl hs ht c0 (bP_z.mp z5) v f1 r1⟩)
  have yes : csw T S N s t := Classical.byContradiction (fun g => z5 (bP_z.mpr g))
  have hst : s ≠ t := fun u => yes.1 (by rw [u])
  exact r1.keeps (fun w f2 r2 => sp_X8_changesOver r2 (by omega) (by omega) hst (fun u f3 r3 => k4 s t rfl rfl hs ht c0 yes u (f1.tr (f2.tr f3)) r3))
end
set_option maxHeartbeats 2000000 in
theorem v_X7_partners_0 {K : Sh} {x : Cn} {Q : Int32 → Cn → Prop} {b0 : Nat} {l1 : Int32} {b0_2 : Nat} (k_b0 : kk K b0 = some (7, 0)) (g_b0_2 : gr x b0 2 = some b0_2) (k_b0_2 : kk K b0_2 = some (4, 0)) (K0 : ((0 ≤ l1 ∧ l1 < gi x b0_2 3) → (GI mX7_partners 15 [some (.ref b0), some (.int l1), some (.int 0), some (.int 0)] [] K x Q)) ∧ (¬ (0 ≤ l1 ∧ l1 < gi x b0_2 3) → (Q (-2) x))) : mSI mX7_partners [.ref b0, .int l1] K x Q := by
  refine s_I (by decide) (by simp [Value.category]) (Nat.le_of_ble_eq_true rfl) ?_
  show mGM mX7_partners 0 [some (.ref b0), some (.int l1), none, none] [] (hp K x) (PI K Q)
  refine r_aload_n (pc := 0) dX7_partners_0 rfl ?_
  refine r_iload_n (pc := 1) dX7_partners_1 rfl ?_
  refine s_VI (pc := 2) mX7_isSeries (ci := 7) (a := b0) (As := [.int l1]) dX7_partners_2 lk_X7_132 in_X7_isSeries mo_X7_isSeries ⟨by decide, rfl⟩ ⟨by decide, by decide⟩ (Nat.le_of_ble_eq_true rfl) k_b0 (sp_X7_isSeries k_b0 g_b0_2 k_b0_2 ?_)
  refine r_if_ne (pc := 5) (tgt := 11) dX7_partners_5 (by decide) (fun q => ?_) (fun q => ?_)
  · have q := b2i_nz q
    have K0 := K0.1 q
    refine r_iconst (pc := 11) (v := 0) dX7_partners_11 (by decide) ?_
    refine r_istore_n (pc := 12) dX7_partners_12 (by decide) ?_
    refine r_iconst (pc := 13) (L := [some (.ref b0), some (.int l1), some (.int 0), none]) (v := 0) dX7_partners_13 (by decide) ?_
    refine r_istore_n (pc := 14) dX7_partners_14 (by decide) ?_
    exact r_le (L' := [some (.ref b0), some (.int l1), some (.int 0), some (.int 0)]) ⟨rfl, ⟨rfl, ⟨rfl, ⟨rfl, trivial⟩⟩⟩⟩ K0
  · have q := (b2i_z _).mp q
    have K0 := K0.2 q
    refine r_bipush (pc := 8) (v := (-2)) dX7_partners_8 (by decide) ?_
    exact s_iret rfl dX7_partners_10 K0
set_option maxHeartbeats 2000000 in
theorem v_X7_partners_15 {K : Sh} {x : Cn} {Q : Int32 → Cn → Prop} {b0 : Nat} {l1 : Int32} {l2 : Int32} {l3 : Int32} {b0_2 : Nat} (k_b0 : kk K b0 = some (7, 0)) (g_b0_2 : gr x b0 2 = some b0_2) (k_b0_2 : kk K b0_2 = some (4, 0)) (K0 : ((gi x b0_2 3) ≤ l3 → (Q l2 x)) ∧ (¬ (gi x b0_2 3) ≤ l3 → (mSI mX7_whySwapFails [.ref b0, .int l1, .int l3] K x (fun r_3 y_2 => (¬ r_3 = 0 → (GI mX7_partners 15 [some (.ref b0), some (.int l1), some (.int l2), some (.int (l3 + 1))] [] K y_2 Q)) ∧ (r_3 = 0 → (GI mX7_partners 15 [some (.ref b0), some (.int l1), some (.int (l2 ||| (1 <<< (l3 &&& 31)))), some (.int (l3 + 1))] [] K y_2 Q)))))) : GI mX7_partners 15 [some (.ref b0), some (.int l1), some (.int l2), some (.int l3)] [] K x Q := by
  show mGM mX7_partners 15 [some (.ref b0), some (.int l1), some (.int l2), some (.int l3)] [] (hp K x) (PI K Q)
  refine r_iload_n (pc := 15) dX7_partners_15 rfl ?_
  refine r_aload_n (pc := 16) dX7_partners_16 rfl ?_
  refine s_getR (pc := 17) dX7_partners_17 fl_X7_20 rfl k_b0 g_b0_2 ?_
  refine s_getI (pc := 20) dX7_partners_20 fl_X7_97 rfl k_b0_2 ?_
  refine r_icmp_ge (pc := 23) (tgt := 47) dX7_partners_23 (by decide) (fun q => ?_) (fun q => ?_)
  · have K0 := K0.1 q
    refine r_iload_n (pc := 47) dX7_partners_47 rfl ?_
    exact s_iret rfl dX7_partners_48 K0
  · have K0 := K0.2 q
    refine r_aload_n (pc := 26) dX7_partners_26 rfl ?_
    refine r_iload_n (pc := 27) dX7_partners_27 rfl ?_
    refine r_iload_n (pc := 28) dX7_partners_28 rfl ?_
    refine s_VI (pc := 29) mX7_whySwapFails (ci := 7) (a := b0) (As := [.int l1, .int l3]) dX7_partners_29 lk_X7_330 in_X7_whySwapFails mo_X7_whySwapFails ⟨by decide, rfl⟩ ⟨by decide, by decide⟩ (Nat.le_of_ble_eq_true rfl) k_b0 (mSI_mono K0 (fun r_3 y_2 K0 => ?_))
    refine r_if_ne (pc := 32) (tgt := 41) dX7_partners_32 (by decide) (fun q => ?_) (fun q => ?_)
    · have K0 := K0.1 q
      refine r_iinc (pc := 41) (v := l3 + 1) dX7_partners_41 rfl rfl (by decide) ?_
      refine r_goto (pc := 44) (L := [some (.ref b0), some (.int l1), some (.int l2), some (.int (l3 + 1))]) (tgt := 15) dX7_partners_44 (by decide) ?_
      exact r_le (L' := [some (.ref b0), some (.int l1), some (.int l2), some (.int (l3 + 1))]) ⟨rfl, ⟨rfl, ⟨rfl, ⟨rfl, trivial⟩⟩⟩⟩ K0
    · have K0 := K0.2 q
      refine r_iload_n (pc := 35) dX7_partners_35 rfl ?_
      refine r_iconst (pc := 36) (v := 1) dX7_partners_36 (by decide) ?_
      refine r_iload_n (pc := 37) dX7_partners_37 rfl ?_
      refine r_ishl (pc := 38) dX7_partners_38 ?_
      refine r_ior (pc := 39) dX7_partners_39 ?_
      refine r_istore_n (pc := 40) dX7_partners_40 (by decide) ?_
      refine r_iinc (pc := 41) (L := [some (.ref b0), some (.int l1), some (.int (l2 ||| (1 <<< (l3 &&& 31)))), some (.int l3)]) (v := l3 + 1) dX7_partners_41 rfl rfl (by decide) ?_
      refine r_goto (pc := 44) (L := [some (.ref b0), some (.int l1), some (.int (l2 ||| (1 <<< (l3 &&& 31)))), some (.int (l3 + 1))]) (tgt := 15) dX7_partners_44 (by decide) ?_
      exact r_le (L' := [some (.ref b0), some (.int l1), some (.int (l2 ||| (1 <<< (l3 &&& 31)))), some (.int (l3 + 1))]) ⟨rfl, ⟨rfl, ⟨rfl, ⟨rfl, trivial⟩⟩⟩⟩ K0
set_option maxHeartbeats 2000000 in
theorem v_X8_partners_0 {K : Sh} {x : Cn} {Q : Int32 → Cn → Prop} {b0 : Nat} {l1 : Int32} {b0_1 : Nat} {n_b0_1 : Nat} (k_b0 : kk K b0 = some (8, 0)) (g_b0_1 : gr x b0 1 = some b0_1) (k_b0_1 : kk K b0_1 = some (20, n_b0_1)) (K0 : vp_in 2 n_b0_1 ∧ (((0 ≤ l1 ∧ l1 ≤ gi x b0_1 2 - 1) → (GI mX8_partners 15 [some (.ref b0), some (.int l1), some (.int 0), some (.int 0)] [] K x Q)) ∧ (¬ (0 ≤ l1 ∧ l1 ≤ gi x b0_1 2 - 1) → (Q (-2) x)))) : mSI mX8_partners [.ref b0, .int l1] K x Q := by
  refine s_I (by decide) (by simp [Value.category]) (Nat.le_of_ble_eq_true rfl) ?_
  show mGM mX8_partners 0 [some (.ref b0), some (.int l1), none, none] [] (hp K x) (PI K Q)
  refine r_aload_n (pc := 0) dX8_partners_0 rfl ?_
  refine r_iload_n (pc := 1) dX8_partners_1 rfl ?_
  obtain ⟨i_1, K0⟩ := K0
  refine s_VI (pc := 2) mX8_isSeries (ci := 8) (a := b0) (As := [.int l1]) dX8_partners_2 lk_X8_273 in_X8_isSeries mo_X8_isSeries ⟨by decide, rfl⟩ ⟨by decide, by decide⟩ (Nat.le_of_ble_eq_true rfl) k_b0 (sp_X8_isSeries k_b0 g_b0_1 k_b0_1 i_1 ?_)
  refine r_if_ne (pc := 5) (tgt := 11) dX8_partners_5 (by decide) (fun q => ?_) (fun q => ?_)
  · have q := b2i_nz q
    have K0 := K0.1 q
    refine r_iconst (pc := 11) (v := 0) dX8_partners_11 (by decide) ?_
    refine r_istore_n (pc := 12) dX8_partners_12 (by decide) ?_
    refine r_iconst (pc := 13) (L := [some (.ref b0), some (.int l1), some (.int 0), none]) (v := 0) dX8_partners_13 (by decide) ?_
    refine r_istore_n (pc := 14) dX8_partners_14 (by decide) ?_
    exact r_le (L' := [some (.ref b0), some (.int l1), some (.int 0), some (.int 0)]) ⟨rfl, ⟨rfl, ⟨rfl, ⟨rfl, trivial⟩⟩⟩⟩ K0
  · have q := (b2i_z _).mp q
    have K0 := K0.2 q
    refine r_bipush (pc := 8) (v := (-2)) dX8_partners_8 (by decide) ?_
    exact s_iret rfl dX8_partners_10 K0
set_option maxHeartbeats 2000000 in
theorem v_X8_partners_15 {K : Sh} {x : Cn} {Q : Int32 → Cn → Prop} {b0 : Nat} {l1 : Int32} {l2 : Int32} {l3 : Int32} {b0_1 : Nat} {n_b0_1 : Nat} {b0_3 : Nat} {n_b0_3 : Nat} (k_b0 : kk K b0 = some (8, 0)) (g_b0_1 : gr x b0 1 = some b0_1) (k_b0_1 : kk K b0_1 = some (20, n_b0_1)) (g_b0_3 : gr x b0 3 = some b0_3) (k_b0_3 : kk K b0_3 = some (20, n_b0_3)) (K0 : vp_in 2 n_b0_1 ∧ (((gi x b0_1 2) ≤ l3 → (Q l2 x)) ∧ (¬ (gi x b0_1 2) ≤ l3 → ((l24 l1 n_b0_3) ∧ (((so (gi x b0_3) (l1 : Int32).toNatClampNeg 4 = 1) → (GI mX8_partners 15 [some (.ref b0), some (.int l1), some (.int (l2 ||| 0)), some (.int (l3 + 1))] [] K x Q)) ∧ (¬ (so (gi x b0_3) (l1 : Int32).toNatClampNeg 4 = 1) → ((l24 l3 n_b0_3) ∧ (((so (gi x b0_3) (l3 : Int32).toNatClampNeg 4 = 1) → (GI mX8_partners 15 [some (.ref b0), some (.int l1), some (.int (l2 ||| 0)), some (.int (l3 + 1))] [] K x Q)) ∧ (¬ (so (gi x b0_3) (l3 : Int32).toNatClampNeg 4 = 1) → (mSI mX8_canSwap [.ref b0, .int l1, .int l3] K x (fun r_8 y_7 => (r_8 = 0 → (GI mX8_partners 15 [some (.ref b0), some (.int l1), some (.int (l2 ||| 0)), some (.int (l3 + 1))] [] K y_7 Q)) ∧ (¬ r_8 = 0 → (GI mX8_partners 15 [some (.ref b0), some (.int l1), some (.int (l2 ||| (1 <<< (l3 &&& 31)))), some (.int (l3 + 1))] [] K y_7 Q))))))))))))) : GI mX8_partners 15 [some (.ref b0), some (.int l1), some (.int l2), some (.int l3)] [] K x Q := by
  show mGM mX8_partners 15 [some (.ref b0), some (.int l1), some (.int l2), some (.int l3)] [] (hp K x) (PI K Q)
  refine r_iload_n (pc := 15) dX8_partners_15 rfl ?_
  refine r_aload_n (pc := 16) dX8_partners_16 rfl ?_
  refine s_getR (pc := 17) dX8_partners_17 fl_X8_9 rfl k_b0 g_b0_1 ?_
  refine r_iconst (pc := 20) (v := 2) dX8_partners_20 (by decide) ?_
  obtain ⟨i_1, K0⟩ := K0
  refine s_iald (pc := 21) dX8_partners_21 k_b0_1 i_1 ?_
  refine r_icmp_ge (pc := 22) (tgt := 66) dX8_partners_22 (by decide) (fun q => ?_) (fun q => ?_)
  · have K0 := K0.1 q
    refine r_iload_n (pc := 66) dX8_partners_66 rfl ?_
    exact s_iret rfl dX8_partners_67 K0
  · have K0 := K0.2 q
    refine r_iload_n (pc := 25) dX8_partners_25 rfl ?_
    refine r_aload_n (pc := 26) dX8_partners_26 rfl ?_
    refine r_iload_n (pc := 27) dX8_partners_27 rfl ?_
    obtain ⟨p_3, K0⟩ := K0
    refine s_VI (pc := 28) mX8_isNew (ci := 8) (a := b0) (As := [.int l1]) dX8_partners_28 lk_X8_382 in_X8_isNew mo_X8_isNew ⟨by decide, rfl⟩ ⟨by decide, by decide⟩ (Nat.le_of_ble_eq_true rfl) k_b0 (sr_X8_isNew k_b0 g_b0_3 k_b0_3 p_3 ?_)
    refine r_if_ne (pc := 31) (tgt := 57) dX8_partners_31 (by decide) (fun q => ?_) (fun q => ?_)
    · have q := b2i_nz q
      have K0 := K0.1 q
      refine r_iconst (pc := 57) (v := 0) dX8_partners_57 (by decide) ?_
      refine r_ior (pc := 58) dX8_partners_58 ?_
      refine r_istore_n (pc := 59) dX8_partners_59 (by decide) ?_
      refine r_iinc (pc := 60) (L := [some (.ref b0), some (.int l1), some (.int (l2 ||| 0)), some (.int l3)]) (v := l3 + 1) dX8_partners_60 rfl rfl (by decide) ?_
      refine r_goto (pc := 63) (L := [some (.ref b0), some (.int l1), some (.int (l2 ||| 0)), some (.int (l3 + 1))]) (tgt := 15) dX8_partners_63 (by decide) ?_
      exact r_le (L' := [some (.ref b0), some (.int l1), some (.int (l2 ||| 0)), some (.int (l3 + 1))]) ⟨rfl, ⟨rfl, ⟨rfl, ⟨rfl, trivial⟩⟩⟩⟩ K0
    · have q := (b2i_z _).mp q
      have K0 := K0.2 q
      refine r_aload_n (pc := 34) dX8_partners_34 rfl ?_
      refine r_iload_n (pc := 35) dX8_partners_35 rfl ?_
      obtain ⟨p_5, K0⟩ := K0
      refine s_VI (pc := 36) mX8_isNew (ci := 8) (a := b0) (As := [.int l3]) dX8_partners_36 lk_X8_382 in_X8_isNew mo_X8_isNew ⟨by decide, rfl⟩ ⟨by decide, by decide⟩ (Nat.le_of_ble_eq_true rfl) k_b0 (sr_X8_isNew k_b0 g_b0_3 k_b0_3 p_5 ?_)
      refine r_if_ne (pc := 39) (tgt := 57) dX8_partners_39 (by decide) (fun q => ?_) (fun q => ?_)
      · have q := b2i_nz q
        have K0 := K0.1 q
        refine r_iconst (pc := 57) (v := 0) dX8_partners_57 (by decide) ?_
        refine r_ior (pc := 58) dX8_partners_58 ?_
        refine r_istore_n (pc := 59) dX8_partners_59 (by decide) ?_
        refine r_iinc (pc := 60) (L := [some (.ref b0), some (.int l1), some (.int (l2 ||| 0)), some (.int l3)]) (v := l3 + 1) dX8_partners_60 rfl rfl (by decide) ?_
        refine r_goto (pc := 63) (L := [some (.ref b0), some (.int l1), some (.int (l2 ||| 0)), some (.int (l3 + 1))]) (tgt := 15) dX8_partners_63 (by decide) ?_
        exact r_le (L' := [some (.ref b0), some (.int l1), some (.int (l2 ||| 0)), some (.int (l3 + 1))]) ⟨rfl, ⟨rfl, ⟨rfl, ⟨rfl, trivial⟩⟩⟩⟩ K0
      · have q := (b2i_z _).mp q
        have K0 := K0.2 q
        refine r_aload_n (pc := 42) dX8_partners_42 rfl ?_
        refine r_iload_n (pc := 43) dX8_partners_43 rfl ?_
        refine r_iload_n (pc := 44) dX8_partners_44 rfl ?_
        refine s_VI (pc := 45) mX8_canSwap (ci := 8) (a := b0) (As := [.int l1, .int l3]) dX8_partners_45 lk_X8_385 in_X8_canSwap mo_X8_canSwap ⟨by decide, rfl⟩ ⟨by decide, by decide⟩ (Nat.le_of_ble_eq_true rfl) k_b0 (mSI_mono K0 (fun r_8 y_7 K0 => ?_))
        refine r_if_eq (pc := 48) (tgt := 57) dX8_partners_48 (by decide) (fun q => ?_) (fun q => ?_)
        · have K0 := K0.1 q
          refine r_iconst (pc := 57) (v := 0) dX8_partners_57 (by decide) ?_
          refine r_ior (pc := 58) dX8_partners_58 ?_
          refine r_istore_n (pc := 59) dX8_partners_59 (by decide) ?_
          refine r_iinc (pc := 60) (L := [some (.ref b0), some (.int l1), some (.int (l2 ||| 0)), some (.int l3)]) (v := l3 + 1) dX8_partners_60 rfl rfl (by decide) ?_
          refine r_goto (pc := 63) (L := [some (.ref b0), some (.int l1), some (.int (l2 ||| 0)), some (.int (l3 + 1))]) (tgt := 15) dX8_partners_63 (by decide) ?_
          exact r_le (L' := [some (.ref b0), some (.int l1), some (.int (l2 ||| 0)), some (.int (l3 + 1))]) ⟨rfl, ⟨rfl, ⟨rfl, ⟨rfl, trivial⟩⟩⟩⟩ K0
        · have K0 := K0.2 q
          refine r_iconst (pc := 51) (v := 1) dX8_partners_51 (by decide) ?_
          refine r_iload_n (pc := 52) dX8_partners_52 rfl ?_
          refine r_ishl (pc := 53) dX8_partners_53 ?_
          refine r_goto (pc := 54) (tgt := 58) dX8_partners_54 (by decide) ?_
          refine r_ior (pc := 58) dX8_partners_58 ?_
          refine r_istore_n (pc := 59) dX8_partners_59 (by decide) ?_
          refine r_iinc (pc := 60) (L := [some (.ref b0), some (.int l1), some (.int (l2 ||| (1 <<< (l3 &&& 31)))), some (.int l3)]) (v := l3 + 1) dX8_partners_60 rfl rfl (by decide) ?_
          refine r_goto (pc := 63) (L := [some (.ref b0), some (.int l1), some (.int (l2 ||| (1 <<< (l3 &&& 31)))), some (.int (l3 + 1))]) (tgt := 15) dX8_partners_63 (by decide) ?_
          exact r_le (L' := [some (.ref b0), some (.int l1), some (.int (l2 ||| (1 <<< (l3 &&& 31)))), some (.int (l3 + 1))]) ⟨rfl, ⟨rfl, ⟨rfl, ⟨rfl, trivial⟩⟩⟩⟩ K0
theorem eq_swap (a b : Int32) : Both mX7_swap mX8_swap [.int a, .int b] := by
  intro x R
  obtain ⟨W, C, S, A, N, n, H, ac, rs, nm⟩ := R.ac
  have E := ac.2.2.2.2
  have hn := E.nums
  have hS : S ≤ 24 := hn.2.2.2.2.2.2.1
  have hC : C ≤ 8 := hn.2.2.2.2.2.1
  refine v_X7_swap_0 k0 R.1.2.1 (ks0 E.1) ?_
  rw [hn.2.2.1]
  have no : ¬ ((0 ≤ a ∧ a < nI S) ∧ (0 ≤ b ∧ b < nI S)) → mSI mX8_swap [.ref 717, .int a, .int b] KW x (fun r' z => -2 = r' ∧ Rel z) := fun z => by
    have h0 : ∀ s t, a = nI s → b = nI t → s < S → t < S → False := fun s t e1 e2 hs ht => z ⟨by rw [e1]; exact ⟨nI_pos' (by omega), nI_lt hs (by omega)⟩, by rw [e2]; exact ⟨nI_pos' (by omega), nI_lt ht (by omega)⟩⟩
    exact sq_X8_swap rs E.2.2.2 (fun _ => ⟨rfl, R⟩) (fun s t e1 e2 hs ht => (h0 s t e1 e2 hs ht).elim) (fun s t e1 e2 hs ht => (h0 s t e1 e2 hs ht).elim) (fun s t e1 e2 hs ht => (h0 s t e1 e2 hs ht).elim)
  refine ⟨fun z => no (fun u => z u.1), fun z1 => ⟨fun z2 => ?_, fun z => no (fun u => z u.2)⟩⟩
  obtain ⟨s, hs, rfl⟩ := inN (by omega) z1
  obtain ⟨t, ht, rfl⟩ := inN (by omega) z2
  have un : ∀ s' t', nI s = nI s' → nI t = nI t' → s' < S → t' < S → s' = s ∧ t' = t := fun s' t' e1 e2 h1 h2 => ⟨((nI_eq (by omega) (by omega)).mp e1).symm, ((nI_eq (by omega) (by omega)).mp e2).symm⟩
  refine sp_X7_whySwapFails ac hs ht (fun c => ⟨fun z => absurd z (by decide), fun _ => ?_⟩) (fun c0 c v av => ⟨fun z => absurd z (by decide), fun _ => ?_⟩) (fun c0 c v av => ⟨fun _ => ?_, fun z => absurd rfl z⟩)
  · refine sq_X8_swap rs E.2.2.2 (fun u => absurd ⟨z1, z2⟩ u) (fun s' t' e1 e2 hs' ht' _ => ⟨rfl, R⟩) (fun s' t' e1 e2 hs' ht' c1 => ?_) (fun s' t' e1 e2 hs' ht' c1 => ?_)
    · obtain ⟨rfl, rfl⟩ := un s' t' e1 e2 hs' ht'; exact absurd c1 c
    · obtain ⟨rfl, rfl⟩ := un s' t' e1 e2 hs' ht'; exact absurd c1 c
  · refine sq_X8_swap (av.rs rs) E.2.2.2 (fun u => absurd ⟨z1, z2⟩ u) (fun s' t' e1 e2 hs' ht' c1 => ?_) (fun s' t' e1 e2 hs' ht' c1 c2 w f2 r2 => ⟨rfl, av.fin R nm (fun _ _ => rfl) f2 r2⟩) (fun s' t' e1 e2 hs' ht' c1 c2 => ?_)
    · obtain ⟨rfl, rfl⟩ := un s' t' e1 e2 hs' ht'; exact absurd c0 c1
    · obtain ⟨rfl, rfl⟩ := un s' t' e1 e2 hs' ht'; exact absurd c2 c
  · refine av.rem (fun _ _ => rfl) (fun y ay y1 y2 => ?_)
    have Ey := ay.2.2.2.2
    obtain ⟨p, p1, p2, p3, p4, p5, p6⟩ := Ey.ser hs
    obtain ⟨p', q1, q2, q3, q4, q5, q6⟩ := Ey.ser ht
    have hst : s ≠ t := fun u => c.1 (by rw [u])
    have hne : p ≠ p' := fun u => hst (Ey.2.1.2.2.2.2.2.2.1 s t (by omega) (by omega) (by rw [p1, q1, u]))
    rw [nI_clamp (show s < 2 ^ 31 by omega), nI_clamp (show t < 2 ^ 31 by omega)]
    refine ⟨ay.2.1.2.1, 5, Ey.2.1.2.2.1, 24, ks3 E.1, vp_in_nI (by omega) (by decide), p, p1, vp_in_nI (by omega) (by decide), p', q1, p2, sp_X5_changeOver p2 q2 hne (fun w w1 w2 w3 => ?_)⟩
    have aw := ay.swp hs ht hst p1 q1 w1 w2 w3
    refine sq_X8_swap (aw.rs rs) E.2.2.2 (fun u => absurd ⟨z1, z2⟩ u) (fun s' t' e1 e2 hs' ht' c1 => ?_) (fun s' t' e1 e2 hs' ht' c1 c2 => ?_) (fun s' t' e1 e2 hs' ht' c1 c2 u f2 r2 => ⟨rfl, ?_⟩)
    · obtain ⟨rfl, rfl⟩ := un s' t' e1 e2 hs' ht'; exact absurd c0 c1
    · obtain ⟨rfl, rfl⟩ := un s' t' e1 e2 hs' ht'; exact absurd c c2
    · obtain ⟨rfl, rfl⟩ := un s' t' e1 e2 hs' ht'
      exact aw.fin R nm (fun c hc => swK_off (by omega) (by omega) (by decide) (by omega)) f2 r2
theorem eq_partners (a : Int32) : Both mX7_partners mX8_partners [.int a] := by
  intro x R
  obtain ⟨W, C, S, A, N, n, H, ac, rs, nm⟩ := R.ac
  have E := ac.2.2.2.2
  have hn := E.nums
  have hS : S ≤ 24 := hn.2.2.2.2.2.2.1
  have F := E.2.2.2
  have t2 : gi x 718 2 = nI S := F.2.2.2.2.2.1
  refine v_X7_partners_0 k0 R.1.2.1 (ks0 E.1) ?_
  rw [hn.2.2.1]
  refine ⟨fun z => ?_, fun z => v_X8_partners_0 km rs.1.1 km1 ⟨v0 (k := 2) (by decide) rfl rfl, fun u => absurd (by rw [t2, inN' (by omega)] at u; exact u) z, fun _ => ⟨rfl, R⟩⟩⟩
  obtain ⟨s, hs, rfl⟩ := inN (by omega) z
  let c : Nat → Int32 := fun t => bP ((so (gi x 718) s 4 = 0 ∧ so (gi x 718) t 4 = 0) ∧ csw (gi x 718) S N s t)
  refine lp_acc (orP c) (fun t acc => ∀ v, AC x v W C S A N n (gi x 718) H → GI mX7_partners 15 [some (.ref 0), some (.int (nI s)), some (.int acc), some (.int (nI t))] [] KW v _) S 0 ?_ (fun t acc ht n1 => ?_) x ac
  · intro v av
    refine v_X7_partners_15 k0 av.2.1.2.1 (ks0 E.1) ⟨fun _ => ?_, fun z => absurd (by rw [av.2.2.2.2.nums.2.2.1]; exact Int32.le_refl _) z⟩
    have rv := av.rs rs
    refine v_X8_partners_0 km rv.1.1 km1 ⟨v0 (k := 2) (by decide) rfl rfl, fun _ => ?_, fun u => absurd (by rw [rv.2.1, t2, inN' (by omega)]; exact ⟨nI_pos' (by omega), nI_lt hs (by omega)⟩) u⟩
    refine lp_acc (orP c) (fun t acc => ∀ w, RFr v w → RS w (gi x 718) n H → GI mX8_partners 15 [some (.ref 717), some (.int (nI s)), some (.int acc), some (.int (nI t))] [] KW w _) S 0 ?_ (fun t acc ht n1 => ?_) v (RFr.rf v) rv
    · intro w f rw1
      exact v_X8_partners_15 km rw1.1.1 km1 rw1.1.2.2.1 km1 ⟨v0 (k := 2) (by decide) rfl rfl, fun _ => ⟨rfl, av.fin R nm (fun _ _ => rfl) f rw1⟩, fun z => absurd (by rw [rw1.2.1, t2]; exact Int32.le_refl _) z⟩
    · intro w f rw1
      have o1 := (F.2.2.2.2.2.2.2.2.2.2.2.2.1 s hs).2.2.2.2.1
      have o2 := (F.2.2.2.2.2.2.2.2.2.2.2.2.1 t ht).2.2.2.2.1
      have nx0 : ∀ w, RFr v w → RS w (gi x 718) n H → ¬ ((so (gi x 718) s 4 = 0 ∧ so (gi x 718) t 4 = 0) ∧ csw (gi x 718) S N s t) → GI mX8_partners 15 [some (.ref 717), some (.int (nI s)), some (.int (acc ||| 0)), some (.int (nI (t + 1)))] [] KW w _ := fun w f rw1 g => by
        rw [show acc ||| 0 = acc by simp]
        exact n1 acc (by unfold orP; rw [if_pos (bP_f g)]) w f rw1
      refine v_X8_partners_15 km rw1.1.1 km1 rw1.1.2.2.1 km1 ⟨v0 (k := 2) (by decide) rfl rfl, fun z => absurd (by rw [rw1.2.1, t2] at z; exact z) (nI_ge ht (by omega)), fun _ => ⟨l24_nI (by omega) rfl, ?_⟩⟩
      rw [nI_1, rw1.2.1, nI_clamp (show s < 2 ^ 31 by omega), nI_clamp (show t < 2 ^ 31 by omega)]
      refine ⟨fun z3 => nx0 w f rw1 (fun u => absurd (u.1.1.symm.trans z3) (by decide)), fun z3 => ⟨l24_nI (by omega) rfl, fun z4 => nx0 w f rw1 (fun u => absurd (u.1.2.symm.trans z4) (by decide)), fun z4 => sq_X8_canSwap rw1 F hs ht (fun w2 f2 r2 => ⟨fun z5 => nx0 w2 (f.tr f2) r2 (fun u => bP_z.mp z5 u.2), fun z5 => ?_⟩)⟩⟩
      have yes : csw (gi x 718) S N s t := Classical.byContradiction (fun g => z5 (bP_z.mpr g))
      exact n1 _ (by unfold orP; rw [if_neg (fun g => bP_z.mp g ⟨⟨o1.resolve_right z3, o2.resolve_right z4⟩, yes⟩)]) w2 (f.tr f2) r2
  · intro v av
    refine v_X7_partners_15 k0 av.2.1.2.1 (ks0 E.1) ⟨fun z => absurd (by rw [av.2.2.2.2.nums.2.2.1] at z; exact z) (nI_ge ht (by omega)), fun _ => ?_⟩
    rw [nI_1]
    refine sp_X7_whySwapFails av hs ht (fun c1 => ⟨fun _ => ?_, fun z => absurd z (by decide)⟩) (fun c0 c1 w aw => ⟨fun _ => ?_, fun z => absurd z (by decide)⟩) (fun c0 c1 w aw => ⟨fun z => absurd rfl z, fun _ => ?_⟩)
    · exact n1 acc (by unfold orP; rw [if_pos (bP_f (fun u => c1 u.1))]) v av
    · exact n1 acc (by unfold orP; rw [if_pos (bP_f (fun u => c1 u.2))]) w aw
    · exact n1 _ (by unfold orP; rw [if_neg (fun g => bP_z.mp g ⟨c0, c1⟩)]) w aw
end
/-! 53.free.lean.txt -/
section
def WFB (T : TT) (W C S A N : Nat) : Prop := T 0 = nI W ∧ ((W = 0 ∧ C = 0) ∨ 5 ≤ W) ∧ W ≤ 30 ∧ T 1 = nI C ∧ C ≤ 8 ∧ T 2 = nI S ∧ S ≤ 24 ∧ T 3 = nI A ∧ A ≤ 24 ∧ T 4 = nI N ∧ N ≤ W ∧ (∀ h : Nat, h < 24 → True) ∧ (∀ s, s < S → Wse T C W s) ∧ ∀ a, a < A → Was T C W a
def SEB (x : Cn) (q : Nat) (T : TT) (W C S A N : Nat) : Prop := Isea q ∧ SRf x q ∧ SVl x q T S A ∧ WFB T W C S A N
def LM9 (T : TT) : Prop := ∀ h, h < 24 → ∃ a b, a ≤ 10 ∧ b ≤ 10 ∧ T (6 + 2 * h) = nI a ∧ T (7 + 2 * h) = nI b
theorem WF.b {T : TT} {W C S A N : Nat} (F : WF T W C S A N) : WFB T W C S A N := by
  obtain ⟨w1, w2, w3, w4, w5, w6, w7, w8, w9, w10, w11, w12, w13, w14⟩ := F
  exact ⟨w1, w2, w3, w4, w5, w6, w7, w8, w9, w10, w11, fun _ _ => trivial, w13, w14⟩
theorem WFB.w {T : TT} {W C S A N : Nat} (F : WFB T W C S A N) (l : LM9 T) : WF T W C S A N := by
  obtain ⟨w1, w2, w3, w4, w5, w6, w7, w8, w9, w10, w11, w12, w13, w14⟩ := F
  exact ⟨w1, w2, w3, w4, w5, w6, w7, w8, w9, w10, w11, l, w13, w14⟩
theorem SEA.b {x : Cn} {q : Nat} {T : TT} {W C S A N : Nat} (E : SEA x q T W C S A N) : SEB x q T W C S A N := ⟨E.1, E.2.1, E.2.2.1, E.2.2.2.b⟩
theorem SEB.w {x : Cn} {q : Nat} {T : TT} {W C S A N : Nat} (E : SEB x q T W C S A N) (l : LM9 T) : SEA x q T W C S A N := ⟨E.1, E.2.1, E.2.2.1, E.2.2.2.w l⟩
theorem WFB.cg {T T' : TT} {W C S A N : Nat} (w : WFB T W C S A N) (h : ∀ i, i < 518 → T' i = T i) : WFB T' W C S A N := by
  obtain ⟨w1, w2, w3, w4, w5, w6, w7, w8, w9, w10, w11, w12, w13, w14⟩ := w
  exact ⟨by rw [h 0 (by decide)]; exact w1, w2, w3, by rw [h 1 (by decide)]; exact w4, w5, by rw [h 2 (by decide)]; exact w6, w7, by rw [h 3 (by decide)]; exact w8, w9, by rw [h 4 (by decide)]; exact w10, w11, w12, fun s hs => (w13 s hs).cg (fun k hk => h _ (by omega)), fun a ha => (w14 a ha).cg (fun k hk => h _ (by omega))⟩
theorem SEB.ser {x : Cn} {q : Nat} {T : TT} {W C S A N s : Nat} (E : SEB x q T W C S A N) (hs : s < S) : ∃ p, gr x (q + 3) s = some p ∧ kk KW p = some (5, 0) ∧ SER x p T s ∧ f_held x p = bas T s ∧ f_open x p = so T s 7 ∧ Wse T C W s := by
  obtain ⟨h1, ⟨-, -, -, -, -, h2, -⟩, ⟨-, -, -, -, -, -, h3, -⟩, ⟨-, -, -, -, -, -, hS, -, -, -, -, -, h4, -⟩⟩ := E
  obtain ⟨j, hj, e⟩ := h2 s (by omega)
  have hse := h3 s _ hs e
  exact ⟨_, e, ks6 h1 hj, hse, hse.held (h4 s hs), hse.opn (h4 s hs), h4 s hs⟩
theorem SEB.ask {x : Cn} {q : Nat} {T : TT} {W C S A N s : Nat} (E : SEB x q T W C S A N) (hs : s < A) : ∃ p, gr x (q + 4) s = some p ∧ kk KW p = some (0, 0) ∧ ASR x p T s ∧ Was T C W s := by
  obtain ⟨h1, ⟨-, -, -, -, -, -, -, h2, -⟩, ⟨-, -, -, -, -, -, -, h3⟩, ⟨-, -, -, -, -, -, -, -, hA, -, -, -, -, h4⟩⟩ := E
  obtain ⟨j, hj, e⟩ := h2 s (by omega)
  exact ⟨_, e, ks30 h1 hj, h3 s _ hs e, h4 s hs⟩
theorem SEB.nums {x : Cn} {q : Nat} {T : TT} {W C S A N : Nat} (E : SEB x q T W C S A N) : gi x q 0 = nI W ∧ gi x q 1 = nI N ∧ gi x q 3 = nI S ∧ gi x q 4 = nI A ∧ W ≤ 30 ∧ C ≤ 8 ∧ S ≤ 24 ∧ A ≤ 24 ∧ N ≤ W := by
  obtain ⟨h1, -, ⟨v0, v1, -, v3, v4, -⟩, ⟨w0, -, w1, -, w2, w3, w4, w5, w6, w7, w8, -⟩⟩ := E
  exact ⟨v0.trans w0, v1.trans w7, v3.trans w3, v4.trans w5, w1, w2, w4, w6, w8⟩
theorem SEB.eqx {x y : Cn} {q : Nat} {T : TT} {W C S A N : Nat} (E : SEB x q T W C S A N) {a : Nat} (h : EQx x y a) (ha : a = q + 5 ∨ a < q ∨ q + 54 ≤ a) : SEB y q T W C S A N := by
  obtain ⟨e1, e2, ⟨v0, v1, v2, v3, v4, v5, v6, v7⟩, e4⟩ := E
  have hg : ∀ b k, gr y b k = gr x b k := fun b k => by unfold gr; rw [h.1]
  have hi : ∀ b k, b ≠ a → gi y b k = gi x b k := h.2
  have hr := e2
  obtain ⟨r1, r2, r3, r4, r5, r6, r7, r8, r9⟩ := e2
  refine ⟨e1, ?_, ⟨?_, ?_, ?_, ?_, ?_, ?_, ?_, ?_⟩, e4⟩
  · unfold SRf at hr ⊢
    simp only [hg]
    exact hr
  · rw [hi q 0 (by omega)]; exact v0
  · rw [hi q 1 (by omega)]; exact v1
  · rw [hi q 2 (by omega)]; exact v2
  · rw [hi q 3 (by omega)]; exact v3
  · rw [hi q 4 (by omega)]; exact v4
  · intro hh h24
    rw [hi (q + 1) hh (by omega), hi (q + 2) hh (by omega)]
    exact v5 hh h24
  · intro s p hs hp
    rw [hg] at hp
    have h0 := v6 s p hs hp
    obtain ⟨j, hj, ej⟩ := r6 s (by have := e4.2.2.2.2.2.2.1; omega)
    have hpe : p = q + 6 + j := Option.some.inj (hp.symm.trans ej)
    exact ⟨fun k h1 h2 => by rw [hi p k (by omega)]; exact h0.1 k h1 h2, by rw [hi p 7 (by omega)]; exact h0.2⟩
  · intro s p hs hp
    rw [hg] at hp
    have h0 := v7 s p hs hp
    obtain ⟨j, hj, ej⟩ := r8 s (by have := e4.2.2.2.2.2.2.2.2.1; omega)
    have hpe : p = q + 30 + j := Option.some.inj (hp.symm.trans ej)
    exact fun k h1 => by rw [hi p k (by omega)]; exact h0 k h1
theorem lb_X4_weeksLoaded_118 {x : Cn} {Q : Int32 → Cn → Prop} {q : Nat} {T : TT} {W C S A N : Nat} (E : SEB x q T W C S A N) {d h io wo held : Int32} {b7 m s : Nat} (hm : m ≤ 24) (hh : ∀ i, i < 32 → tb held i = cW T s i d h io wo) (hs : s < 24)
    (k : ∀ y, EQx x y (q + 5) → (∀ j, j ≤ m → ∀ i, i < 32 → tb (gi y (q + 5) j) i = decide (j ≤ nW T (s + 1) i d h io wo)) → GI mX4_weeksLoaded 49 [some (.ref q), some (.int d), some (.int h), some (.int (nI m)), some (.int io), some (.int wo), some (.int (nI (s + 1))), none, none, none] [] KW y Q) :
    ∀ (n : Nat) (y : Cn), n ≤ m → EQx x y (q + 5) → (∀ j, j ≤ n → ∀ i, i < 32 → tb (gi y (q + 5) j) i = decide (j ≤ nW T s i d h io wo)) → (∀ j, n < j → j ≤ m → ∀ i, i < 32 → tb (gi y (q + 5) j) i = decide (j ≤ nW T (s + 1) i d h io wo)) → GI mX4_weeksLoaded 118 [some (.ref q), some (.int d), some (.int h), some (.int (nI m)), some (.int io), some (.int wo), some (.int (nI s)), some (.ref b7), some (.int held), some (.int (nI n))] [] KW y Q := by
  intro n
  induction n with
  | zero =>
    intro y hn hy h0 h1
    have E2 := E.eqx hy (Or.inl rfl)
    refine v_X4_weeksLoaded_118 (ks0 E.1) E2.2.1.2.2.2.2.1 (ks5 E.1) ⟨fun _ => ?_, fun z => ?_⟩
    · rw [nI_1]
      refine k y hy (fun j hj i hi => ?_)
      rcases Nat.eq_zero_or_pos j with rfl | hp
      · rw [h0 0 (Nat.le_refl 0) i hi]
        simp
      · exact h1 j hp hj i hi
    · exact absurd (by decide) z
  | succ n ih =>
    intro y hn hy h0 h1
    have E2 := E.eqx hy (Or.inl rfl)
    refine v_X4_weeksLoaded_118 (ks0 E.1) E2.2.1.2.2.2.2.1 (ks5 E.1) ⟨fun z => ?_, fun _ => ⟨vp_in_nI (by omega) (by decide), ?_, ?_⟩⟩
    · exact absurd z (show ¬ nI (n + 1) < nI 1 from nI_nlt (by omega) (by omega))
    · rw [nI_pred]
      exact vp_in_nI (by omega) (by decide)
    · rw [pk_m1, nI_pred, nI_clamp (by omega), nI_clamp (by omega)]
      refine ih _ (by omega) hy.ui (fun j hj i hi => ?_) (fun j hj hjm i hi => ?_)
      · rw [gi_ui, if_neg (by omega)]
        exact h0 j (by omega) i hi
      · by_cases hjn : j = n + 1
        · subst hjn
          rw [gi_ui, if_pos ⟨rfl, rfl⟩, tb_or, tb_and, h0 (n + 1) (Nat.le_refl _) i hi, h0 n (by omega) i hi, hh i hi]
          have : nW T (s + 1) i d h io wo = nW T s i d h io wo + (if cW T s i d h io wo = true then 1 else 0) := rfl
          rw [this]
          cases cW T s i d h io wo <;> simp <;> omega
        · rw [gi_ui, if_neg (by omega)]
          exact h1 j (by omega) hjm i hi
theorem lb_X4_weeksLoaded_49 {x : Cn} {Q : Int32 → Cn → Prop} {q : Nat} {T : TT} {W C S A N : Nat} (E : SEB x q T W C S A N) {d h io wo : Int32} {m : Nat} (hm : m ≤ S)
    (k : ∀ r y, EQx x y (q + 5) → isWL T S d h io wo (nI m) r → Q r y) :
    ∀ (n s : Nat) (y : Cn), s + n = S → EQx x y (q + 5) → (∀ j, j ≤ m → ∀ i, i < 32 → tb (gi y (q + 5) j) i = decide (j ≤ nW T s i d h io wo)) → GI mX4_weeksLoaded 49 [some (.ref q), some (.int d), some (.int h), some (.int (nI m)), some (.int io), some (.int wo), some (.int (nI s)), none, none, none] [] KW y Q := by
  have hS := E.nums.2.2.2.2.2.2.1
  intro n
  induction n with
  | zero =>
    intro s y hs hy h0
    have E2 := E.eqx hy (Or.inl rfl)
    have hn := E2.nums
    refine v_X4_weeksLoaded_49 (ks0 E.1) E2.2.1.2.2.2.2.1 (ks5 E.1) E2.2.1.2.2.1 (ks3 E.1) ⟨fun _ => ⟨vp_in_nI (by omega) (by decide), ?_⟩, fun z => ?_⟩
    · rw [nI_clamp (by omega)]
      refine k _ y hy (fun i hi => ?_)
      have hc : nW T S i d h io wo ≤ S := cnt_le _ _
      rw [h0 m (Nat.le_refl _) i hi, decide_eq_true_iff, show s = S by omega, nI_leI (by omega) (by omega)]
    · exact absurd (by rw [hn.2.2.1]; exact nI_le (by omega) (by omega)) z
  | succ n ih =>
    intro s y hs hy h0
    have E2 := E.eqx hy (Or.inl rfl)
    have hn := E2.nums
    obtain ⟨p, e1, e2, e3, e4, -, -⟩ := E2.ser (s := s) (by omega)
    have skip : ¬ (so T s 1 = d ∧ so T s 2 = h ∧ ¬ tb wo s = true ∧ (so T s 3 = 0 ∨ io = 0)) → GI mX4_weeksLoaded 49 [some (.ref q), some (.int d), some (.int h), some (.int (nI m)), some (.int io), some (.int wo), some (.int (nI s + 1)), none, none, none] [] KW y Q := by
      intro z
      rw [nI_1]
      refine ih (s + 1) y (by omega) hy (fun j hj i hi => ?_)
      rw [h0 j hj i hi]
      have : nW T (s + 1) i d h io wo = nW T s i d h io wo + (if cW T s i d h io wo = true then 1 else 0) := rfl
      rw [this, show cW T s i d h io wo = false by unfold cW; rw [decide_eq_false z]; rfl]
      rfl
    have take : (so T s 1 = d ∧ so T s 2 = h ∧ ¬ tb wo s = true ∧ (so T s 3 = 0 ∨ io = 0)) → GI mX4_weeksLoaded 118 [some (.ref q), some (.int d), some (.int h), some (.int (nI m)), some (.int io), some (.int wo), some (.int (nI s)), some (.ref p), some (.int (f_held y p)), some (.int (nI m))] [] KW y Q := by
      intro z
      refine lb_X4_weeksLoaded_118 E (by omega) (fun i hi => ?_) (by omega) (fun y2 hy2 g => ih (s + 1) y2 (by omega) hy2 g) m y (Nat.le_refl _) hy h0 (fun j h1 h2 => by omega)
      rw [e4]
      unfold cW
      rw [decide_eq_true z]
      simp
    refine v_X4_weeksLoaded_49 (ks0 E.1) E2.2.1.2.2.2.2.1 (ks5 E.1) E2.2.1.2.2.1 (ks3 E.1) ⟨fun z => ?_, fun _ => ⟨vp_in_nI (by omega) (by decide), p, by rw [nI_clamp (by omega)]; exact e1, e2, ?_⟩⟩
    · rw [hn.2.2.1] at z
      exact absurd z (nI_ge (by omega) (by omega))
    · rw [e3.1 1 (by decide) (by decide), e3.1 2 (by decide) (by decide), e3.1 3 (by decide) (by decide), f_bit_tb _ (by omega)]
      exact ⟨fun z => skip (fun g => z g.1), fun z1 => ⟨fun z => skip (fun g => z g.2.1), fun z2 => ⟨fun z => skip (fun g => g.2.2.1 z), fun z3 => ⟨fun z => take ⟨z1, z2, z3, Or.inl z⟩, fun z4 => ⟨fun z => skip (fun g => g.2.2.2.elim z4 z), fun z => take ⟨z1, z2, z3, Or.inr z⟩⟩⟩⟩⟩⟩
theorem lb_X4_weeksLoaded_26 {x : Cn} {Q : Int32 → Cn → Prop} {q : Nat} {T : TT} {W C S A N : Nat} (E : SEB x q T W C S A N) {d h io wo : Int32} {m : Nat} (hm : m ≤ S)
    (k : ∀ r y, EQx x y (q + 5) → isWL T S d h io wo (nI m) r → Q r y) :
    ∀ (n j : Nat) (y : Cn), j + n = m + 1 → 1 ≤ j → EQx x y (q + 5) → gi y (q + 5) 0 = -1 → (∀ i, 1 ≤ i → i < j → gi y (q + 5) i = 0) → GI mX4_weeksLoaded 26 [some (.ref q), some (.int d), some (.int h), some (.int (nI m)), some (.int io), some (.int wo), some (.int (nI j)), none, none, none] [] KW y Q := by
  have hS := E.nums.2.2.2.2.2.2.1
  intro n
  induction n with
  | zero =>
    intro j y hj h1 hy g0 g1
    have E2 := E.eqx hy (Or.inl rfl)
    refine v_X4_weeksLoaded_26 (ks0 E.1) E2.2.1.2.2.2.2.1 (ks5 E.1) ⟨fun _ => ?_, fun z => ?_⟩
    · refine lb_X4_weeksLoaded_49 E hm k S 0 y (by omega) hy (fun i hi b hb => ?_)
      rcases Nat.eq_zero_or_pos i with rfl | hp
      · rw [g0, tb_m1 hb]
        simp
      · rw [g1 i hp (by omega), tb_0]
        show false = decide (i ≤ 0)
        rw [decide_eq_false (by omega)]
    · exact absurd (nI_lt (show m < j by omega) (by omega)) z
  | succ n ih =>
    intro j y hj h1 hy g0 g1
    have E2 := E.eqx hy (Or.inl rfl)
    refine v_X4_weeksLoaded_26 (ks0 E.1) E2.2.1.2.2.2.2.1 (ks5 E.1) ⟨fun z => ?_, fun _ => ⟨vp_in_nI (by omega) (by decide), ?_⟩⟩
    · exact absurd z (nI_nlt (by omega) (by omega))
    · rw [nI_1, nI_clamp (by omega)]
      refine ih (j + 1) _ (by omega) (by omega) hy.ui ?_ (fun i hi hij => ?_)
      · rw [gi_ui, if_neg (by omega)]
        exact g0
      · by_cases hij2 : i = j
        · subst hij2
          rw [gi_ui, if_pos ⟨rfl, rfl⟩]
        · rw [gi_ui, if_neg (fun z => hij2 z.2)]
          exact g1 i hi (by omega)
theorem sb_X4_weeksLoaded {x : Cn} {Q : Int32 → Cn → Prop} {q : Nat} {T : TT} {W C S A N : Nat} (E : SEB x q T W C S A N) {d h least io wo : Int32} (k : ∀ r y, EQx x y (q + 5) → isWL T S d h io wo least r → Q r y) : mSI mX4_weeksLoaded [.ref q, .int d, .int h, .int least, .int io, .int wo] KW x Q := by
  have hn := E.nums
  have hS := hn.2.2.2.2.2.2.1
  refine v_X4_weeksLoaded_0 (ks0 E.1) E.2.1.2.2.2.2.1 (ks5 E.1) ⟨fun z => ⟨fun z2 => ⟨iv0 0 25 (by decide) (by decide) (by decide), ?_⟩, fun z2 => ?_⟩, fun z => ?_⟩
  · obtain ⟨m, hm, rfl⟩ := nI_of (x := least) (Int32.not_lt.mpr (Int32.le_of_lt z))
    rw [hn.2.2.1, nI_leI hm (by omega)] at z2
    exact lb_X4_weeksLoaded_26 E z2 k m 1 _ (by omega) (by omega) (EQx.rf x _).ui (by rw [gi_ui, if_pos ⟨rfl, rfl⟩]) (fun i h1 h2 => by omega)
  · refine k 0 x (EQx.rf x _) (fun i hi => ⟨fun g => ?_, fun g => ?_⟩)
    · rw [tb_0] at g
      cases g
    · have hc : nW T S i d h io wo ≤ S := cnt_le _ _
      refine absurd (Int32.le_trans g ?_) z2
      rw [hn.2.2.1]
      exact nI_le hc (by omega)
  · refine k (-1) x (EQx.rf x _) (fun i hi => ⟨fun _ => ?_, fun _ => tb_m1 hi⟩)
    have hc : nW T S i d h io wo ≤ S := cnt_le _ _
    exact Int32.le_trans (Int32.not_lt.mp z) (nI_pos' (by omega))

section
variable {x : Cn} {Q : Int32 → Cn → Prop} {q : Nat} {T : TT} {W C S A N : Nat}
theorem sb_X4_hasPlace (E : SEB x q T W C S A N) {d way bits wo : Int32} {h : Nat} (hh : h < 24) (k : ∀ y, EQx x y (q + 5) → Q (bP (fitC T S N d h way bits wo)) y) : mSI mX4_hasPlace [.ref q, .int d, .int (nI h), .int way, .int bits, .int wo] KW x Q := by
  have hn := E.nums
  have hl := E.2.2.1.2.2.2.2.2.1 h hh
  refine v_X4_hasPlace_0 (ks0 E.1) E.2.1.1 (ks1 E.1) ⟨vp_in_nI hh (by decide), ?_⟩
  rw [nI_clamp (show h < 2 ^ 31 by omega), hl.1, hn.2.1]
  refine sb_X4_weeksLoaded E (fun r y hy hr => ?_)
  have E2 := E.eqx hy (Or.inl rfl)
  have hl2 := E2.2.2.1.2.2.2.2.2.1 h hh
  refine ⟨fun z => ?_, fun z => ?_⟩
  · have g1 := (and3_0 (by omega) hr).mp z
    refine ⟨fun w => (bP_k (k y hy)).1 (fun i hi h1 h2 => ⟨g1 i hi h1 h2, fun u => absurd w u⟩), fun w => ⟨q + 2, E2.2.1.2.1, 24, ks2 E.1, vp_in_nI hh (by decide), ?_⟩⟩
    rw [hl2.2]
    refine sb_X4_weeksLoaded E2 (fun r2 y2 hy2 hr2 => ⟨fun z2 => ?_, fun z2 => ?_⟩)
    · have := k y2 (hy.tr hy2)
      rwa [bP_f (fun f => z2 ((and3_0 (by omega) hr2).mpr (fun i hi h1 h2 => (f i hi h1 h2).2 w)))] at this
    · have g2 := (and3_0 (by omega) hr2).mp z2
      exact (bP_k (k y2 (hy.tr hy2))).1 (fun i hi h1 h2 => ⟨g1 i hi h1 h2, fun _ => g2 i hi h1 h2⟩)
  · have := k y hy
    rwa [bP_f (fun f => z ((and3_0 (by omega) hr).mpr (fun i hi h1 h2 => (f i hi h1 h2).1)))] at this
end
section
variable {x : Cn} {Q : Int32 → Cn → Prop}
theorem sb_X8_canBe {t : Nat} (M : MRf x t) (ht : kk KW t = some (20, 518)) {W C S A N : Nat} (F : WFB (gi x t) W C S A N) {d way bits b wo : Int32} {h : Nat} (hh : h < 24) (hw : way = 0 ∨ way = 1) (hb : ∀ i, i < 32 → tb bits i = true → N ≤ i → i < W) (hwo : ∀ s, s < 24 → (tb wo s = true ↔ nI s = b)) (k : Q (bP (fitC (gi x t) S N d h way bits wo)) x) : mSI mX8_canBe [.ref 717, .int bits, .int d, .int (nI h), .int way, .int b] KW x Q := by
  obtain ⟨t0, t1, hW, t2, t3, t4, hS, t6, t7, t8, hN, hl, -, -⟩ := F
  have key : ∀ n w, w + n = W → (∀ i, i < w → tb bits i = true → N ≤ i → ¬ gi x t (6 + 2 * h) ≤ nI (nW (gi x t) S i d (nI h) 0 wo) ∧ (¬ way = 1 → ¬ gi x t (7 + 2 * h) ≤ nI (nW (gi x t) S i d (nI h) 1 wo))) → GI mX8_canBe 3 [some (.ref 717), some (.int bits), some (.int d), some (.int (nI h)), some (.int way), some (.int b), some (.int (nI w))] [] KW x Q := by
    intro n
    induction n with
    | zero =>
      intro w hw2 g
      refine v_X8_canBe_3 km M.2.2.1 ht ⟨v0 (k := 0) (by decide) rfl rfl, fun _ => ?_, fun z => absurd (by rw [t0]; exact nI_le (by omega) (by omega)) z⟩
      exact (bP_k k).1 (fun i hi h1 h2 => g i (by have := hb i hi h1 h2; omega) h1 h2)
    | succ n ih =>
      intro w hw2 g
      have nx : (tb bits w = true → N ≤ w → ¬ gi x t (6 + 2 * h) ≤ nI (nW (gi x t) S w d (nI h) 0 wo) ∧ (¬ way = 1 → ¬ gi x t (7 + 2 * h) ≤ nI (nW (gi x t) S w d (nI h) 1 wo))) → GI mX8_canBe 3 [some (.ref 717), some (.int bits), some (.int d), some (.int (nI h)), some (.int way), some (.int b), some (.int (nI w + 1))] [] KW x Q := by
        intro gg
        rw [nI_1]
        refine ih (w + 1) (by omega) (fun i hi => ?_)
        by_cases c : i = w
        · rw [c]; exact gg
        · exact g i (by omega)
      refine v_X8_canBe_3 km M.2.2.1 ht ⟨v0 (k := 0) (by decide) rfl rfl, fun z => absurd (by rw [t0] at z; exact z) (nI_ge (by omega) (by omega)), fun _ => ⟨v0 (k := 4) (by decide) rfl rfl, ?_⟩⟩
      rw [f_has_tb _ (by omega), tb_and, t8, t0, tb_fn hW hN (by omega) (by omega)]
      refine ⟨fun z => ?_, fun z => nx (fun z1 z2 => absurd (by rw [z1, decide_eq_true (by omega)]; rfl) z)⟩
      simp only [Bool.and_eq_true, decide_eq_true_eq] at z
      refine sp_X8_loadBut M ht t4 hS (by omega) ⟨M.2.2.1, ?_⟩
      rw [ixh1, ixh, nI_clamp (show 6 + 2 * h < 2 ^ 31 by omega), nI_clamp (show 7 + 2 * h < 2 ^ 31 by omega), ldB_nW0 hwo S hS]
      refine ⟨vp_in_nI (by omega) (by decide), fun z2 => ⟨fun z3 => nx (fun _ _ => ⟨Int32.not_le.mpr z2, fun u => absurd (hw.resolve_left z3) u⟩), fun z3 => ?_⟩, fun z2 => ?_⟩
      · refine sp_X8_loadBut M ht t4 hS (by omega) ⟨M.2.2.1, vp_in_nI (by omega) (by decide), ?_⟩
        rw [ldB_nW1 hwo S hS]
        refine ⟨fun z4 => nx (fun _ _ => ⟨Int32.not_le.mpr z2, fun _ => Int32.not_le.mpr z4⟩), fun z4 => ?_⟩
        exact (bP_k k).2 (fun f => (f w (by omega) z.1 z.2.1).2 (by rw [z3]; decide) (Int32.not_lt.mp z4))
      · exact (bP_k k).2 (fun f => (f w (by omega) z.1 z.2.1).1 (Int32.not_lt.mp z2))
  exact v_X8_canBe_0 (key W 0 (by omega) (fun i hi => absurd hi (by omega)))
theorem sb_X8_canAsk {t : Nat} (M : MRf x t) (ht : kk KW t = some (20, 518)) {W C S A N : Nat} (F : WFB (gi x t) W C S A N) {b wo : Int32} {a h : Nat} (ha : a < A) (hh : h < 24) (hwo : ∀ s, s < 24 → (tb wo s = true ↔ nI s = b)) (k : Q (bP (fitA (gi x t) S N a h wo)) x) : mSI mX8_canAsk [.ref 717, .int (nI a), .int (nI h), .int b] KW x Q := by
  have hA : A ≤ 24 := F.2.2.2.2.2.2.2.2.1
  have hW : W ≤ 30 := F.2.2.1
  have hN : N ≤ W := F.2.2.2.2.2.2.2.2.2.2.1
  obtain ⟨-, -, -, a3, ⟨f, l, f1, f2, f3, f4⟩, -⟩ := F.2.2.2.2.2.2.2.2.2.2.2.2.2 a ha
  refine v_X8_canAsk_0 km M.2.2.1 ht ⟨l24_nI (by omega) rfl, ?_⟩
  rw [nI_clamp (by omega), F.1, F.2.2.2.2.2.2.2.2.2.1]
  refine sb_X8_canBe M ht F hh a3 ?_ hwo ⟨bP_01 _, ?_⟩
  · intro i hi z1 z2
    rw [tb_and, Bool.and_eq_true, tb_fn hW hN hi (by omega)] at z1
    exact (of_decide_eq_true z1.2).2
  · rw [bP_congr (fitC_bits (b2 := f_sb (ao (gi x t) a 4) (ao (gi x t) a 5)) (fun i hi h2 => ?_))]
    · exact k
    · rw [tb_and, tb_fn hW hN hi (by omega), f3, f4, sb_span (by omega) (by omega), tb_span0 f (by omega) l (by omega) i hi]
      by_cases c : f ≤ i ∧ i ≤ l
      · rw [decide_eq_true c, decide_eq_true (show N ≤ i ∧ i < W by omega)]; rfl
      · rw [decide_eq_false c]; rfl
theorem sb_X4_hasPlaceFor {q : Nat} {T : TT} {W C S A N : Nat} (E : SEB x q T W C S A N) {a p h : Nat} {wo : Int32} (hp : kk KW p = some (0, 0)) (hq : ASR x p T a) (hh : h < 24) (k : ∀ y, EQx x y (q + 5) → Q (bP (fitA T S N a h wo)) y) : mSI mX4_hasPlaceFor [.ref q, .ref p, .int (nI h), .int wo] KW x Q := by
  refine v_X4_hasPlaceFor_0 hp (ks0 E.1) ?_
  rw [hq 1 (by decide), hq 3 (by decide), hq 4 (by decide), hq 5 (by decide)]
  exact sb_X4_hasPlace E hh (fun y hy => ⟨bP_01 _, k y hy⟩)
theorem sb_X4_hourFor {q : Nat} {T : TT} {W C S A N : Nat} (E : SEB x q T W C S A N) {a p : Nat} (ha : a < A) (hg : gr x (q + 4) a = some p) (k : ∀ y, EQx x y (q + 5) → Q (hrF T S N a) y) : mSI mX4_hourFor [.ref q, .ref p] KW x Q := by
  have hn := E.nums
  have hA : A ≤ 24 := hn.2.2.2.2.2.2.2.1
  have hS : S ≤ 24 := hn.2.2.2.2.2.2.1
  obtain ⟨p', e1, e2, e3, ⟨-, -, ⟨h, h1, h2⟩, -, ⟨f, l, f1, f2, f3, f4⟩, ⟨b, b1, b2⟩⟩⟩ := E.ask ha
  have epp : p' = p := Option.some.inj (e1.symm.trans hg)
  subst epp
  have hW : W ≤ 30 := hn.2.2.2.2.1
  have hN : N ≤ W := hn.2.2.2.2.2.2.2.2
  have ep : ∀ y, EQx x y (q + 5) → ASR y p' T a := fun y hy => (E.eqx hy (Or.inl rfl)).2.2.1.2.2.2.2.2.2.2 a p' ha (by unfold gr; rw [hy.1]; exact hg)
  refine v_X4_hourFor_0 (ks0 E.1) e2 ?_
  rw [hn.2.2.1, hn.2.1, e3 5 (by decide), f4, e3 2 (by decide), h2]
  refine ⟨fun z => ?_, fun z => ⟨fun z2 => ?_, fun z2 => ?_⟩⟩
  · have hz : S = 24 := by
      have := (nI_leI (a := 24) (b := S) (by decide) (by omega)).mp z
      omega
    have := k x (EQx.rf _ _)
    unfold hrF at this
    rwa [if_pos (Or.inr hz)] at this
  · have z3 : N ≤ l := (nI_leI (by omega) (by omega)).mp z2
    have z4 : ¬ S = 24 := fun e => z (by rw [e]; exact Int32.le_refl _)
    have k2 : ∀ y, EQx x y (q + 5) → Q (lpR (stH (fun h => fitA T S N a h 0) h) (fun _ => -1) (b + 1) 0 ()) y := by
      intro y hy
      have := k y hy
      unfold hrF at this
      rwa [f4, nI_clamp (by omega), if_neg (by omega), h2, nI_clamp (by omega), b2, nI_clamp (by omega)] at this
    rw [e3 1 (by decide), e3 3 (by decide), e3 4 (by decide), f3]
    have fA : ∀ h, fitC T S N (ao T a 1) h (ao T a 3) (f_sb (nI f) (nI l)) 0 = fitA T S N a h 0 := fun h => by unfold fitA; rw [f3, f4]
    refine sb_X4_hasPlace E h1 (fun y hy => ?_)
    rw [fA]
    refine ⟨fun w => ?_, fun w => ?_⟩
    · have k3 : ∀ y, EQx x y (q + 5) → Q (lpR (stH (fun h => fitA T S N a h 0) h) (fun _ => -1) b 1 ()) y := by
        intro y hy
        have := k2 y hy
        simp only [lpR] at this
        have e0 : stH (fun h => fitA T S N a h 0) h 0 () = .inl () := by
          unfold stH
          rw [if_neg (fun u => u.2 (by simpa using w)), if_neg (fun u => u.2 (by simpa using w))]
        rw [e0] at this
        exact this
      refine lp_gen (stH (fun h => fitA T S N a h 0) h) (fun _ => -1) (fun d _ => ∀ y, EQx x y (q + 5) → GI mX4_hourFor 55 [some (.ref q), some (.ref p'), some (.int (f_sb (nI f) (nI l))), some (.int (nI d)), none, none] [] KW y Q) (fun r => ∀ y, EQx x y (q + 5) → Q r y) (b + 1) (fun _ k y hy => ?_) (fun d _ hd n1 n2 y hy => ?_) b 1 () (by omega) k3 y hy
      · refine v_X4_hourFor_55 e2 (ks0 E.1) ?_
        rw [ep y hy 6 (by decide), b2]
        exact ⟨fun _ => k y hy, fun z => absurd (nI_lt (by omega) (by omega)) z⟩
      · have E2 := E.eqx hy (Or.inl rfl)
        refine v_X4_hourFor_55 e2 (ks0 E.1) ?_
        rw [ep y hy 6 (by decide), b2, ep y hy 2 (by decide), h2, ep y hy 1 (by decide), ep y hy 3 (by decide), nI_add, nI_1]
        refine ⟨fun z => absurd z (nI_nlt (by omega) (by omega)), fun _ => ?_⟩
        have up : ∀ y, EQx x y (q + 5) → ¬ (d ≤ h ∧ ¬ bP (fitA T S N a (h - d) 0) = 0) → (nI 24 ≤ nI (h + d) → GI mX4_hourFor 55 [some (.ref q), some (.ref p'), some (.int (f_sb (nI f) (nI l))), some (.int (nI (d + 1))), none, none] [] KW y Q) ∧ (¬ nI 24 ≤ nI (h + d) → mSI mX4_hasPlace [.ref q, .int (ao T a 1), .int (nI (h + d)), .int (ao T a 3), .int (f_sb (nI f) (nI l)), .int 0] KW y (fun r y_4 => (r = 0 → GI mX4_hourFor 55 [some (.ref q), some (.ref p'), some (.int (f_sb (nI f) (nI l))), some (.int (nI (d + 1))), none, none] [] KW y_4 Q) ∧ (¬ r = 0 → Q (nI (h + d)) y_4))) := by
          intro y hy w
          refine ⟨fun z => n1 () ?_ y hy, fun z => ?_⟩
          · unfold stH
            rw [if_neg w, if_neg (fun u => nI_ge u.1 (by decide) z)]
          · have hd2 : h + d < 24 := by
              by_cases c : h + d < 24
              · exact c
              · exact absurd (nI_le (by omega) (by omega)) z
            refine sb_X4_hasPlace (E.eqx hy (Or.inl rfl)) hd2 (fun y2 hy2 => ?_)
            rw [fA]
            refine ⟨fun u => n1 () ?_ y2 (hy.tr hy2), fun u => n2 _ ?_ y2 (hy.tr hy2)⟩
            · unfold stH
              rw [if_neg w, if_neg (fun g => g.2 u)]
            · unfold stH
              rw [if_neg w, if_pos ⟨hd2, u⟩]
        refine ⟨fun z => up y hy (fun u => ?_), fun z => ?_⟩
        · rw [pk_sub u.1] at z
          exact nI_pos (by omega) z
        · have hd2 : d ≤ h := by
            by_cases c : d ≤ h
            · exact c
            · exact absurd (pk_sneg (by omega) (by omega)) z
          rw [pk_sub hd2]
          refine sb_X4_hasPlace E2 (by omega) (fun y2 hy2 => ?_)
          rw [fA]
          refine ⟨fun u => ?_, fun u => n2 _ ?_ y2 (hy.tr hy2)⟩
          · have hy3 := hy.tr hy2
            rw [ep y2 hy3 2 (by decide), h2, ep y2 hy3 1 (by decide), ep y2 hy3 3 (by decide), nI_add]
            exact up y2 hy3 (fun g => g.2 u)
          · unfold stH
            rw [if_pos ⟨hd2, u⟩]
    · have := k2 y hy
      simp only [lpR] at this
      have e0 : stH (fun h => fitA T S N a h 0) h 0 () = .inr (nI h) := by
        unfold stH
        rw [if_pos ⟨Nat.zero_le _, by simpa using w⟩]
        rfl
      rw [e0] at this
      rw [ep y hy 2 (by decide), h2]
      exact this
  · have z3 : l < N := by
      by_cases c : l < N
      · exact c
      · exact absurd (nI_le (by omega) (by omega)) z2
    have := k x (EQx.rf _ _)
    unfold hrF at this
    rw [f4, nI_clamp (by omega), if_pos (Or.inl z3)] at this
    exact this
theorem sb_X8_hourFor {t : Nat} (M : MRf x t) (ht : kk KW t = some (20, 518)) {W C S A N : Nat} (F : WFB (gi x t) W C S A N) {a : Nat} (ha : a < A) (k : Q (hrF (gi x t) S N a) x) : mSI mX8_hourFor [.ref 717, .int (nI a)] KW x Q := by
  have hA : A ≤ 24 := F.2.2.2.2.2.2.2.2.1
  have hS : S ≤ 24 := F.2.2.2.2.2.2.1
  have hW : W ≤ 30 := F.2.2.1
  have hN : N ≤ W := F.2.2.2.2.2.2.2.2.2.2.1
  obtain ⟨-, -, ⟨h, h1, h2⟩, a3, ⟨f, l, f1, f2, f3, f4⟩, ⟨b, b1, b2⟩⟩ := F.2.2.2.2.2.2.2.2.2.2.2.2.2 a ha
  refine v_X8_hourFor_0 km M.2.2.1 ht ⟨l24_nI (by omega) rfl, ?_⟩
  rw [nI_clamp (by omega), F.1, F.2.2.2.2.2.2.2.2.2.1, f3, f4, span_and0 (by omega) f2 hW hN, F.2.2.2.2.2.1, h2]
  unfold hrF at k
  rw [f4, nI_clamp (by omega), h2, nI_clamp (by omega), b2, nI_clamp (by omega)] at k
  refine ⟨fun z => by rwa [if_pos (Or.inl z)] at k, fun z => ⟨v0 (k := 2) (by decide) rfl rfl, fun z2 => ?_, fun z2 => ?_⟩⟩
  · rw [if_neg (fun u => u.elim z (fun e => z2 (by rw [e]; rfl)))] at k
    refine lp_gen (stH (fun h => fitA (gi x t) S N a h 0) h) (fun _ => -1) (fun d _ => GI mX8_hourFor 30 [some (.ref 717), some (.int (nI a)), some (.int (nI h)), some (.int (nI d))] [] KW x Q) (fun r => Q r x) (b + 1) (fun _ k => ?_) (fun d _ hd n1 n2 => ?_) (b + 1) 0 () (by omega) k
    · refine v_X8_hourFor_30 km M.2.2.1 ht ⟨l24_nI (by omega) rfl, ?_⟩
      rw [nI_clamp (by omega), b2]
      exact ⟨fun _ => k, fun z => absurd (nI_lt (by omega) (by omega)) z⟩
    · refine v_X8_hourFor_30 km M.2.2.1 ht ⟨l24_nI (by omega) rfl, ?_⟩
      rw [nI_clamp (by omega), b2, nI_add, nI_1]
      refine ⟨fun z => absurd z (nI_nlt (by omega) (by omega)), fun _ => ?_⟩
      have up : ¬ (d ≤ h ∧ ¬ bP (fitA (gi x t) S N a (h - d) 0) = 0) → (nI 24 ≤ nI (h + d) → GI mX8_hourFor 30 [some (.ref 717), some (.int (nI a)), some (.int (nI h)), some (.int (nI (d + 1)))] [] KW x Q) ∧ (¬ nI 24 ≤ nI (h + d) → mSI mX8_canAsk [.ref 717, .int (nI a), .int (nI (h + d)), .int (-1)] KW x (fun r y_4 => (r = 0 → GI mX8_hourFor 30 [some (.ref 717), some (.int (nI a)), some (.int (nI h)), some (.int (nI (d + 1)))] [] KW y_4 Q) ∧ (¬ r = 0 → Q (nI (h + d)) y_4))) := by
        intro w
        refine ⟨fun z => n1 () ?_, fun z => ?_⟩
        · unfold stH
          rw [if_neg w, if_neg (fun u => nI_ge u.1 (by decide) z)]
        · have hd2 : h + d < 24 := by
            by_cases c : h + d < 24
            · exact c
            · exact absurd (nI_le (by omega) (by omega)) z
          refine sb_X8_canAsk M ht F ha hd2 wo_0 ⟨fun u => n1 () ?_, fun u => n2 _ ?_⟩
          · unfold stH
            rw [if_neg w, if_neg (fun g => g.2 u)]
          · unfold stH
            rw [if_neg w, if_pos ⟨hd2, u⟩]
      refine ⟨fun z => up (fun u => nI_nlt u.1 (by omega) z), fun z => ?_⟩
      have hd2 : d ≤ h := by
        by_cases c : d ≤ h
        · exact c
        · exact absurd (nI_lt (by omega) (by omega)) z
      rw [pk_sub hd2]
      refine sb_X8_canAsk M ht F ha (by omega) wo_0 ⟨fun u => up (fun g => g.2 u), fun u => n2 _ ?_⟩
      unfold stH
      rw [if_pos ⟨hd2, u⟩]
  · have hz : S = 24 := (nI_eq (b := 24) (by omega) (by decide)).mp z2
    rwa [if_pos (Or.inr hz)] at k
end
theorem SEB.mv {x y : Cn} {q : Nat} {T T' : TT} {W C S A N : Nat} (E : SEB x q T W C S A N) (h1 : ∀ a k, q ≤ a → a < q + 54 → gr y a k = gr x a k) (h2 : ∀ a k, q ≤ a → a < q + 54 → a ≠ q + 5 → gi y a k = gi x a k) (hT : ∀ i, i < 518 → T' i = T i) : SEB y q T' W C S A N := by
  obtain ⟨e1, e2, ⟨v0, v1, v2, v3, v4, v5, v6, v7⟩, e4⟩ := E
  have hS : S ≤ 24 := e4.2.2.2.2.2.2.1
  have hA : A ≤ 24 := e4.2.2.2.2.2.2.2.2.1
  have g0 : ∀ k, gr y q k = gr x q k := fun k => h1 q k (by omega) (by omega)
  have g3 : ∀ k, gr y (q + 3) k = gr x (q + 3) k := fun k => h1 (q + 3) k (by omega) (by omega)
  have g4 : ∀ k, gr y (q + 4) k = gr x (q + 4) k := fun k => h1 (q + 4) k (by omega) (by omega)
  have hr := e2
  obtain ⟨r1, r2, r3, r4, r5, r6, r7, r8, r9⟩ := e2
  refine ⟨e1, ?_, ⟨?_, ?_, ?_, ?_, ?_, ?_, ?_, ?_⟩, e4.cg hT⟩
  · unfold SRf at hr ⊢
    simp only [g0, g3, g4]
    exact hr
  · rw [h2 q 0 (by omega) (by omega) (by omega), hT 0 (by decide)]; exact v0
  · rw [h2 q 1 (by omega) (by omega) (by omega), hT 4 (by decide)]; exact v1
  · rw [h2 q 2 (by omega) (by omega) (by omega), hT 5 (by decide)]; exact v2
  · rw [h2 q 3 (by omega) (by omega) (by omega), hT 2 (by decide)]; exact v3
  · rw [h2 q 4 (by omega) (by omega) (by omega), hT 3 (by decide)]; exact v4
  · intro hh h24
    rw [h2 (q + 1) hh (by omega) (by omega) (by omega), h2 (q + 2) hh (by omega) (by omega) (by omega), hT _ (by omega), hT _ (by omega)]
    exact v5 hh h24
  · intro s p hs hp
    rw [g3] at hp
    obtain ⟨j, hj, ej⟩ := r6 s (by omega)
    have hpe : p = q + 6 + j := Option.some.inj (hp.symm.trans ej)
    exact (v6 s p hs hp).cg (fun k _ => h2 p k (by omega) (by omega) (by omega)) (fun k hk => hT _ (by omega))
  · intro s p hs hp
    rw [g4] at hp
    obtain ⟨j, hj, ej⟩ := r8 s (by omega)
    have hpe : p = q + 30 + j := Option.some.inj (hp.symm.trans ej)
    exact (v7 s p hs hp).cg (fun k _ => h2 p k (by omega) (by omega) (by omega)) (fun k hk => hT _ (by omega))
theorem SEB.off {x y : Cn} {p q : Nat} {T : TT} {W C S A N : Nat} (E : SEB x p T W C S A N) (hq : Isea q) (h : p ≠ q) (f : Frq x y q) : SEB y p T W C S A N := by
  have d := Isea.dis E.1 hq h
  exact E.mv (fun a k _ _ => f.rr a k) (fun a k h1 h2 _ => f.2 a k (by omega)) (fun _ _ => rfl)
end
/-! 54.pool1.lean.txt -/
section
theorem k117 : kk KW 117 = some (2, 0) := by decide
theorem k172 : kk KW 172 = some (20, 56) := by decide
theorem k173 : kk KW 173 = some (20, 24) := by decide
theorem k174 : kk KW 174 = some (20, 24) := by decide
theorem nI_ne1 {n : Nat} (h : n < 2 ^ 31) : ¬ nI n = -1 := fun e => absurd (nI_pos' h) (by rw [e]; decide)
/-- how many series a carrier has on a day -/
def hN (T : TT) (S : Nat) (c d : Int32) : Int32 := accT (inc (fun s => so T s 0 = c ∧ (d = -1 ∨ so T s 1 = d))) S 0
theorem hN_s (T : TT) (S : Nat) (c d : Int32) : hN T (S + 1) c d = if so T S 0 = c ∧ (d = -1 ∨ so T S 1 = d) then hN T S c d + 1 else hN T S c d := by
  unfold hN
  simp only [accT]
  rfl
theorem hN_cg {T T' : TT} {S : Nat} (h : ∀ s, s < S → so T' s 0 = so T s 0 ∧ so T' s 1 = so T s 1) (c d : Int32) : hN T' S c d = hN T S c d := by
  unfold hN
  refine accT_congr S (fun i a hi => ?_)
  show (if so T' i 0 = c ∧ (d = -1 ∨ so T' i 1 = d) then a + 1 else a) = (if so T i 0 = c ∧ (d = -1 ∨ so T i 1 = d) then a + 1 else a)
  rw [(h i hi).1, (h i hi).2]
abbrev ent (T : TT) (S a : Nat) : Prop := hN T S (ao T a 0) (ao T a 1) < 2
def HLD (y : Cn) (T : TT) (S : Nat) : Prop := ∀ c d, c < 8 → d < 7 → gi y 172 (c * 7 + d) = hN T S (nI c) (nI d)
theorem HLD.inc {y : Cn} {T T' : TT} {S c0 d0 : Nat} (h : HLD y T S) (hc : c0 < 8) (hd : d0 < 7) (h0 : so T' S 0 = nI c0) (h1 : so T' S 1 = nI d0) (hT : ∀ s, s < S → so T' s 0 = so T s 0 ∧ so T' s 1 = so T s 1) : HLD (ui y 172 (c0 * 7 + d0) (gi y 172 (c0 * 7 + d0) + 1)) T' (S + 1) := by
  intro c d hc' hd'
  rw [gi_ui, hN_s, hN_cg hT, h0, h1]
  by_cases e : c = c0 ∧ d = d0
  · rw [if_pos ⟨rfl, by omega⟩, if_pos ⟨by rw [e.1], Or.inr (by rw [e.2])⟩, h c0 d0 hc hd, e.1, e.2]
  · rw [if_neg (by omega), if_neg ?_, h c d hc' hd']
    rintro ⟨g1, g2⟩
    have g3 := (nI_eq (by omega) (by omega)).mp g1
    rcases g2 with g2 | g2
    · exact nI_ne1 (by omega) g2
    · have g4 := (nI_eq (by omega) (by omega)).mp g2
      omega
theorem HLD.mv {x y : Cn} {T : TT} {S : Nat} (h : HLD x T S) (e : ∀ i, gi y 172 i = gi x 172 i) : HLD y T S := fun c d hc hd => by rw [e]; exact h c d hc hd
/-- the pool's own rows -/
def PLf (x : Cn) : Prop := gr x 117 0 = some 118 ∧ gr x 117 1 = some 172 ∧ gr x 117 2 = some 173 ∧ gr x 117 3 = some 174
theorem CRf.pl {x : Cn} (h : CRf x) : PLf x := ⟨h.2.2.2.2.2.2.2.2.2.2.2.2.1, h.2.2.2.2.2.2.2.2.2.2.2.2.2.1, h.2.2.2.2.2.2.2.2.2.2.2.2.2.2.1, h.2.2.2.2.2.2.2.2.2.2.2.2.2.2.2.1⟩
theorem PLf.keep {x y : Cn} (h : PLf x) (e : y.2 = x.2) : PLf y := by
  have hg : ∀ b k, gr y b k = gr x b k := fun b k => by unfold gr; rw [e]
  unfold PLf at h ⊢
  simp only [hg]
  exact h
/-- the ask that comes next -/
def usd (t : TT) (a : Nat) : Bool := decide (¬ t a = -1)
def chS (T : TT) (S : Nat) (u : Nat → Bool) (e : Int32) : Nat → Int32 → Int32 := fun a b => if u a = false ∧ b2i (ent T S a) = e ∧ (b = -1 ∨ ao T b.toNatClampNeg 5 - ao T b.toNatClampNeg 4 < ao T a 5 - ao T a 4) then nI a else b
def chR (T : TT) (S A : Nat) (u : Nat → Bool) (e : Int32) : Int32 := accT (chS T S u e) A (-1)
def chC (T : TT) (S A : Nat) (u : Nat → Bool) (e : Int32) : Int32 := if chR T S A u e = -1 then chR T S A u (if e = 0 then 1 else 0) else chR T S A u e
theorem ch_in {T : TT} {S : Nat} {u : Nat → Bool} {e : Int32} : ∀ n, accT (chS T S u e) n (-1) = -1 ∨ ∃ j, j < n ∧ u j = false ∧ accT (chS T S u e) n (-1) = nI j := by
  intro n
  induction n with
  | zero => exact Or.inl rfl
  | succ n ih =>
    simp only [accT]
    generalize accT (chS T S u e) n (-1) = b at ih ⊢
    unfold chS
    by_cases c : u n = false ∧ b2i (ent T S n) = e ∧ (b = -1 ∨ ao T b.toNatClampNeg 5 - ao T b.toNatClampNeg 4 < ao T n 5 - ao T n 4)
    · rw [if_pos c]; exact Or.inr ⟨n, by omega, c.1, rfl⟩
    · rw [if_neg c]
      rcases ih with g | ⟨j, g1, g2, g3⟩
      · exact Or.inl g
      · exact Or.inr ⟨j, by omega, g2, g3⟩
theorem ch_ex {T : TT} {S : Nat} {u : Nat → Bool} {e : Int32} {j : Nat} (h1 : u j = false) (h2 : b2i (ent T S j) = e) : ∀ n, n < 2 ^ 31 → j < n → ¬ accT (chS T S u e) n (-1) = -1 := by
  intro n
  induction n with
  | zero => intro _ h; omega
  | succ n ih =>
    intro hn hj
    simp only [accT]
    generalize accT (chS T S u e) n (-1) = b at ih ⊢
    unfold chS
    by_cases c : u n = false ∧ b2i (ent T S n) = e ∧ (b = -1 ∨ ao T b.toNatClampNeg 5 - ao T b.toNatClampNeg 4 < ao T n 5 - ao T n 4)
    · rw [if_pos c]; exact nI_ne1 (by omega)
    · rw [if_neg c]
      by_cases hjn : j = n
      · subst hjn
        exact fun g => c ⟨h1, h2, Or.inl g⟩
      · exact ih (by omega) (by omega)
theorem chC_ok {T : TT} {S A : Nat} {u : Nat → Bool} {e : Int32} (he : e = 0 ∨ e = 1) (hA : A ≤ 24) {j : Nat} (hj : j < A) (hu : u j = false) : ∃ a, a < A ∧ u a = false ∧ chC T S A u e = nI a := by
  unfold chC chR
  by_cases c : accT (chS T S u e) A (-1) = -1
  · rw [if_pos c]
    have hne : ¬ b2i (ent T S j) = e := fun g => ch_ex hu g A (by omega) hj c
    have h2 : b2i (ent T S j) = (if e = 0 then 1 else 0) := by
      rcases he with rfl | rfl
      · rw [if_pos rfl]; exact (b2i_01 _).resolve_left hne
      · rw [if_neg (by decide)]; exact (b2i_01 _).resolve_right hne
    rcases ch_in (T := T) (S := S) (u := u) (e := if e = 0 then 1 else 0) A with g | ⟨a, g1, g2, g3⟩
    · exact absurd g (ch_ex hu h2 A (by omega) hj)
    · exact ⟨a, g1, g2, g3⟩
  · rw [if_neg c]
    rcases ch_in (T := T) (S := S) (u := u) (e := e) A with g | ⟨a, g1, g2, g3⟩
    · exact absurd g c
    · exact ⟨a, g1, g2, g3⟩
set_option maxHeartbeats 2000000 in
theorem v_X2_allAsks_0 {K : Sh} {x : Cn} {Q : Int32 → Cn → Prop} {b0 : Nat} {b0_0 : Nat} (k_b0 : kk K b0 = some (2, 0)) (g_b0_0 : gr x b0 0 = some b0_0) (k_b0_0 : kk K b0_0 = some (4, 0)) (K0 : Q ((1 <<< ((gi x b0_0 4) &&& 31)) - 1) x) : mSI mX2_allAsks [.ref b0] K x Q := by
  refine s_I (by decide) (by simp [Value.category]) (Nat.le_of_ble_eq_true rfl) ?_
  show mGM mX2_allAsks 0 [some (.ref b0)] [] (hp K x) (PI K Q)
  refine r_iconst (pc := 0) (v := 1) dX2_allAsks_0 (by decide) ?_
  refine r_aload_n (pc := 1) dX2_allAsks_1 rfl ?_
  refine s_getR (pc := 2) dX2_allAsks_2 fl_X2_12 rfl k_b0 g_b0_0 ?_
  refine s_getI (pc := 5) dX2_allAsks_5 fl_X2_53 rfl k_b0_0 ?_
  refine r_ishl (pc := 8) dX2_allAsks_8 ?_
  refine r_iconst (pc := 9) (v := 1) dX2_allAsks_9 (by decide) ?_
  refine r_isub (pc := 10) dX2_allAsks_10 ?_
  exact s_iret rfl dX2_allAsks_11 K0
set_option maxHeartbeats 2000000 in
theorem v_X2_isEntrants_0 {K : Sh} {x : Cn} {Q : Int32 → Cn → Prop} {b0 : Nat} {b1 : Nat} {b0_1 : Nat} {n_b0_1 : Nat} (k_b0 : kk K b0 = some (2, 0)) (g_b0_1 : gr x b0 1 = some b0_1) (k_b1 : kk K b1 = some (0, 0)) (k_b0_1 : kk K b0_1 = some (20, n_b0_1)) (K0 : vp_in (((gi x b1 0) * 7) + (gi x b1 1)) n_b0_1 ∧ ((2 ≤ (gi x b0_1 ((((gi x b1 0) * 7) + (gi x b1 1)) : Int32).toNatClampNeg) → (Q 0 x)) ∧ (¬ 2 ≤ (gi x b0_1 ((((gi x b1 0) * 7) + (gi x b1 1)) : Int32).toNatClampNeg) → (Q 1 x)))) : mSI mX2_isEntrants [.ref b0, .ref b1] K x Q := by
  refine s_I (by decide) (by simp [Value.category]) (Nat.le_of_ble_eq_true rfl) ?_
  show mGM mX2_isEntrants 0 [some (.ref b0), some (.ref b1)] [] (hp K x) (PI K Q)
  refine r_aload_n (pc := 0) dX2_isEntrants_0 rfl ?_
  refine s_getR (pc := 1) dX2_isEntrants_1 fl_X2_18 rfl k_b0 g_b0_1 ?_
  refine r_aload_n (pc := 4) dX2_isEntrants_4 rfl ?_
  refine s_getI (pc := 5) dX2_isEntrants_5 fl_X2_78 rfl k_b1 ?_
  refine r_bipush (pc := 8) (v := 7) dX2_isEntrants_8 (by decide) ?_
  refine r_imul (pc := 10) dX2_isEntrants_10 ?_
  refine r_aload_n (pc := 11) dX2_isEntrants_11 rfl ?_
  refine s_getI (pc := 12) dX2_isEntrants_12 fl_X2_81 rfl k_b1 ?_
  refine r_iadd (pc := 15) dX2_isEntrants_15 ?_
  obtain ⟨i_1, K0⟩ := K0
  refine s_iald (pc := 16) dX2_isEntrants_16 k_b0_1 i_1 ?_
  refine r_iconst (pc := 17) (v := 2) dX2_isEntrants_17 (by decide) ?_
  refine r_icmp_ge (pc := 18) (tgt := 25) dX2_isEntrants_18 (by decide) (fun q => ?_) (fun q => ?_)
  · have K0 := K0.1 q
    refine r_iconst (pc := 25) (v := 0) dX2_isEntrants_25 (by decide) ?_
    exact s_zret rfl (by decide) dX2_isEntrants_26 K0
  · have K0 := K0.2 q
    refine r_iconst (pc := 21) (v := 1) dX2_isEntrants_21 (by decide) ?_
    refine r_goto (pc := 22) (tgt := 26) dX2_isEntrants_22 (by decide) ?_
    exact s_zret rfl (by decide) dX2_isEntrants_26 K0
section
theorem sp_X2_isEntrants {x : Cn} {Q : Int32 → Cn → Prop} {T : TT} {C W S a p : Nat} (P : PLf x) (hl : HLD x T S) (hC : C ≤ 8) (kp : kk KW p = some (0, 0)) (ha : ASR x p T a) (w : Was T C W a) (k : Q (b2i (ent T S a)) x) : mSI mX2_isEntrants [.ref 117, .ref p] KW x Q := by
  obtain ⟨⟨c, hc, ec⟩, ⟨d, hd, ed⟩, -⟩ := w
  refine v_X2_isEntrants_0 k117 P.2.1 kp k172 ?_
  rw [ha 0 (by decide), ha 1 (by decide), ec, ed, show (7 : Int32) = nI 7 by decide, pk_mul, nI_add, nI_clamp (by omega), hl c d (by omega) hd]
  refine ⟨vp_in_nI (by omega) (by decide), fun z => (b2i_k k).2 (fun u => ?_), fun z => (b2i_k k).1 ?_⟩
  · have u : hN T S (ao T a 0) (ao T a 1) < 2 := u
    rw [ec, ed] at u
    exact Int32.not_le.mpr u z
  · show hN T S (ao T a 0) (ao T a 1) < 2
    rw [ec, ed]
    exact Int32.not_le.mp z
def mst (T : TT) (b : Int32) : Int32 := if b = -1 then 0 else (ao T b.toNatClampNeg 5 - ao T b.toNatClampNeg 4) + 1
end
set_option maxHeartbeats 2000000 in
theorem v_X2_longestOf_0 {K : Sh} {x : Cn} {Q : Int32 → Cn → Prop} {b0 : Nat} {l1 : Int32} {l2 : Int32}   (K0 : GI mX2_longestOf 8 [some (.ref b0), some (.int l1), some (.int l2), some (.int (-1)), some (.int 0), some (.int 0), none, none] [] K x Q) : mSI mX2_longestOf [.ref b0, .int l1, .int l2] K x Q := by
  refine s_I (by decide) (by simp [Value.category]) (Nat.le_of_ble_eq_true rfl) ?_
  show mGM mX2_longestOf 0 [some (.ref b0), some (.int l1), some (.int l2), none, none, none, none, none] [] (hp K x) (PI K Q)
  refine r_iconst (pc := 0) (v := (-1)) dX2_longestOf_0 (by decide) ?_
  refine r_istore_n (pc := 1) dX2_longestOf_1 (by decide) ?_
  refine r_iconst (pc := 2) (L := [some (.ref b0), some (.int l1), some (.int l2), some (.int (-1)), none, none, none, none]) (v := 0) dX2_longestOf_2 (by decide) ?_
  refine r_istore (pc := 3) dX2_longestOf_3 (by decide) ?_
  refine r_iconst (pc := 5) (L := [some (.ref b0), some (.int l1), some (.int l2), some (.int (-1)), some (.int 0), none, none, none]) (v := 0) dX2_longestOf_5 (by decide) ?_
  refine r_istore (pc := 6) dX2_longestOf_6 (by decide) ?_
  exact r_le (L' := [some (.ref b0), some (.int l1), some (.int l2), some (.int (-1)), some (.int 0), some (.int 0), none, none]) ⟨rfl, ⟨rfl, ⟨rfl, ⟨rfl, ⟨rfl, ⟨rfl, trivial⟩⟩⟩⟩⟩⟩ K0
set_option maxHeartbeats 2000000 in
theorem v_X2_longestOf_8 {K : Sh} {x : Cn} {Q : Int32 → Cn → Prop} {b0 : Nat} {l1 : Int32} {l2 : Int32} {l3 : Int32} {l4 : Int32} {l5 : Int32} {b0_0 : Nat} {b0_0_8 : Nat} {n_b0_0_8 : Nat} (k_b0 : kk K b0 = some (2, 0)) (g_b0_0 : gr x b0 0 = some b0_0) (k_b0_0 : kk K b0_0 = some (4, 0)) (g_b0_0_8 : gr x b0_0 8 = some b0_0_8) (k_b0_0_8 : kk K b0_0_8 = some (24, n_b0_0_8)) (K0 : ((gi x b0_0 4) ≤ l5 → (Q l3 x)) ∧ (¬ (gi x b0_0 4) ≤ l5 → (vp_in l5 n_b0_0_8 ∧ (∃ c_3 : Nat, gr x b0_0_8 ((l5 : Int32).toNatClampNeg) = some c_3 ∧ (kk K c_3 = some (0, 0) ∧ ((¬ (f_bit l1 l5) → (GI mX2_longestOf 8 [some (.ref b0), some (.int l1), some (.int l2), some (.int l3), some (.int l4), some (.int (l5 + 1)), none, none] [] K x Q)) ∧ ((f_bit l1 l5) → (((((gi x c_3 5) - (gi x c_3 4)) + 1) ≤ l4 → (GI mX2_longestOf 8 [some (.ref b0), some (.int l1), some (.int l2), some (.int l3), some (.int l4), some (.int (l5 + 1)), none, none] [] K x Q)) ∧ (¬ (((gi x c_3 5) - (gi x c_3 4)) + 1) ≤ l4 → (mSI mX2_isEntrants [.ref b0, .ref c_3] K x (fun r_9 y_8 => (¬ r_9 = l2 → (GI mX2_longestOf 8 [some (.ref b0), some (.int l1), some (.int l2), some (.int l3), some (.int l4), some (.int (l5 + 1)), none, none] [] K y_8 Q)) ∧ (r_9 = l2 → (GI mX2_longestOf 8 [some (.ref b0), some (.int l1), some (.int l2), some (.int l5), some (.int (((gi x c_3 5) - (gi x c_3 4)) + 1)), some (.int (l5 + 1)), none, none] [] K y_8 Q))))))))))))) : GI mX2_longestOf 8 [some (.ref b0), some (.int l1), some (.int l2), some (.int l3), some (.int l4), some (.int l5), none, none] [] K x Q := by
  show mGM mX2_longestOf 8 [some (.ref b0), some (.int l1), some (.int l2), some (.int l3), some (.int l4), some (.int l5), none, none] [] (hp K x) (PI K Q)
  refine r_iload (pc := 8) dX2_longestOf_8 rfl ?_
  refine r_aload_n (pc := 10) dX2_longestOf_10 rfl ?_
  refine s_getR (pc := 11) dX2_longestOf_11 fl_X2_12 rfl k_b0 g_b0_0 ?_
  refine s_getI (pc := 14) dX2_longestOf_14 fl_X2_53 rfl k_b0_0 ?_
  refine r_icmp_ge (pc := 17) (tgt := 86) dX2_longestOf_17 (by decide) (fun q => ?_) (fun q => ?_)
  · have K0 := K0.1 q
    refine r_iload_n (pc := 86) dX2_longestOf_86 rfl ?_
    exact s_iret rfl dX2_longestOf_87 K0
  · have K0 := K0.2 q
    refine r_aload_n (pc := 20) dX2_longestOf_20 rfl ?_
    refine s_getR (pc := 21) dX2_longestOf_21 fl_X2_12 rfl k_b0 g_b0_0 ?_
    refine s_getR (pc := 24) dX2_longestOf_24 fl_X2_85 rfl k_b0_0 g_b0_0_8 ?_
    refine r_iload (pc := 27) dX2_longestOf_27 rfl ?_
    obtain ⟨i_2, K0⟩ := K0
    obtain ⟨c_3, g_4, K0⟩ := K0
    refine s_aald (pc := 29) dX2_longestOf_29 (by decide) rfl k_b0_0_8 i_2 g_4 ?_
    refine r_astore (pc := 30) dX2_longestOf_30 (by decide) ?_
    refine r_aload (pc := 32) (L := [some (.ref b0), some (.int l1), some (.int l2), some (.int l3), some (.int l4), some (.int l5), some (.ref c_3), none]) dX2_longestOf_32 rfl ?_
    obtain ⟨e_5, K0⟩ := K0
    refine s_getI (pc := 34) dX2_longestOf_34 fl_X2_89 rfl e_5 ?_
    refine r_aload (pc := 37) dX2_longestOf_37 rfl ?_
    refine s_getI (pc := 39) dX2_longestOf_39 fl_X2_92 rfl e_5 ?_
    refine r_isub (pc := 42) dX2_longestOf_42 ?_
    refine r_iconst (pc := 43) (v := 1) dX2_longestOf_43 (by decide) ?_
    refine r_iadd (pc := 44) dX2_longestOf_44 ?_
    refine r_istore (pc := 45) dX2_longestOf_45 (by decide) ?_
    refine r_iload_n (pc := 47) (L := [some (.ref b0), some (.int l1), some (.int l2), some (.int l3), some (.int l4), some (.int l5), some (.ref c_3), some (.int (((gi x c_3 5) - (gi x c_3 4)) + 1))]) dX2_longestOf_47 rfl ?_
    refine r_iload (pc := 48) dX2_longestOf_48 rfl ?_
    refine s_SNI (pc := 50) mX7_hasBit (As := [.int l1, .int l5]) dX2_longestOf_50 nl_X2_95 st_X7_hasBit mo_X7_hasBit ⟨by decide, by decide⟩ (Nat.le_of_ble_eq_true rfl) (sp_X7_hasBit  ?_)
    refine r_if_eq (pc := 53) (tgt := 80) dX2_longestOf_53 (by decide) (fun q => ?_) (fun q => ?_)
    · have q := (b2i_z _).mp q
      have K0 := K0.1 q
      refine r_iinc (pc := 80) (v := l5 + 1) dX2_longestOf_80 rfl rfl (by decide) ?_
      refine r_goto (pc := 83) (L := [some (.ref b0), some (.int l1), some (.int l2), some (.int l3), some (.int l4), some (.int (l5 + 1)), some (.ref c_3), some (.int (((gi x c_3 5) - (gi x c_3 4)) + 1))]) (tgt := 8) dX2_longestOf_83 (by decide) ?_
      exact r_le (L' := [some (.ref b0), some (.int l1), some (.int l2), some (.int l3), some (.int l4), some (.int (l5 + 1)), none, none]) ⟨rfl, ⟨rfl, ⟨rfl, ⟨rfl, ⟨rfl, ⟨rfl, trivial⟩⟩⟩⟩⟩⟩ K0
    · have q := b2i_nz q
      have K0 := K0.2 q
      refine r_iload (pc := 56) dX2_longestOf_56 rfl ?_
      refine r_iload (pc := 58) dX2_longestOf_58 rfl ?_
      refine r_icmp_le (pc := 60) (tgt := 80) dX2_longestOf_60 (by decide) (fun q => ?_) (fun q => ?_)
      · have K0 := K0.1 q
        refine r_iinc (pc := 80) (v := l5 + 1) dX2_longestOf_80 rfl rfl (by decide) ?_
        refine r_goto (pc := 83) (L := [some (.ref b0), some (.int l1), some (.int l2), some (.int l3), some (.int l4), some (.int (l5 + 1)), some (.ref c_3), some (.int (((gi x c_3 5) - (gi x c_3 4)) + 1))]) (tgt := 8) dX2_longestOf_83 (by decide) ?_
        exact r_le (L' := [some (.ref b0), some (.int l1), some (.int l2), some (.int l3), some (.int l4), some (.int (l5 + 1)), none, none]) ⟨rfl, ⟨rfl, ⟨rfl, ⟨rfl, ⟨rfl, ⟨rfl, trivial⟩⟩⟩⟩⟩⟩ K0
      · have K0 := K0.2 q
        refine r_aload_n (pc := 63) dX2_longestOf_63 rfl ?_
        refine r_aload (pc := 64) dX2_longestOf_64 rfl ?_
        refine s_VI (pc := 66) mX2_isEntrants (ci := 2) (a := b0) (As := [.ref c_3]) dX2_longestOf_66 lk_X2_99 in_X2_isEntrants mo_X2_isEntrants ⟨by decide, rfl⟩ ⟨by decide, by decide⟩ (Nat.le_of_ble_eq_true rfl) k_b0 (mSI_mono K0 (fun r_9 y_8 K0 => ?_))
        refine r_iload_n (pc := 69) dX2_longestOf_69 rfl ?_
        refine r_icmp_ne (pc := 70) (tgt := 80) dX2_longestOf_70 (by decide) (fun q => ?_) (fun q => ?_)
        · have K0 := K0.1 q
          refine r_iinc (pc := 80) (v := l5 + 1) dX2_longestOf_80 rfl rfl (by decide) ?_
          refine r_goto (pc := 83) (L := [some (.ref b0), some (.int l1), some (.int l2), some (.int l3), some (.int l4), some (.int (l5 + 1)), some (.ref c_3), some (.int (((gi x c_3 5) - (gi x c_3 4)) + 1))]) (tgt := 8) dX2_longestOf_83 (by decide) ?_
          exact r_le (L' := [some (.ref b0), some (.int l1), some (.int l2), some (.int l3), some (.int l4), some (.int (l5 + 1)), none, none]) ⟨rfl, ⟨rfl, ⟨rfl, ⟨rfl, ⟨rfl, ⟨rfl, trivial⟩⟩⟩⟩⟩⟩ K0
        · have K0 := K0.2 q
          refine r_iload (pc := 73) dX2_longestOf_73 rfl ?_
          refine r_istore_n (pc := 75) dX2_longestOf_75 (by decide) ?_
          refine r_iload (pc := 76) (L := [some (.ref b0), some (.int l1), some (.int l2), some (.int l5), some (.int l4), some (.int l5), some (.ref c_3), some (.int (((gi x c_3 5) - (gi x c_3 4)) + 1))]) dX2_longestOf_76 rfl ?_
          refine r_istore (pc := 78) dX2_longestOf_78 (by decide) ?_
          refine r_iinc (pc := 80) (L := [some (.ref b0), some (.int l1), some (.int l2), some (.int l5), some (.int (((gi x c_3 5) - (gi x c_3 4)) + 1)), some (.int l5), some (.ref c_3), some (.int (((gi x c_3 5) - (gi x c_3 4)) + 1))]) (v := l5 + 1) dX2_longestOf_80 rfl rfl (by decide) ?_
          refine r_goto (pc := 83) (L := [some (.ref b0), some (.int l1), some (.int l2), some (.int l5), some (.int (((gi x c_3 5) - (gi x c_3 4)) + 1)), some (.int (l5 + 1)), some (.ref c_3), some (.int (((gi x c_3 5) - (gi x c_3 4)) + 1))]) (tgt := 8) dX2_longestOf_83 (by decide) ?_
          exact r_le (L' := [some (.ref b0), some (.int l1), some (.int l2), some (.int l5), some (.int (((gi x c_3 5) - (gi x c_3 4)) + 1)), some (.int (l5 + 1)), none, none]) ⟨rfl, ⟨rfl, ⟨rfl, ⟨rfl, ⟨rfl, ⟨rfl, trivial⟩⟩⟩⟩⟩⟩ K0
section
theorem sp_X2_longestOf {x : Cn} {Q : Int32 → Cn → Prop} {T : TT} {W C S A N : Nat} {u : Nat → Bool} {left e : Int32} (P : PLf x) (E : SEB x 118 T W C S A N) (hl : HLD x T S) (hu : ∀ a, a < A → tb left a = !(u a)) (k : Q (chR T S A u e) x) : mSI mX2_longestOf [.ref 117, .int left, .int e] KW x Q := by
  have hn := E.nums
  have hA : A ≤ 24 := hn.2.2.2.2.2.2.2.1
  have hC : C ≤ 8 := hn.2.2.2.2.2.1
  have hW : W ≤ 30 := hn.2.2.2.2.1
  have e0 : mst T (-1) = 0 := if_pos rfl
  have em : ∀ j, j < 24 → mst T (nI j) = (ao T j 5 - ao T j 4) + 1 := fun j hj => by
    unfold mst
    rw [if_neg (nI_ne1 (by omega)), nI_clamp (by omega)]
  have key := lp_acc (chS T S u e) (fun a b => (b = -1 ∨ ∃ j, j < A ∧ b = nI j) → GI mX2_longestOf 8 [some (.ref 117), some (.int left), some (.int e), some (.int b), some (.int (mst T b)), some (.int (nI a)), none, none] [] KW x Q) A (-1) ?_ (fun a b ha n1 => ?_) (Or.inl rfl)
  · rw [e0] at key
    exact v_X2_longestOf_0 key
  · intro _
    exact v_X2_longestOf_8 k117 P.1 (ks0 E.1) E.2.1.2.2.2.1 (ks4 E.1) ⟨fun _ => k, fun z => absurd (by rw [hn.2.2.2.1]; exact Int32.le_refl _) z⟩
  · intro hb
    obtain ⟨p, e1, e2, e3, w⟩ := E.ask ha
    obtain ⟨f, l, f1, f2, f3, f4⟩ := id w.2.2.2.2.1
    have len : ao T a 5 - ao T a 4 = nI (l - f) := by rw [f3, f4]; exact pk_sub (by omega)
    have lm : (ao T a 5 - ao T a 4) + 1 ≤ mst T b ↔ ¬ (b = -1 ∨ ao T b.toNatClampNeg 5 - ao T b.toNatClampNeg 4 < ao T a 5 - ao T a 4) := by
      rw [len, nI_1]
      rcases hb with rfl | ⟨j, hj, rfl⟩
      · rw [e0]
        exact ⟨fun g => absurd ((nI_leI (b := 0) (by omega) (by decide)).mp g) (by omega), fun g => absurd (Or.inl rfl) g⟩
      · obtain ⟨-, -, -, -, ⟨f', l', g1, g2, g3, g4⟩, -⟩ := E.2.2.2.2.2.2.2.2.2.2.2.2.2.2.2.2 j hj
        rw [em j (by omega), nI_clamp (by omega), g3, g4, pk_sub (by omega), nI_1, nI_leI (by omega) (by omega), nI_ltI (by omega) (by omega)]
        constructor
        · rintro h (h2 | h2)
          · exact nI_ne1 (by omega) h2
          · omega
        · intro h
          by_cases c : l - f ≤ l' - f'
          · omega
          · exact absurd (Or.inr (by omega)) h
    refine v_X2_longestOf_8 k117 P.1 (ks0 E.1) E.2.1.2.2.2.1 (ks4 E.1) ⟨fun z => absurd (by rw [hn.2.2.2.1] at z; exact z) (nI_ge ha (by omega)), fun _ => ⟨vp_in_nI (by omega) (by decide), p, by rw [nI_clamp (by omega)]; exact e1, e2, ?_⟩⟩
    rw [f_bit_tb _ (by omega), hu a ha, nI_1, e3 4 (by decide), e3 5 (by decide)]
    refine ⟨fun z => n1 b ?_ hb, fun z1 => ⟨fun z2 => n1 b ?_ hb, fun z2 => sp_X2_isEntrants P hl hC e2 e3 w ⟨fun z3 => n1 b ?_ hb, fun z3 => ?_⟩⟩⟩
    · unfold chS; rw [if_neg (fun g => z (by rw [g.1]; rfl))]
    · unfold chS; rw [if_neg (fun g => lm.mp z2 g.2.2)]
    · unfold chS; rw [if_neg (fun g => z3 g.2.1)]
    · have := n1 (nI a) (by unfold chS; rw [if_pos ⟨by simpa using z1, z3, Classical.byContradiction (fun g => z2 (lm.mpr g))⟩]) (Or.inr ⟨a, ha, rfl⟩)
      rw [em a (by omega)] at this
      exact this
end
set_option maxHeartbeats 2000000 in
theorem v_X2_chosen_0 {K : Sh} {x : Cn} {Q : Int32 → Cn → Prop} {b0 : Nat} {l1 : Int32} {l2 : Int32}  (k_b0 : kk K b0 = some (2, 0)) (K0 : mSI mX2_longestOf [.ref b0, .int l1, .int l2] K x (fun r_2 y_1 => (r_2 = (-1) → ((¬ l2 = 0 → (mSI mX2_longestOf [.ref b0, .int l1, .int 0] K y_1 (fun r_6 y_5 => Q r_6 y_5))) ∧ (l2 = 0 → (mSI mX2_longestOf [.ref b0, .int l1, .int 1] K y_1 (fun r_8 y_7 => Q r_8 y_7))))) ∧ (¬ r_2 = (-1) → (Q r_2 y_1)))) : mSI mX2_chosen [.ref b0, .int l1, .int l2] K x Q := by
  refine s_I (by decide) (by simp [Value.category]) (Nat.le_of_ble_eq_true rfl) ?_
  show mGM mX2_chosen 0 [some (.ref b0), some (.int l1), some (.int l2), none] [] (hp K x) (PI K Q)
  refine r_aload_n (pc := 0) dX2_chosen_0 rfl ?_
  refine r_iload_n (pc := 1) dX2_chosen_1 rfl ?_
  refine r_iload_n (pc := 2) dX2_chosen_2 rfl ?_
  refine s_VI (pc := 3) mX2_longestOf (ci := 2) (a := b0) (As := [.int l1, .int l2]) dX2_chosen_3 lk_X2_82 in_X2_longestOf mo_X2_longestOf ⟨by decide, rfl⟩ ⟨by decide, by decide⟩ (Nat.le_of_ble_eq_true rfl) k_b0 (mSI_mono K0 (fun r_2 y_1 K0 => ?_))
  refine r_istore_n (pc := 6) dX2_chosen_6 (by decide) ?_
  refine r_iload_n (pc := 7) (L := [some (.ref b0), some (.int l1), some (.int l2), some (.int r_2)]) dX2_chosen_7 rfl ?_
  refine r_iconst (pc := 8) (v := (-1)) dX2_chosen_8 (by decide) ?_
  refine r_icmp_eq (pc := 9) (tgt := 16) dX2_chosen_9 (by decide) (fun q => ?_) (fun q => ?_)
  · have K0 := K0.1 q
    refine r_aload_n (pc := 16) dX2_chosen_16 rfl ?_
    refine r_iload_n (pc := 17) dX2_chosen_17 rfl ?_
    refine r_iload_n (pc := 18) dX2_chosen_18 rfl ?_
    refine r_if_ne (pc := 19) (tgt := 26) dX2_chosen_19 (by decide) (fun q => ?_) (fun q => ?_)
    · have K0 := K0.1 q
      refine r_iconst (pc := 26) (v := 0) dX2_chosen_26 (by decide) ?_
      refine s_VI (pc := 27) mX2_longestOf (ci := 2) (a := b0) (As := [.int l1, .int 0]) dX2_chosen_27 lk_X2_82 in_X2_longestOf mo_X2_longestOf ⟨by decide, rfl⟩ ⟨by decide, by decide⟩ (Nat.le_of_ble_eq_true rfl) k_b0 (mSI_mono K0 (fun r_6 y_5 K0 => ?_))
      exact s_iret rfl dX2_chosen_30 K0
    · have K0 := K0.2 q
      refine r_iconst (pc := 22) (v := 1) dX2_chosen_22 (by decide) ?_
      refine r_goto (pc := 23) (tgt := 27) dX2_chosen_23 (by decide) ?_
      refine s_VI (pc := 27) mX2_longestOf (ci := 2) (a := b0) (As := [.int l1, .int 1]) dX2_chosen_27 lk_X2_82 in_X2_longestOf mo_X2_longestOf ⟨by decide, rfl⟩ ⟨by decide, by decide⟩ (Nat.le_of_ble_eq_true rfl) k_b0 (mSI_mono K0 (fun r_8 y_7 K0 => ?_))
      exact s_iret rfl dX2_chosen_30 K0
  · have K0 := K0.2 q
    refine r_iload_n (pc := 12) dX2_chosen_12 rfl ?_
    refine r_goto (pc := 13) (tgt := 30) dX2_chosen_13 (by decide) ?_
    exact s_iret rfl dX2_chosen_30 K0
section
theorem sp_X2_chosen {x : Cn} {Q : Int32 → Cn → Prop} {T : TT} {W C S A N : Nat} {u : Nat → Bool} {left e : Int32} (P : PLf x) (E : SEB x 118 T W C S A N) (hl : HLD x T S) (hu : ∀ a, a < A → tb left a = !(u a)) (k : Q (chC T S A u e) x) : mSI mX2_chosen [.ref 117, .int left, .int e] KW x Q := by
  unfold chC at k
  refine v_X2_chosen_0 k117 (sp_X2_longestOf P E hl hu ⟨fun z => ⟨fun z2 => sp_X2_longestOf P E hl hu ?_, fun z2 => sp_X2_longestOf P E hl hu ?_⟩, fun z => ?_⟩)
  · rw [if_pos z, if_neg z2] at k; exact k
  · rw [if_pos z, if_pos z2] at k; exact k
  · rw [if_neg z] at k; exact k
end
set_option maxHeartbeats 2000000 in
theorem v_X2_countSlots_0 {K : Sh} {x : Cn} {Q : Cn → Prop} {b0 : Nat}   (K0 : GV mX2_countSlots 2 [some (.ref b0), some (.int 0)] [] K x Q) : mSV mX2_countSlots [.ref b0] K x Q := by
  refine s_V (by decide) (by simp [Value.category]) (Nat.le_of_ble_eq_true rfl) ?_
  show mGM mX2_countSlots 0 [some (.ref b0), none] [] (hp K x) (PV K Q)
  refine r_iconst (pc := 0) (v := 0) dX2_countSlots_0 (by decide) ?_
  refine r_istore_n (pc := 1) dX2_countSlots_1 (by decide) ?_
  exact r_le (L' := [some (.ref b0), some (.int 0)]) ⟨rfl, ⟨rfl, trivial⟩⟩ K0
set_option maxHeartbeats 2000000 in
theorem v_X2_countSlots_2 {K : Sh} {x : Cn} {Q : Cn → Prop} {b0 : Nat} {l1 : Int32} {b0_1 : Nat} {n_b0_1 : Nat} (k_b0 : kk K b0 = some (2, 0)) (g_b0_1 : gr x b0 1 = some b0_1) (k_b0_1 : kk K b0_1 = some (20, n_b0_1)) (K0 : ((Int32.ofNat n_b0_1) ≤ l1 → (GV mX2_countSlots 26 [some (.ref b0), some (.int 0)] [] K x Q)) ∧ (¬ (Int32.ofNat n_b0_1) ≤ l1 → (vp_in l1 n_b0_1 ∧ (GV mX2_countSlots 2 [some (.ref b0), some (.int (l1 + 1))] [] K (ui x b0_1 (l1 : Int32).toNatClampNeg 0) Q)))) : GV mX2_countSlots 2 [some (.ref b0), some (.int l1)] [] K x Q := by
  show mGM mX2_countSlots 2 [some (.ref b0), some (.int l1)] [] (hp K x) (PV K Q)
  refine r_iload_n (pc := 2) dX2_countSlots_2 rfl ?_
  refine r_aload_n (pc := 3) dX2_countSlots_3 rfl ?_
  refine s_getR (pc := 4) dX2_countSlots_4 fl_X2_18 rfl k_b0 g_b0_1 ?_
  refine s_alen (pc := 7) dX2_countSlots_7 k_b0_1 (by decide) ?_
  refine r_icmp_ge (pc := 8) (tgt := 24) dX2_countSlots_8 (by decide) (fun q => ?_) (fun q => ?_)
  · have K0 := K0.1 q
    refine r_iconst (pc := 24) (v := 0) dX2_countSlots_24 (by decide) ?_
    refine r_istore_n (pc := 25) dX2_countSlots_25 (by decide) ?_
    exact r_le (L' := [some (.ref b0), some (.int 0)]) ⟨rfl, ⟨rfl, trivial⟩⟩ K0
  · have K0 := K0.2 q
    refine r_aload_n (pc := 11) dX2_countSlots_11 rfl ?_
    refine s_getR (pc := 12) dX2_countSlots_12 fl_X2_18 rfl k_b0 g_b0_1 ?_
    refine r_iload_n (pc := 15) dX2_countSlots_15 rfl ?_
    refine r_iconst (pc := 16) (v := 0) dX2_countSlots_16 (by decide) ?_
    obtain ⟨i_2, K0⟩ := K0
    refine s_iast (pc := 17) dX2_countSlots_17 k_b0_1 i_2 ?_
    refine r_iinc (pc := 18) (v := l1 + 1) dX2_countSlots_18 rfl rfl (by decide) ?_
    refine r_goto (pc := 21) (L := [some (.ref b0), some (.int (l1 + 1))]) (tgt := 2) dX2_countSlots_21 (by decide) ?_
    exact r_le (L' := [some (.ref b0), some (.int (l1 + 1))]) ⟨rfl, ⟨rfl, trivial⟩⟩ K0
set_option maxHeartbeats 2000000 in
theorem v_X2_countSlots_26 {K : Sh} {x : Cn} {Q : Cn → Prop} {b0 : Nat} {l1 : Int32} {b0_0 : Nat} {b0_1 : Nat} {b0_0_7 : Nat} {n_b0_0_7 : Nat} {n_b0_1 : Nat} (k_b0 : kk K b0 = some (2, 0)) (g_b0_0 : gr x b0 0 = some b0_0) (k_b0_0 : kk K b0_0 = some (4, 0)) (g_b0_1 : gr x b0 1 = some b0_1) (g_b0_0_7 : gr x b0_0 7 = some b0_0_7) (k_b0_0_7 : kk K b0_0_7 = some (23, n_b0_0_7)) (k_b0_1 : kk K b0_1 = some (20, n_b0_1)) (K0 : ((gi x b0_0 3) ≤ l1 → (Q x)) ∧ (¬ (gi x b0_0 3) ≤ l1 → (vp_in l1 n_b0_0_7 ∧ (∃ c_3 : Nat, gr x b0_0_7 ((l1 : Int32).toNatClampNeg) = some c_3 ∧ (kk K c_3 = some (5, 0) ∧ (vp_in (((gi x c_3 0) * 7) + (gi x c_3 1)) n_b0_1 ∧ (GV mX2_countSlots 26 [some (.ref b0), some (.int (l1 + 1))] [] K (ui x b0_1 ((((gi x c_3 0) * 7) + (gi x c_3 1)) : Int32).toNatClampNeg ((gi x b0_1 ((((gi x c_3 0) * 7) + (gi x c_3 1)) : Int32).toNatClampNeg) + 1)) Q))))))) : GV mX2_countSlots 26 [some (.ref b0), some (.int l1)] [] K x Q := by
  show mGM mX2_countSlots 26 [some (.ref b0), some (.int l1)] [] (hp K x) (PV K Q)
  refine r_iload_n (pc := 26) dX2_countSlots_26 rfl ?_
  refine r_aload_n (pc := 27) dX2_countSlots_27 rfl ?_
  refine s_getR (pc := 28) dX2_countSlots_28 fl_X2_12 rfl k_b0 g_b0_0 ?_
  refine s_getI (pc := 31) dX2_countSlots_31 fl_X2_63 rfl k_b0_0 ?_
  refine r_icmp_ge (pc := 34) (tgt := 80) dX2_countSlots_34 (by decide) (fun q => ?_) (fun q => ?_)
  · have K0 := K0.1 q
    exact s_ret rfl dX2_countSlots_80 K0
  · have K0 := K0.2 q
    refine r_aload_n (pc := 37) dX2_countSlots_37 rfl ?_
    refine s_getR (pc := 38) dX2_countSlots_38 fl_X2_18 rfl k_b0 g_b0_1 ?_
    refine r_aload_n (pc := 41) dX2_countSlots_41 rfl ?_
    refine s_getR (pc := 42) dX2_countSlots_42 fl_X2_12 rfl k_b0 g_b0_0 ?_
    refine s_getR (pc := 45) dX2_countSlots_45 fl_X2_66 rfl k_b0_0 g_b0_0_7 ?_
    refine r_iload_n (pc := 48) dX2_countSlots_48 rfl ?_
    obtain ⟨i_2, K0⟩ := K0
    obtain ⟨c_3, g_4, K0⟩ := K0
    refine s_aald (pc := 49) dX2_countSlots_49 (by decide) rfl k_b0_0_7 i_2 g_4 ?_
    obtain ⟨e_5, K0⟩ := K0
    refine s_getI (pc := 50) dX2_countSlots_50 fl_X2_70 rfl e_5 ?_
    refine r_bipush (pc := 53) (v := 7) dX2_countSlots_53 (by decide) ?_
    refine r_imul (pc := 55) dX2_countSlots_55 ?_
    refine r_aload_n (pc := 56) dX2_countSlots_56 rfl ?_
    refine s_getR (pc := 57) dX2_countSlots_57 fl_X2_12 rfl k_b0 g_b0_0 ?_
    refine s_getR (pc := 60) dX2_countSlots_60 fl_X2_66 rfl k_b0_0 g_b0_0_7 ?_
    refine r_iload_n (pc := 63) dX2_countSlots_63 rfl ?_
    refine s_aald (pc := 64) dX2_countSlots_64 (by decide) rfl k_b0_0_7 i_2 g_4 ?_
    refine s_getI (pc := 65) dX2_countSlots_65 fl_X2_75 rfl e_5 ?_
    refine r_iadd (pc := 68) dX2_countSlots_68 ?_
    refine r_dup2 (pc := 69) dX2_countSlots_69 rfl rfl ?_
    obtain ⟨i_6, K0⟩ := K0
    refine s_iald (pc := 70) dX2_countSlots_70 k_b0_1 i_6 ?_
    refine r_iconst (pc := 71) (v := 1) dX2_countSlots_71 (by decide) ?_
    refine r_iadd (pc := 72) dX2_countSlots_72 ?_
    refine s_iast (pc := 73) dX2_countSlots_73 k_b0_1 i_6 ?_
    refine r_iinc (pc := 74) (v := l1 + 1) dX2_countSlots_74 rfl rfl (by decide) ?_
    refine r_goto (pc := 77) (L := [some (.ref b0), some (.int (l1 + 1))]) (tgt := 26) dX2_countSlots_77 (by decide) ?_
    exact r_le (L' := [some (.ref b0), some (.int (l1 + 1))]) ⟨rfl, ⟨rfl, trivial⟩⟩ K0
section
theorem sp_X2_countSlots {x : Cn} {Q : Cn → Prop} {T : TT} {W C S A N : Nat} (P : PLf x) (E : SEB x 118 T W C S A N) (k : ∀ y, EQx x y 172 → HLD y T S → Q y) : mSV mX2_countSlots [.ref 117] KW x Q := by
  have hC : C ≤ 8 := E.nums.2.2.2.2.2.1
  have hS : S ≤ 24 := E.nums.2.2.2.2.2.2.1
  have key2 : ∀ c s y, s + c = S → EQx x y 172 → HLD y T s → GV mX2_countSlots 26 [some (.ref 117), some (.int (nI s))] [] KW y Q := by
    intro c
    induction c with
    | zero =>
      intro s y hs hy h
      have E2 := E.eqx hy (Or.inr (Or.inr (by decide)))
      have P2 := P.keep hy.1
      have : s = S := by omega
      subst this
      exact v_X2_countSlots_26 k117 P2.1 (ks0 E.1) P2.2.1 E2.2.1.2.2.1 (ks3 E.1) k172 ⟨fun _ => k y hy h, fun z => absurd (by rw [E2.nums.2.2.1]; exact Int32.le_refl _) z⟩
    | succ c ih =>
      intro s y hs hy h
      have E2 := E.eqx hy (Or.inr (Or.inr (by decide)))
      have P2 := P.keep hy.1
      obtain ⟨p, e1, e2, e3, e4, e5, w⟩ := E2.ser (s := s) (by omega)
      obtain ⟨⟨c0, hc0, ec0⟩, ⟨d0, hd0, ed0⟩, -⟩ := w
      refine v_X2_countSlots_26 k117 P2.1 (ks0 E.1) P2.2.1 E2.2.1.2.2.1 (ks3 E.1) k172 ⟨fun z => absurd (by rw [E2.nums.2.2.1] at z; exact z) (nI_ge (by omega) (by omega)), fun _ => ⟨vp_in_nI (by omega) (by decide), p, by rw [nI_clamp (by omega)]; exact e1, e2, ?_⟩⟩
      rw [e3.1 0 (by decide) (by decide), e3.1 1 (by decide) (by decide), ec0, ed0, show (7 : Int32) = nI 7 by decide, pk_mul, nI_add, nI_clamp (by omega), nI_1]
      exact ⟨vp_in_nI (by omega) (by decide), ih (s + 1) _ (by omega) hy.ui (h.inc (by omega) hd0 ec0 ed0 (fun _ _ => ⟨rfl, rfl⟩))⟩
  have key1 : ∀ c m y, m + c = 56 → EQx x y 172 → (∀ i, i < m → gi y 172 i = 0) → GV mX2_countSlots 2 [some (.ref 117), some (.int (nI m))] [] KW y Q := by
    intro c
    induction c with
    | zero =>
      intro m y hm hy h
      have P2 := P.keep hy.1
      have : m = 56 := by omega
      subst this
      exact v_X2_countSlots_2 k117 P2.2.1 k172 ⟨fun _ => key2 S 0 y (by omega) hy (fun c d hc hd => h _ (by omega)), fun z => absurd (Int32.le_refl _) z⟩
    | succ c ih =>
      intro m y hm hy h
      have P2 := P.keep hy.1
      refine v_X2_countSlots_2 k117 P2.2.1 k172 ⟨fun z => absurd z (nI_ge (b := 56) (by omega) (by decide)), fun _ => ?_⟩
      rw [nI_1, nI_clamp (by omega)]
      refine ⟨vp_in_nI (by omega) (by decide), ih (m + 1) _ (by omega) hy.ui (fun i hi => ?_)⟩
      rw [gi_ui]
      by_cases c1 : i = m
      · rw [if_pos ⟨rfl, c1⟩]
      · rw [if_neg (fun u => c1 u.2)]; exact h i (by omega)
  exact v_X2_countSlots_0 (key1 56 0 x (by omega) (EQx.rf x _) (fun i hi => by omega))
theorem tb_alls : ∀ A, A < 25 → ∀ a, a < 32 → tb (((1 : Int32) <<< (nI A &&& 31)) - 1) a = decide (a < A) := by decide
/-- a series comes, of fields f -/
def adT (T : TT) (S : Nat) (f : Nat → Int32) : TT := fun i => if i = 2 then nI (S + 1) else if 62 + 12 * S ≤ i ∧ i < 74 + 12 * S then f (i - (62 + 12 * S)) else T i
theorem so_adT {T : TT} {S k : Nat} {f : Nat → Int32} (hk : k < 12) : so (adT T S f) S k = f k := by
  unfold so adT
  rw [if_neg (by omega), if_pos (by omega)]
  congr 1
  omega
theorem adT_off {T : TT} {S i : Nat} {f : Nat → Int32} (h2 : i ≠ 2) (h : ¬ (62 + 12 * S ≤ i ∧ i < 74 + 12 * S)) : adT T S f i = T i := by
  unfold adT
  rw [if_neg h2, if_neg h]
theorem so_adT' {T : TT} {S s k : Nat} {f : Nat → Int32} (hk : k < 12) (hs : s ≠ S) : so (adT T S f) s k = so T s k := by
  unfold so
  rw [adT_off (by omega) (by omega)]
theorem WFB.add {T : TT} {W C S A N : Nat} {f : Nat → Int32} (F : WFB T W C S A N) (hS : S < 24) (hw : Wse (adT T S f) C W S) : WFB (adT T S f) W C (S + 1) A N := by
  obtain ⟨w1, w2, w3, w4, w5, w6, w7, w8, w9, w10, w11, w12, w13, w14⟩ := F
  refine ⟨by rw [adT_off (by decide) (by omega)]; exact w1, w2, w3, by rw [adT_off (by decide) (by omega)]; exact w4, w5, if_pos rfl, by omega, by rw [adT_off (by decide) (by omega)]; exact w8, w9, by rw [adT_off (by decide) (by omega)]; exact w10, w11, w12, fun s hs => ?_, fun a ha => (w14 a ha).cg (fun k hk => adT_off (by omega) (by omega))⟩
  by_cases c : s = S
  · rw [c]; exact hw
  · exact (w13 s (by omega)).cg (fun k hk => so_adT' hk c)
theorem SEB.addS {x z : Cn} {q p : Nat} {T : TT} {W C S A N : Nat} {f : Nat → Int32} (E : SEB x q T W C S A N) (hS : S < 24) (hp : gr x (q + 3) S = some p) (h1 : z.2 = x.2) (h2 : ∀ b k, q ≤ b → b < q + 54 → b ≠ p → ¬ (b = q ∧ k = 3) → b ≠ q + 5 → gi z b k = gi x b k) (h3 : gi z q 3 = nI (S + 1)) (h4 : ∀ k, k < 12 → gi z p k = f k) (h8 : ∀ k, 8 ≤ k → k < 12 → f k = 0) (hw : Wse (adT T S f) C W S) : SEB z q (adT T S f) W C (S + 1) A N := by
  have F := E.2.2.2.add hS hw
  obtain ⟨e1, e2, ⟨v0, v1, v2, v3, v4, v5, v6, v7⟩, w1, w2, w3, w4, w5, w6, w7, w8, w9, w10, w11, w12, w13, w14⟩ := E
  obtain ⟨r1, r2, r3, r4, r5, r6, r7, r8, r9⟩ := id e2
  have hg : ∀ b k, gr z b k = gr x b k := fun b k => by unfold gr; rw [h1]
  obtain ⟨j, hj, ej⟩ := r6 S hS
  have ep : p = q + 6 + j := Option.some.inj (hp.symm.trans ej)
  have hT : ∀ i, i ≠ 2 → ¬ (62 + 12 * S ≤ i ∧ i < 74 + 12 * S) → adT T S f i = T i := fun i => adT_off
  refine ⟨e1, e2.keep h1, ⟨?_, ?_, ?_, ?_, ?_, ?_, ?_, ?_⟩, F⟩
  · rw [h2 q 0 (by omega) (by omega) (by omega) (by omega) (by omega), hT 0 (by decide) (by omega)]; exact v0
  · rw [h2 q 1 (by omega) (by omega) (by omega) (by omega) (by omega), hT 4 (by decide) (by omega)]; exact v1
  · rw [h2 q 2 (by omega) (by omega) (by omega) (by omega) (by omega), hT 5 (by decide) (by omega)]; exact v2
  · rw [h3]; exact (if_pos rfl).symm
  · rw [h2 q 4 (by omega) (by omega) (by omega) (by omega) (by omega), hT 3 (by decide) (by omega)]; exact v4
  · intro h hh
    rw [h2 (q + 1) h (by omega) (by omega) (by omega) (by omega) (by omega), h2 (q + 2) h (by omega) (by omega) (by omega) (by omega) (by omega), hT _ (by omega) (by omega), hT _ (by omega) (by omega)]
    exact v5 h hh
  · intro s p' hs hp'
    rw [hg] at hp'
    by_cases c : s = S
    · subst c
      have : p' = p := Option.some.inj (hp'.symm.trans hp)
      subst this
      refine ⟨fun k hk _ => by rw [h4 k hk, so_adT hk], ?_⟩
      unfold bas
      rw [h4 7 (by decide), so_adT (by decide), so_adT (by decide), so_adT (by decide), so_adT (by decide), so_adT (by decide), h8 8 (by decide) (by decide), h8 9 (by decide) (by decide), h8 10 (by decide) (by decide), h8 11 (by decide) (by decide)]
      simp
    · have hne : p' ≠ p := fun e => c (r7 s S (by omega) hS (by rw [hp', hp, e]))
      obtain ⟨j', hj', ej'⟩ := r6 s (by omega)
      have ep' : p' = q + 6 + j' := Option.some.inj (hp'.symm.trans ej')
      exact (v6 s p' (by omega) hp').cg (fun k _ => h2 p' k (by omega) (by omega) hne (by omega) (by omega)) (fun k hk => so_adT' hk c)
  · intro a p' ha hp'
    rw [hg] at hp'
    obtain ⟨j', hj', ej'⟩ := r8 a (by omega)
    have ep' : p' = q + 30 + j' := Option.some.inj (hp'.symm.trans ej')
    exact (v7 a p' ha hp').cg (fun k _ => h2 p' k (by omega) (by omega) (by omega) (by omega) (by omega)) (fun k hk => hT _ (by omega) (by omega))
/-- what an ask is granted -/
def grf (T : TT) (a : Nat) (h : Int32) (k : Nat) : Int32 := if k = 0 then ao T a 0 else if k = 1 then ao T a 1 else if k = 2 then h else if k = 3 then ao T a 3 else if k = 4 then 1 else if k = 5 then (if ao T a 4 < T 4 then T 4 else ao T a 4) else if k = 6 then ao T a 5 else if k = 7 then f_span (ao T a 4) (ao T a 5) &&& f_span (T 4) (T 0 - 1) else 0
abbrev grT (T : TT) (S a : Nat) (h : Int32) : TT := adT T S (grf T a h)
theorem mx_nI {f N : Nat} (hf : f < 2 ^ 31) (hN : N < 2 ^ 31) : (if nI f < nI N then nI N else nI f) = nI (if f < N then N else f) := by
  by_cases c : f < N
  · rw [if_pos c, if_pos (nI_lt c hN)]
  · rw [if_neg c, if_neg (nI_nlt (by omega) hf)]
theorem gr_wk {f l N W : Nat} (h1 : f ≤ l) (h2 : l < W) (h3 : W ≤ 30) (h4 : N ≤ l) : f_sb (nI (if f < N then N else f)) (nI l) = f_span (nI f) (nI l) &&& f_span (nI N) (nI W - 1) := by
  refine tb_ext (fun i hi => ?_)
  have hm : (if f < N then N else f) ≤ l ∧ ∀ i, (if f < N then N else f) ≤ i ↔ f ≤ i ∧ N ≤ i := by
    by_cases c : f < N
    · rw [if_pos c]; exact ⟨h4, fun i => by omega⟩
    · rw [if_neg c]; exact ⟨h1, fun i => by omega⟩
  rw [tb_and, tb_sb0 _ (by omega) l (by omega) hm.1 i hi, tb_span0 f (by omega) l (by omega) i hi, tb_fn h3 (by omega) hi (by omega), ← Bool.decide_and]
  refine decide_eq_decide.mpr ?_
  rw [hm.2]
  omega
theorem Was.gr {T : TT} {W C S A N a h : Nat} (F : WFB T W C S A N) (ha : a < A) (hh : h < 24) (hl : ¬ (ao T a 5).toNatClampNeg < N) : Wse (grT T S a (nI h)) C W S := by
  have hW : W ≤ 30 := F.2.2.1
  obtain ⟨⟨c, hc, ec⟩, ⟨d, hd, ed⟩, -, a3, ⟨f, l, f1, f2, f3, f4⟩, -⟩ := F.2.2.2.2.2.2.2.2.2.2.2.2.2 a ha
  rw [f4, nI_clamp (by omega)] at hl
  have e : ∀ k, k < 12 → so (grT T S a (nI h)) S k = grf T a (nI h) k := fun k hk => so_adT hk
  have z : ∀ k, k < 5 → k ≠ 0 → so (grT T S a (nI h)) S (7 + k) = 0 := fun k hk h0 => by
    rw [e _ (by omega)]
    unfold grf
    rw [if_neg (by omega), if_neg (by omega), if_neg (by omega), if_neg (by omega), if_neg (by omega), if_neg (by omega), if_neg (by omega), if_neg (by omega)]
  refine ⟨⟨c, hc, by rw [e 0 (by decide)]; exact ec⟩, ⟨d, hd, by rw [e 1 (by decide)]; exact ed⟩, ⟨h, hh, by rw [e 2 (by decide)]; rfl⟩, by rw [e 3 (by decide)]; exact a3, by rw [e 4 (by decide)]; exact Or.inr rfl, ⟨if f < N then N else f, l, ?_, f2, ?_, by rw [e 6 (by decide)]; exact f4⟩, ?_, ?_⟩
  · by_cases c : f < N
    · rw [if_pos c]; omega
    · rw [if_neg c]; omega
  · rw [e 5 (by decide)]
    show (if ao T a 4 < T 4 then T 4 else ao T a 4) = _
    rw [f3, F.2.2.2.2.2.2.2.2.2.1]
    exact mx_nI (by omega) (by omega)
  · intro i hi k j hk hj h1 h2
    by_cases c1 : k = 0
    · by_cases c2 : j = 0
      · omega
      · rw [z j hj c2, tb_0] at h2; cases h2
    · rw [z k hk c1, tb_0] at h1; cases h1
  · intro i k hk h1
    by_cases c1 : k = 0
    · subst c1
      rw [e (7 + 0) (by decide)] at h1
      have h1 : tb (f_span (ao T a 4) (ao T a 5) &&& f_span (T 4) (T 0 - 1)) i = true := h1
      rw [tb_and, Bool.and_eq_true] at h1
      by_cases c3 : i < 32
      · have h2 := h1.1
        rw [f3, f4, tb_span0 f (by omega) l (by omega) i c3] at h2
        have := of_decide_eq_true h2
        omega
      · rw [tb_ge _ (by omega)] at h1; cases h1.1
    · rw [z k hk c1, tb_0] at h1; cases h1
end
set_option maxHeartbeats 2000000 in
theorem v_X4_addSeries_0 {K : Sh} {x : Cn} {Q : Nat → Cn → Prop} {b0 : Nat} {b0_7 : Nat} {n_b0_7 : Nat} (k_b0 : kk K b0 = some (4, 0)) (g_b0_7 : gr x b0 7 = some b0_7) (k_b0_7 : kk K b0_7 = some (23, n_b0_7)) (K0 : vp_in (if 23 < (gi x b0 3) then 23 else (gi x b0 3)) n_b0_7 ∧ (∃ c_2 : Nat, gr x b0_7 (((if 23 < (gi x b0 3) then 23 else (gi x b0 3)) : Int32).toNatClampNeg) = some c_2 ∧ (Q c_2 (ui x b0 3 ((if 23 < (gi x b0 3) then 23 else (gi x b0 3)) + 1))))) : mSR mX4_addSeries [.ref b0] K x Q := by
  refine s_R (by decide) (by simp [Value.category]) (Nat.le_of_ble_eq_true rfl) ?_
  show mGM mX4_addSeries 0 [some (.ref b0), none] [] (hp K x) (PR K Q)
  refine r_aload_n (pc := 0) dX4_addSeries_0 rfl ?_
  refine s_getI (pc := 1) dX4_addSeries_1 fl_X4_21 rfl k_b0 ?_
  refine r_bipush (pc := 4) (v := 23) dX4_addSeries_4 (by decide) ?_
  refine r_mmin (pc := 6) dX4_addSeries_6 lk_X4_58 mw_min ⟨by decide, by decide⟩ (Nat.le_of_ble_eq_true rfl) ?_
  refine r_istore_n (pc := 9) dX4_addSeries_9 (by decide) ?_
  refine r_aload_n (pc := 10) (L := [some (.ref b0), some (.int (if 23 < (gi x b0 3) then 23 else (gi x b0 3)))]) dX4_addSeries_10 rfl ?_
  refine r_iload_n (pc := 11) dX4_addSeries_11 rfl ?_
  refine r_iconst (pc := 12) (v := 1) dX4_addSeries_12 (by decide) ?_
  refine r_iadd (pc := 13) dX4_addSeries_13 ?_
  refine s_putI (pc := 14) dX4_addSeries_14 fl_X4_21 rfl rfl k_b0 ?_
  refine r_aload_n (pc := 17) dX4_addSeries_17 rfl ?_
  refine s_getR (pc := 18) dX4_addSeries_18 fl_X4_36 rfl k_b0 g_b0_7 ?_
  refine r_iload_n (pc := 21) dX4_addSeries_21 rfl ?_
  obtain ⟨i_1, K0⟩ := K0
  obtain ⟨c_2, g_3, K0⟩ := K0
  refine s_aald (pc := 22) dX4_addSeries_22 (by decide) rfl k_b0_7 i_1 g_3 ?_
  exact s_aret rfl dX4_addSeries_23 K0
set_option maxHeartbeats 2000000 in
theorem v_X5_placeAt_0 {K : Sh} {x : Cn} {Q : Cn → Prop} {b0 : Nat} {l1 : Int32} {l2 : Int32} {l3 : Int32} {l4 : Int32}  (k_b0 : kk K b0 = some (5, 0)) (K0 : Q (ui (ui (ui (ui x b0 0 l1) b0 1 l2) b0 2 l3) b0 3 l4)) : mSV mX5_placeAt [.ref b0, .int l1, .int l2, .int l3, .int l4] K x Q := by
  refine s_V (by decide) (by simp [Value.category]) (Nat.le_of_ble_eq_true rfl) ?_
  show mGM mX5_placeAt 0 [some (.ref b0), some (.int l1), some (.int l2), some (.int l3), some (.int l4)] [] (hp K x) (PV K Q)
  refine r_aload_n (pc := 0) dX5_placeAt_0 rfl ?_
  refine r_iload_n (pc := 1) dX5_placeAt_1 rfl ?_
  refine s_putI (pc := 2) dX5_placeAt_2 fl_X5_9 rfl rfl k_b0 ?_
  refine r_aload_n (pc := 5) dX5_placeAt_5 rfl ?_
  refine r_iload_n (pc := 6) dX5_placeAt_6 rfl ?_
  refine s_putI (pc := 7) dX5_placeAt_7 fl_X5_15 rfl rfl k_b0 ?_
  refine r_aload_n (pc := 10) dX5_placeAt_10 rfl ?_
  refine r_iload_n (pc := 11) dX5_placeAt_11 rfl ?_
  refine s_putI (pc := 12) dX5_placeAt_12 fl_X5_18 rfl rfl k_b0 ?_
  refine r_aload_n (pc := 15) dX5_placeAt_15 rfl ?_
  refine r_iload (pc := 16) dX5_placeAt_16 rfl ?_
  refine s_putI (pc := 18) dX5_placeAt_18 fl_X5_21 rfl rfl k_b0 ?_
  exact s_ret rfl dX5_placeAt_21 K0
set_option maxHeartbeats 2000000 in
theorem v_X5_comeWith_0 {K : Sh} {x : Cn} {Q : Cn → Prop} {b0 : Nat} {l1 : Int32} {l2 : Int32}  (k_b0 : kk K b0 = some (5, 0)) (K0 : mSV mX5_openIn [.ref b0, .int (f_sb l1 l2)] K (ui (ui x b0 5 l1) b0 6 l2) (fun y_1 => Q y_1)) : mSV mX5_comeWith [.ref b0, .int l1, .int l2] K x Q := by
  refine s_V (by decide) (by simp [Value.category]) (Nat.le_of_ble_eq_true rfl) ?_
  show mGM mX5_comeWith 0 [some (.ref b0), some (.int l1), some (.int l2)] [] (hp K x) (PV K Q)
  refine r_aload_n (pc := 0) dX5_comeWith_0 rfl ?_
  refine r_iload_n (pc := 1) dX5_comeWith_1 rfl ?_
  refine s_putI (pc := 2) dX5_comeWith_2 fl_X5_28 rfl rfl k_b0 ?_
  refine r_aload_n (pc := 5) dX5_comeWith_5 rfl ?_
  refine r_iload_n (pc := 6) dX5_comeWith_6 rfl ?_
  refine s_putI (pc := 7) dX5_comeWith_7 fl_X5_31 rfl rfl k_b0 ?_
  refine r_aload_n (pc := 10) dX5_comeWith_10 rfl ?_
  refine r_iload_n (pc := 11) dX5_comeWith_11 rfl ?_
  refine r_iload_n (pc := 12) dX5_comeWith_12 rfl ?_
  refine s_SNI (pc := 13) mX7_spanBits (As := [.int l1, .int l2]) dX5_comeWith_13 nl_X5_49 st_X7_spanBits mo_X7_spanBits ⟨by decide, by decide⟩ (Nat.le_of_ble_eq_true rfl) (sp_X7_spanBits  ?_)
  refine s_VV (pc := 16) mX5_openIn (ci := 5) (a := b0) (As := [.int (f_sb l1 l2)]) dX5_comeWith_16 lk_X5_53 in_X5_openIn mo_X5_openIn ⟨by decide, rfl⟩ ⟨by decide, by decide⟩ (Nat.le_of_ble_eq_true rfl) k_b0 (mSV_mono K0 (fun y_1 K0 => ?_))
  exact s_ret rfl dX5_comeWith_19 K0
set_option maxHeartbeats 2000000 in
theorem v_X4_grant_0 {K : Sh} {x : Cn} {Q : Cn → Prop} {b0 : Nat} {b1 : Nat} {l2 : Int32}  (k_b0 : kk K b0 = some (4, 0)) (k_b1 : kk K b1 = some (0, 0)) (K0 : mSR mX4_addSeries [.ref b0] K x (fun r_2 y_1 => kk K r_2 = some (5, 0) ∧ (mSV mX5_placeAt [.ref r_2, .int (gi y_1 b1 0), .int (gi y_1 b1 1), .int l2, .int (gi y_1 b1 3)] K y_1 (fun y_4 => mSV mX5_comeWith [.ref r_2, .int (if (gi y_4 b1 4) < (gi y_4 b0 1) then (gi y_4 b0 1) else (gi y_4 b1 4)), .int (gi y_4 b1 5)] K y_4 (fun y_5 => Q (ui y_5 r_2 4 1)))))) : mSV mX4_grant [.ref b0, .ref b1, .int l2] K x Q := by
  refine s_V (by decide) (by simp [Value.category]) (Nat.le_of_ble_eq_true rfl) ?_
  show mGM mX4_grant 0 [some (.ref b0), some (.ref b1), some (.int l2), none] [] (hp K x) (PV K Q)
  refine r_aload_n (pc := 0) dX4_grant_0 rfl ?_
  refine s_VR (pc := 1) mX4_addSeries (ci := 4) (a := b0) (As := []) dX4_grant_1 lk_X4_116 in_X4_addSeries mo_X4_addSeries ⟨by decide, rfl⟩ ⟨by decide, by decide⟩ (Nat.le_of_ble_eq_true rfl) k_b0 (mSR_mono K0 (fun r_2 y_1 K0 => ?_))
  refine r_astore_n (pc := 4) dX4_grant_4 (by decide) ?_
  refine r_aload_n (pc := 5) (L := [some (.ref b0), some (.ref b1), some (.int l2), some (.ref r_2)]) dX4_grant_5 rfl ?_
  refine r_aload_n (pc := 6) dX4_grant_6 rfl ?_
  refine s_getI (pc := 7) dX4_grant_7 fl_X4_120 rfl k_b1 ?_
  refine r_aload_n (pc := 10) dX4_grant_10 rfl ?_
  refine s_getI (pc := 11) dX4_grant_11 fl_X4_100 rfl k_b1 ?_
  refine r_iload_n (pc := 14) dX4_grant_14 rfl ?_
  refine r_aload_n (pc := 15) dX4_grant_15 rfl ?_
  refine s_getI (pc := 16) dX4_grant_16 fl_X4_101 rfl k_b1 ?_
  obtain ⟨e_3, K0⟩ := K0
  refine s_VV (pc := 19) mX5_placeAt (ci := 5) (a := r_2) (As := [.int (gi y_1 b1 0), .int (gi y_1 b1 1), .int l2, .int (gi y_1 b1 3)]) dX4_grant_19 lk_X4_123 in_X5_placeAt mo_X5_placeAt ⟨by decide, rfl⟩ ⟨by decide, by decide⟩ (Nat.le_of_ble_eq_true rfl) e_3 (mSV_mono K0 (fun y_4 K0 => ?_))
  refine r_aload_n (pc := 22) dX4_grant_22 rfl ?_
  refine r_aload_n (pc := 23) dX4_grant_23 rfl ?_
  refine s_getI (pc := 24) dX4_grant_24 fl_X4_127 rfl k_b1 ?_
  refine r_aload_n (pc := 27) dX4_grant_27 rfl ?_
  refine s_getI (pc := 28) dX4_grant_28 fl_X4_15 rfl k_b0 ?_
  refine r_mmax (pc := 31) dX4_grant_31 lk_X4_130 mw_max ⟨by decide, by decide⟩ (Nat.le_of_ble_eq_true rfl) ?_
  refine r_aload_n (pc := 34) dX4_grant_34 rfl ?_
  refine s_getI (pc := 35) dX4_grant_35 fl_X4_109 rfl k_b1 ?_
  refine s_VV (pc := 38) mX5_comeWith (ci := 5) (a := r_2) (As := [.int (if (gi y_4 b1 4) < (gi y_4 b0 1) then (gi y_4 b0 1) else (gi y_4 b1 4)), .int (gi y_4 b1 5)]) dX4_grant_38 lk_X4_133 in_X5_comeWith mo_X5_comeWith ⟨by decide, rfl⟩ ⟨by decide, by decide⟩ (Nat.le_of_ble_eq_true rfl) e_3 (mSV_mono K0 (fun y_5 K0 => ?_))
  refine r_aload_n (pc := 41) dX4_grant_41 rfl ?_
  refine r_iconst (pc := 42) (v := 1) dX4_grant_42 (by decide) ?_
  refine s_putZ (pc := 43) dX4_grant_43 fl_X4_137 rfl rfl e_3 (by decide) ?_
  exact s_ret rfl dX4_grant_46 K0
section
theorem sp_X4_grant {x : Cn} {Q : Cn → Prop} {q : Nat} {T : TT} {W C S A N a p h : Nat} (E : SEB x q T W C S A N) (hS : S < 24) (ha : a < A) (hg : gr x (q + 4) a = some p) (hh : h < 24) (hl : ¬ (ao T a 5).toNatClampNeg < N) (k : ∀ z, Frq x z q → SEB z q (grT T S a (nI h)) W C (S + 1) A N → Q z) : mSV mX4_grant [.ref q, .ref p, .int (nI h)] KW x Q := by
  have hn := E.nums
  have hA : A ≤ 24 := hn.2.2.2.2.2.2.2.1
  have hW : W ≤ 30 := hn.2.2.2.2.1
  obtain ⟨p', e1, e2, e3, w⟩ := E.ask ha
  have epp : p' = p := Option.some.inj (e1.symm.trans hg)
  subst epp
  obtain ⟨j2, hj2, ej2⟩ := E.2.1.2.2.2.2.2.2.2.1 a (by omega)
  have ep2 : p' = q + 30 + j2 := Option.some.inj (e1.symm.trans ej2)
  obtain ⟨j, hj, ej⟩ := E.2.1.2.2.2.2.2.1 S hS
  obtain ⟨-, -, -, -, ⟨f, l, f1, f2, f3, f4⟩, -⟩ := id w
  have hl' := hl
  rw [f4, nI_clamp (by omega)] at hl'
  refine v_X4_grant_0 (ks0 E.1) e2 (v_X4_addSeries_0 (ks0 E.1) E.2.1.2.2.1 (ks3 E.1) ?_)
  have mi : (if (23 : Int32) < nI S then 23 else nI S) = nI S := if_neg (fun g => absurd ((nI_ltI (a := 23) (b := S) (by decide) (by omega)).mp g) (by omega))
  rw [hn.2.2.1, mi, nI_clamp (by omega), nI_1]
  refine ⟨vp_in_nI (by omega) (by decide), q + 6 + j, ej, ks6 E.1 hj, v_X5_placeAt_0 (ks6 E.1 hj) (v_X5_comeWith_0 (ks6 E.1 hj) (sp_X5_openIn_at (ks6 E.1 hj) (fun v f0 g1 g2 g3 => ?_)))⟩
  have o1 : ∀ i, gi (ui x q 3 (nI (S + 1))) p' i = gi x p' i := fun i => by rw [gi_ui, if_neg (by omega)]
  rw [o1 0, o1 1, o1 3, e3 0 (by decide), e3 1 (by decide), e3 3 (by decide)] at f0 g1 g2
  have o2 : ∀ i b, b ≠ q + 6 + j → gi (ui (ui (ui (ui (ui x q 3 (nI (S + 1))) (q + 6 + j) 0 (ao T a 0)) (q + 6 + j) 1 (ao T a 1)) (q + 6 + j) 2 (nI h)) (q + 6 + j) 3 (ao T a 3)) b i = gi (ui x q 3 (nI (S + 1))) b i := fun i b hb => by simp only [gi_ui, hb, false_and, if_false]
  rw [o2 4 p' (by omega), o2 5 p' (by omega), o2 1 q (by omega), o1, o1, e3 4 (by decide), e3 5 (by decide), show gi (ui x q 3 (nI (S + 1))) q 1 = nI N by rw [gi_ui, if_neg (by omega)]; exact hn.2.1, f3, f4, mx_nI (by omega) (by omega)] at f0 g1 g2
  refine k _ ⟨f0.1, fun b i hb => ?_⟩ (E.addS (p := q + 6 + j) hS ej f0.1 (fun b i b1 b2 b3 b4 b5 => ?_) ?_ (fun i hi => ?_) (fun i i8 i12 => ?_) (Was.gr E.2.2.2 ha hh hl))
  · rw [gi_ui, if_neg (by omega), f0.2 b i (by omega)]
    simp only [gi_ui]
    rw [if_neg (by omega), if_neg (by omega), if_neg (by omega), if_neg (by omega), if_neg (by omega), if_neg (by omega), if_neg (by omega)]
  · rw [gi_ui, if_neg (fun u => b3 u.1), f0.2 b i b3]
    simp only [gi_ui]
    rw [if_neg (fun u => b3 u.1), if_neg (fun u => b3 u.1), if_neg (fun u => b3 u.1), if_neg (fun u => b3 u.1), if_neg (fun u => b3 u.1), if_neg (fun u => b3 u.1), if_neg b4]
  · rw [gi_ui, if_neg (by omega), f0.2 q 3 (by omega)]
    simp only [gi_ui]
    rw [if_neg (by omega), if_neg (by omega), if_neg (by omega), if_neg (by omega), if_neg (by omega), if_neg (by omega), if_pos (by simp)]
  · have h4 : T 4 = nI N := E.2.2.2.2.2.2.2.2.2.2.2.2.1
    have h0 : T 0 = nI W := E.2.2.2.1
    rcases lt12 hi with rfl | rfl | rfl | rfl | rfl | rfl | rfl | rfl | rfl | rfl | rfl | rfl
    · rw [gi_ui, if_neg (by omega), g1 0 (by decide)]; simp [gi_ui, grf]
    · rw [gi_ui, if_neg (by omega), g1 1 (by decide)]; simp [gi_ui, grf]
    · rw [gi_ui, if_neg (by omega), g1 2 (by decide)]; simp [gi_ui, grf]
    · rw [gi_ui, if_neg (by omega), g1 3 (by decide)]; simp [gi_ui, grf]
    · rw [gi_ui, if_pos ⟨rfl, rfl⟩]; rfl
    · rw [gi_ui, if_neg (by omega), g1 5 (by decide)]
      show _ = (if ao T a 4 < T 4 then T 4 else ao T a 4)
      rw [f3, h4, mx_nI (by omega) (by omega)]
      simp [gi_ui]
    · rw [gi_ui, if_neg (by omega), g1 6 (by decide)]
      show _ = ao T a 5
      rw [f4]
      simp [gi_ui]
    · rw [gi_ui, if_neg (by omega), g2]
      show _ = f_span (ao T a 4) (ao T a 5) &&& f_span (T 4) (T 0 - 1)
      rw [f3, f4, h4, h0]
      exact gr_wk (by omega) f2 hW (by omega)
    · rw [gi_ui, if_neg (by omega), g3 8 (by decide) (by decide)]; rfl
    · rw [gi_ui, if_neg (by omega), g3 9 (by decide) (by decide)]; rfl
    · rw [gi_ui, if_neg (by omega), g3 10 (by decide) (by decide)]; rfl
    · rw [gi_ui, if_neg (by omega), g3 11 (by decide) (by decide)]; rfl
  · have : i = 8 ∨ i = 9 ∨ i = 10 ∨ i = 11 := by omega
    rcases this with rfl | rfl | rfl | rfl <;> rfl
/-- what is written while a pool is played, on the landed side -/
def PCr (x y : Cn) : Prop := y.2 = x.2 ∧ ∀ a k, ¬ (117 ≤ a ∧ a ≤ 174) → gi y a k = gi x a k
theorem PCr.rf (x : Cn) : PCr x x := ⟨rfl, fun _ _ _ => rfl⟩
theorem PCr.tr {x y z : Cn} (h : PCr x y) (g : PCr y z) : PCr x z := ⟨g.1.trans h.1, fun a k c => (g.2 a k c).trans (h.2 a k c)⟩
theorem PCr.ui {x y : Cn} {a k : Nat} {v : Int32} (h : PCr x y) (c : 117 ≤ a ∧ a ≤ 174) : PCr x (ui y a k v) := ⟨h.1, fun b j hb => by rw [gi_ui, if_neg (by omega)]; exact h.2 b j hb⟩
theorem EQx.pc {x y : Cn} {a : Nat} (h : EQx x y a) (c : 117 ≤ a ∧ a ≤ 174) : PCr x y := ⟨h.1, fun b j hb => h.2 b j (by omega)⟩
theorem Frq.pc {x y : Cn} (h : Frq x y 118) : PCr x y := ⟨h.1, fun b j hb => h.2 b j (by omega)⟩
theorem lpR_in {σ : Type} {step : Nat → σ → σ ⊕ Int32} {fin : σ → Int32} {R : Int32 → Prop} (h1 : ∀ s a r, step s a = .inr r → R r) (h2 : ∀ a, R (fin a)) : ∀ n s a, R (lpR step fin n s a) := by
  intro n
  induction n with
  | zero => intro s a; exact h2 a
  | succ n ih =>
    intro s a
    simp only [lpR]
    cases hq : step s a with
    | inl a' => exact ih _ _
    | inr r => exact h1 s a r hq
theorem hrF_in {T : TT} {S N a h0 : Nat} (h1 : h0 < 24) (h2 : ao T a 2 = nI h0) : hrF T S N a = -1 ∨ ∃ h, h < 24 ∧ hrF T S N a = nI h ∧ ¬ S = 24 ∧ ¬ (ao T a 5).toNatClampNeg < N := by
  unfold hrF
  by_cases c : (ao T a 5).toNatClampNeg < N ∨ S = 24
  · exact Or.inl (if_pos c)
  · rw [if_neg c, h2, nI_clamp (by omega)]
    have key := lpR_in (step := stH (fun h => fitA T S N a h 0) h0) (fin := fun _ => -1) (R := fun r => r = -1 ∨ ∃ h, h < 24 ∧ r = nI h) (fun s u r hr => by
      unfold stH at hr
      by_cases c1 : s ≤ h0 ∧ ¬ bP (fitA T S N a (h0 - s) 0) = 0
      · rw [if_pos c1] at hr
        cases hr
        exact Or.inr ⟨h0 - s, by omega, rfl⟩
      · rw [if_neg c1] at hr
        by_cases c2 : h0 + s < 24 ∧ ¬ bP (fitA T S N a (h0 + s) 0) = 0
        · rw [if_pos c2] at hr
          cases hr
          exact Or.inr ⟨h0 + s, c2.1, rfl⟩
        · rw [if_neg c2] at hr
          cases hr) (fun _ => Or.inl rfl) ((ao T a 6).toNatClampNeg + 1) 0 ()
    rcases key with g | ⟨h, g1, g2⟩
    · exact Or.inl g
    · exact Or.inr ⟨h, g1, g2, fun u => c (Or.inr u), fun u => c (Or.inl u)⟩
end
set_option maxHeartbeats 2000000 in
theorem v_X2_lookAt_0 {K : Sh} {x : Cn} {Q : Cn → Prop} {b0 : Nat} {l1 : Int32} {b0_0 : Nat} {b0_0_8 : Nat} {n_b0_0_8 : Nat} {b0_3 : Nat} {n_b0_3 : Nat} (k_b0 : kk K b0 = some (2, 0)) (g_b0_0 : gr x b0 0 = some b0_0) (k_b0_0 : kk K b0_0 = some (4, 0)) (g_b0_0_8 : gr x b0_0 8 = some b0_0_8) (k_b0_0_8 : kk K b0_0_8 = some (24, n_b0_0_8)) (g_b0_3 : gr x b0 3 = some b0_3) (k_b0_3 : kk K b0_3 = some (20, n_b0_3)) (K0 : vp_in l1 n_b0_0_8 ∧ (∃ c_2 : Nat, gr x b0_0_8 ((l1 : Int32).toNatClampNeg) = some c_2 ∧ (mSI mX4_hourFor [.ref b0_0, .ref c_2] K x (fun r_5 y_4 => vp_in l1 n_b0_3 ∧ (gr y_4 b0 3 = some b0_3 ∧ (((gi (ui y_4 b0_3 (l1 : Int32).toNatClampNeg r_5) b0_3 (l1 : Int32).toNatClampNeg) = (-1) → (Q (ui y_4 b0_3 (l1 : Int32).toNatClampNeg r_5))) ∧ (¬ (gi (ui y_4 b0_3 (l1 : Int32).toNatClampNeg r_5) b0_3 (l1 : Int32).toNatClampNeg) = (-1) → (gr y_4 b0 0 = some b0_0 ∧ (mSV mX4_grant [.ref b0_0, .ref c_2, .int (gi (ui y_4 b0_3 (l1 : Int32).toNatClampNeg r_5) b0_3 (l1 : Int32).toNatClampNeg)] K (ui y_4 b0_3 (l1 : Int32).toNatClampNeg r_5) (fun y_10 => ∃ c_11 : Nat, gr y_10 b0 1 = some c_11 ∧ (kk K c_2 = some (0, 0) ∧ (∃ n_15 : Nat, kk K c_11 = some (20, n_15) ∧ (vp_in (((gi y_10 c_2 0) * 7) + (gi y_10 c_2 1)) n_15 ∧ (∀ r_17 : Int32, r_17 = gi (ui y_10 c_11 ((((gi y_10 c_2 0) * 7) + (gi y_10 c_2 1)) : Int32).toNatClampNeg ((gi y_10 c_11 ((((gi y_10 c_2 0) * 7) + (gi y_10 c_2 1)) : Int32).toNatClampNeg) + 1)) b0 4 → (Q (ui (ui y_10 c_11 ((((gi y_10 c_2 0) * 7) + (gi y_10 c_2 1)) : Int32).toNatClampNeg ((gi y_10 c_11 ((((gi y_10 c_2 0) * 7) + (gi y_10 c_2 1)) : Int32).toNatClampNeg) + 1)) b0 4 (r_17 + 1))))))))))))))))) : mSV mX2_lookAt [.ref b0, .int l1] K x Q := by
  refine s_V (by decide) (by simp [Value.category]) (Nat.le_of_ble_eq_true rfl) ?_
  show mGM mX2_lookAt 0 [some (.ref b0), some (.int l1), none] [] (hp K x) (PV K Q)
  refine r_aload_n (pc := 0) dX2_lookAt_0 rfl ?_
  refine s_getR (pc := 1) dX2_lookAt_1 fl_X2_12 rfl k_b0 g_b0_0 ?_
  refine s_getR (pc := 4) dX2_lookAt_4 fl_X2_85 rfl k_b0_0 g_b0_0_8 ?_
  refine r_iload_n (pc := 7) dX2_lookAt_7 rfl ?_
  obtain ⟨i_1, K0⟩ := K0
  obtain ⟨c_2, g_3, K0⟩ := K0
  refine s_aald (pc := 8) dX2_lookAt_8 (by decide) rfl k_b0_0_8 i_1 g_3 ?_
  refine r_astore_n (pc := 9) dX2_lookAt_9 (by decide) ?_
  refine r_aload_n (pc := 10) (L := [some (.ref b0), some (.int l1), some (.ref c_2)]) dX2_lookAt_10 rfl ?_
  refine s_getR (pc := 11) dX2_lookAt_11 fl_X2_25 rfl k_b0 g_b0_3 ?_
  refine r_iload_n (pc := 14) dX2_lookAt_14 rfl ?_
  refine r_aload_n (pc := 15) dX2_lookAt_15 rfl ?_
  refine s_getR (pc := 16) dX2_lookAt_16 fl_X2_12 rfl k_b0 g_b0_0 ?_
  refine r_aload_n (pc := 19) dX2_lookAt_19 rfl ?_
  refine s_VI (pc := 20) mX4_hourFor (ci := 4) (a := b0_0) (As := [.ref c_2]) dX2_lookAt_20 lk_X2_103 in_X4_hourFor mo_X4_hourFor ⟨by decide, rfl⟩ ⟨by decide, by decide⟩ (Nat.le_of_ble_eq_true rfl) k_b0_0 (mSI_mono K0 (fun r_5 y_4 K0 => ?_))
  obtain ⟨i_6, K0⟩ := K0
  refine s_iast (pc := 23) dX2_lookAt_23 k_b0_3 i_6 ?_
  refine r_aload_n (pc := 24) dX2_lookAt_24 rfl ?_
  obtain ⟨g_7, K0⟩ := K0
  refine s_getR (pc := 25) dX2_lookAt_25 fl_X2_25 rfl k_b0 g_7 ?_
  refine r_iload_n (pc := 28) dX2_lookAt_28 rfl ?_
  refine s_iald (pc := 29) dX2_lookAt_29 k_b0_3 i_6 ?_
  refine r_iconst (pc := 30) (v := (-1)) dX2_lookAt_30 (by decide) ?_
  refine r_icmp_eq (pc := 31) (tgt := 79) dX2_lookAt_31 (by decide) (fun q => ?_) (fun q => ?_)
  · have K0 := K0.1 q
    exact s_ret rfl dX2_lookAt_79 K0
  · have K0 := K0.2 q
    refine r_aload_n (pc := 34) dX2_lookAt_34 rfl ?_
    obtain ⟨g_9, K0⟩ := K0
    refine s_getR (pc := 35) dX2_lookAt_35 fl_X2_12 rfl k_b0 g_9 ?_
    refine r_aload_n (pc := 38) dX2_lookAt_38 rfl ?_
    refine r_aload_n (pc := 39) dX2_lookAt_39 rfl ?_
    refine s_getR (pc := 40) dX2_lookAt_40 fl_X2_25 rfl k_b0 g_7 ?_
    refine r_iload_n (pc := 43) dX2_lookAt_43 rfl ?_
    refine s_iald (pc := 44) dX2_lookAt_44 k_b0_3 i_6 ?_
    refine s_VV (pc := 45) mX4_grant (ci := 4) (a := b0_0) (As := [.ref c_2, .int (gi (ui y_4 b0_3 (l1 : Int32).toNatClampNeg r_5) b0_3 (l1 : Int32).toNatClampNeg)]) dX2_lookAt_45 lk_X2_107 in_X4_grant mo_X4_grant ⟨by decide, rfl⟩ ⟨by decide, by decide⟩ (Nat.le_of_ble_eq_true rfl) k_b0_0 (mSV_mono K0 (fun y_10 K0 => ?_))
    refine r_aload_n (pc := 48) dX2_lookAt_48 rfl ?_
    obtain ⟨c_11, g_12, K0⟩ := K0
    refine s_getR (pc := 49) dX2_lookAt_49 fl_X2_18 rfl k_b0 g_12 ?_
    refine r_aload_n (pc := 52) dX2_lookAt_52 rfl ?_
    obtain ⟨e_13, K0⟩ := K0
    refine s_getI (pc := 53) dX2_lookAt_53 fl_X2_78 rfl e_13 ?_
    refine r_bipush (pc := 56) (v := 7) dX2_lookAt_56 (by decide) ?_
    refine r_imul (pc := 58) dX2_lookAt_58 ?_
    refine r_aload_n (pc := 59) dX2_lookAt_59 rfl ?_
    refine s_getI (pc := 60) dX2_lookAt_60 fl_X2_81 rfl e_13 ?_
    refine r_iadd (pc := 63) dX2_lookAt_63 ?_
    refine r_dup2 (pc := 64) dX2_lookAt_64 rfl rfl ?_
    obtain ⟨n_15, e_14, K0⟩ := K0
    obtain ⟨i_16, K0⟩ := K0
    refine s_iald (pc := 65) dX2_lookAt_65 e_14 i_16 ?_
    refine r_iconst (pc := 66) (v := 1) dX2_lookAt_66 (by decide) ?_
    refine r_iadd (pc := 67) dX2_lookAt_67 ?_
    refine s_iast (pc := 68) dX2_lookAt_68 e_14 i_16 ?_
    refine r_aload_n (pc := 69) dX2_lookAt_69 rfl ?_
    refine r_dup (pc := 70) dX2_lookAt_70 rfl ?_
    refine s_getI (pc := 71) dX2_lookAt_71 fl_X2_28 rfl k_b0 ?_
    obtain ⟨r_17, w_18⟩ : ∃ z : Int32, z = gi (ui y_10 c_11 ((((gi y_10 c_2 0) * 7) + (gi y_10 c_2 1)) : Int32).toNatClampNeg ((gi y_10 c_11 ((((gi y_10 c_2 0) * 7) + (gi y_10 c_2 1)) : Int32).toNatClampNeg) + 1)) b0 4 := ⟨_, rfl⟩
    rw [← w_18]
    have K0 := K0 r_17 w_18
    refine r_iconst (pc := 74) (v := 1) dX2_lookAt_74 (by decide) ?_
    refine r_iadd (pc := 75) dX2_lookAt_75 ?_
    refine s_putI (pc := 76) dX2_lookAt_76 fl_X2_28 rfl rfl k_b0 ?_
    exact s_ret rfl dX2_lookAt_79 K0
section
theorem sp_X2_lookAt {x : Cn} {Q : Cn → Prop} {T : TT} {W C S A N a g : Nat} (P : PLf x) (E : SEB x 118 T W C S A N) (hl : HLD x T S) (hg : gi x 117 4 = nI g) (ha : a < A)
    (k1 : hrF T S N a = -1 → ∀ y, PCr x y → SEB y 118 T W C S A N → HLD y T S → gi y 117 4 = nI g → (∀ b, gi y 173 b = gi x 173 b) → (∀ b, gi y 174 b = if b = a then -1 else gi x 174 b) → Q y)
    (k2 : ∀ h, h < 24 → hrF T S N a = nI h → S < 24 → ¬ (ao T a 5).toNatClampNeg < N → ∀ y, PCr x y → SEB y 118 (grT T S a (nI h)) W C (S + 1) A N → HLD y (grT T S a (nI h)) (S + 1) → gi y 117 4 = nI (g + 1) → (∀ b, gi y 173 b = gi x 173 b) → (∀ b, gi y 174 b = if b = a then nI h else gi x 174 b) → Q y) : mSV mX2_lookAt [.ref 117, .int (nI a)] KW x Q := by
  have hn := E.nums
  have hA : A ≤ 24 := hn.2.2.2.2.2.2.2.1
  have hC : C ≤ 8 := hn.2.2.2.2.2.1
  have hS : S ≤ 24 := hn.2.2.2.2.2.2.1
  obtain ⟨p, e1, e2, e3, w⟩ := E.ask ha
  obtain ⟨⟨c, hc, ec⟩, ⟨d, hd, ed⟩, ⟨h0, hh0, eh0⟩, -⟩ := id w
  refine v_X2_lookAt_0 k117 P.1 (ks0 E.1) E.2.1.2.2.2.1 (ks4 E.1) P.2.2.2 k174 ?_
  rw [nI_clamp (by omega)]
  refine ⟨vp_in_nI (by omega) (by decide), p, e1, sb_X4_hourFor E ha e1 (fun y hy => ⟨vp_in_nI (by omega) (by decide), (P.keep hy.1).2.2.2, ?_⟩)⟩
  have ev : gi (ui y 174 a (hrF T S N a)) 174 a = hrF T S N a := by rw [gi_ui, if_pos ⟨rfl, rfl⟩]
  rw [ev]
  have Ey := E.eqx hy (Or.inl rfl)
  have E2 : SEB (ui y 174 a (hrF T S N a)) 118 T W C S A N := Ey.eqx (EQx.rf y 174).ui (Or.inr (Or.inr (by decide)))
  have f1 : PCr x (ui y 174 a (hrF T S N a)) := (hy.pc (by decide)).ui (by decide)
  have o2 : ∀ b i, b ≠ 123 → b ≠ 174 → gi (ui y 174 a (hrF T S N a)) b i = gi x b i := fun b i b1 b2 => by rw [gi_ui, if_neg (fun u => b2 u.1)]; exact hy.2 b i b1
  refine ⟨fun z => k1 z _ f1 E2 (hl.mv (fun i => o2 172 i (by decide) (by decide))) (by rw [o2 117 4 (by decide) (by decide)]; exact hg) (fun b => o2 173 b (by decide) (by decide)) (fun b => ?_), fun z => ⟨(P.keep hy.1).1, ?_⟩⟩
  · rw [gi_ui, z]
    by_cases c1 : b = a
    · rw [if_pos ⟨rfl, c1⟩, if_pos c1]
    · rw [if_neg (fun u => c1 u.2), if_neg c1]; exact hy.2 174 b (by decide)
  · rcases hrF_in (S := S) (N := N) hh0 eh0 with g0 | ⟨h, h1, h2, h3, h4⟩
    · exact absurd g0 z
    · rw [h2]
      rw [h2] at E2 f1 o2
      have e1' : gr (ui y 174 a (nI h)) (118 + 4) a = some p := by
        show gr y _ _ = _
        unfold gr; rw [hy.1]; exact e1
      refine sp_X4_grant E2 (by omega) ha e1' h1 h4 (fun v fv Ev => ?_)
      have ov : ∀ b i, ¬ (118 ≤ b ∧ b < 172) → b ≠ 174 → gi v b i = gi x b i := fun b i b1 b2 => (fv.2 b i (by omega)).trans (o2 b i (by omega) b2)
      obtain ⟨pv, ve1, ve2, ve3, vw⟩ := Ev.ask ha
      have epv : pv = p := by
        have : gr v (118 + 4) a = some p := by
          unfold gr; rw [fv.1]; exact e1'
        exact Option.some.inj (ve1.symm.trans this)
      subst epv
      have ga : ∀ i, i < 7 → ao (grT T S a (nI h)) a i = ao T a i := fun i hi => adT_off (by omega) (by omega)
      refine ⟨172, (P.keep (fv.1.trans hy.1)).2.1, ve2, 56, k172, ?_⟩
      rw [ve3 0 (by decide), ve3 1 (by decide), ga 0 (by decide), ga 1 (by decide), ec, ed, show (7 : Int32) = nI 7 by decide, pk_mul, nI_add, nI_clamp (by omega)]
      refine ⟨vp_in_nI (by omega) (by decide), fun r hr => ?_⟩
      have er : r = nI g := by rw [hr, gi_ui, if_neg (by omega), ov 117 4 (by omega) (by decide)]; exact hg
      rw [er, nI_1]
      have hlv : HLD v T S := hl.mv (fun i => ov 172 i (by omega) (by decide))
      have f2 : PCr x v := f1.tr fv.pc
      refine k2 h h1 h2 (by omega) h4 _ ((f2.ui (by decide)).ui (by decide)) ?_ ?_ (by rw [gi_ui, if_pos ⟨rfl, rfl⟩]) (fun b => ?_) (fun b => ?_)
      · exact (Ev.eqx (EQx.rf v 172).ui (Or.inr (Or.inr (by decide)))).eqx (EQx.rf _ 117).ui (Or.inr (Or.inl (by decide)))
      · refine HLD.mv (hlv.inc (T' := grT T S a (nI h)) (c0 := c) (d0 := d) (by omega) hd (by rw [so_adT (by decide)]; exact ec) (by rw [so_adT (by decide)]; exact ed) (fun s hs => ⟨so_adT' (by decide) (by omega), so_adT' (by decide) (by omega)⟩)) (fun i => ?_)
        rw [gi_ui, if_neg (by omega)]
      · rw [gi_ui, if_neg (by omega), gi_ui, if_neg (by omega)]; exact ov 173 b (by omega) (by decide)
      · rw [gi_ui, if_neg (by omega), gi_ui, if_neg (by omega), fv.2 174 b (by omega), gi_ui]
        by_cases c1 : b = a
        · rw [if_pos ⟨rfl, c1⟩, if_pos c1]
        · rw [if_neg (fun u => c1 u.2), if_neg c1]; exact hy.2 174 b (by decide)

end
end
/-! 55.pool2.lean.txt -/
section
theorem cnt_lt {f : Nat → Bool} : ∀ n, cnt f n < n → ∃ i, i < n ∧ f i = false := by
  intro n
  induction n with
  | zero => intro h; exact absurd h (Nat.not_lt_zero _)
  | succ n ih =>
    intro h
    cases hq : f n with
    | false => exact ⟨n, by omega, hq⟩
    | true =>
      have h : cnt f n + (if f n = true then 1 else 0) < n + 1 := h
      rw [if_pos hq] at h
      obtain ⟨i, h1, h2⟩ := ih (by omega)
      exact ⟨i, by omega, h2⟩
theorem cnt_all {f : Nat → Bool} : ∀ n, cnt f n = n → ∀ i, i < n → f i = true := by
  intro n
  induction n with
  | zero => intro _ i hi; omega
  | succ n ih =>
    intro h i hi
    have h : cnt f n + (if f n = true then 1 else 0) = n + 1 := h
    have hl := cnt_le f n
    cases hq : f n with
    | false => rw [if_neg (by rw [hq]; decide)] at h; omega
    | true =>
      rw [if_pos hq] at h
      by_cases c : i = n
      · rw [c]; exact hq
      · exact ih (by omega) i (by omega)
theorem cnt_set {f g : Nat → Bool} {a : Nat} (hf : f a = false) (hg : g a = true) (h : ∀ i, i ≠ a → g i = f i) : ∀ n, a < n → cnt g n = cnt f n + 1 := by
  intro n
  induction n with
  | zero => intro h; omega
  | succ n ih =>
    intro ha
    show cnt g n + (if g n = true then 1 else 0) = cnt f n + (if f n = true then 1 else 0) + 1
    by_cases c : n = a
    · subst c
      rw [cnt_congr n (fun i hi => h i (by omega)), hf, hg]
      rfl
    · rw [ih (by omega), h n c]
      omega
/-- a pool as it is played: row, series, turns, hours, grants -/
abbrev PS : Type := TT × Nat × TT × TT × Nat
def fl (k : Nat) : Int32 := if k % 2 = 0 then 1 else 0
def plA (A k : Nat) (p : PS) : Nat := (chC p.1 p.2.1 A (usd p.2.2.1) (fl k)).toNatClampNeg
noncomputable def plS (A N : Nat) : Nat → PS → PS := fun k p => if hrF p.1 p.2.1 N (plA A k p) = -1 then (p.1, p.2.1, uT p.2.2.1 (plA A k p) (nI k), uT p.2.2.2.1 (plA A k p) (-1), p.2.2.2.2) else (grT p.1 p.2.1 (plA A k p) (hrF p.1 p.2.1 N (plA A k p)), p.2.1 + 1, uT p.2.2.1 (plA A k p) (nI k), uT p.2.2.2.1 (plA A k p) (hrF p.1 p.2.1 N (plA A k p)), p.2.2.2.2 + 1)
theorem plS_f {A N k a : Nat} {p : PS} (ea : plA A k p = a) (h : hrF p.1 p.2.1 N a = -1) : plS A N k p = (p.1, p.2.1, uT p.2.2.1 a (nI k), uT p.2.2.2.1 a (-1), p.2.2.2.2) := by
  unfold plS
  rw [ea, if_pos h]
theorem plS_t {A N k a : Nat} {p : PS} {v : Int32} (ea : plA A k p = a) (h : hrF p.1 p.2.1 N a = v) (hv : ¬ v = -1) : plS A N k p = (grT p.1 p.2.1 a v, p.2.1 + 1, uT p.2.2.1 a (nI k), uT p.2.2.2.1 a v, p.2.2.2.2 + 1) := by
  unfold plS
  rw [ea, h, if_neg hv]
def PIV (W C A N : Nat) (T0 : TT) (k : Nat) (p : PS) : Prop := WFB p.1 W C p.2.1 A N ∧ cnt (usd p.2.2.1) A = k ∧ (∀ a, A ≤ a → p.2.2.1 a = -1 ∧ p.2.2.2.1 a = -1) ∧ (∀ i, i < 62 ∨ 350 ≤ i → i ≠ 2 → p.1 i = T0 i) ∧ p.2.2.2.2 ≤ k ∧ ∀ a, p.2.2.1 a = -1 → p.2.2.2.1 a = -1
theorem usd_f {t : TT} {a : Nat} : usd t a = false ↔ t a = -1 := by
  unfold usd
  rw [decide_eq_false_iff_not, Classical.not_not]
theorem usd_t {t : TT} {a : Nat} : usd t a = true ↔ ¬ t a = -1 := by
  unfold usd
  rw [decide_eq_true_iff]
theorem fl_01 (k : Nat) : fl k = 0 ∨ fl k = 1 := by
  unfold fl
  by_cases c : k % 2 = 0
  · rw [if_pos c]; exact Or.inr rfl
  · rw [if_neg c]; exact Or.inl rfl
theorem PIV.a {W C A N k : Nat} {T0 : TT} {p : PS} (iv : PIV W C A N T0 k p) (hk : k < A) : ∃ a, a < A ∧ plA A k p = a ∧ chC p.1 p.2.1 A (usd p.2.2.1) (fl k) = nI a ∧ p.2.2.1 a = -1 := by
  have hA : A ≤ 24 := iv.1.2.2.2.2.2.2.2.2.1
  obtain ⟨i, hi, hu⟩ := cnt_lt A (by rw [iv.2.1]; exact hk)
  obtain ⟨a, ha, ga, ea⟩ := chC_ok (T := p.1) (S := p.2.1) (fl_01 k) hA hi hu
  refine ⟨a, ha, ?_, ea, usd_f.mp ga⟩
  unfold plA
  rw [ea, nI_clamp (by omega)]
theorem usd_cnt {t : TT} {A a k : Nat} (ha : a < A) (hk : k < 2 ^ 31) (h : t a = -1) : cnt (usd (uT t a (nI k))) A = cnt (usd t) A + 1 :=
  cnt_set (usd_f.mpr h) (usd_t.mpr (by rw [uT_at]; exact nI_ne1 hk)) (fun i hi => by unfold usd; rw [uT_ne _ _ hi]) A ha
theorem PIV.f {W C A N k a : Nat} {T0 : TT} {p : PS} (iv : PIV W C A N T0 k p) (ha : a < A) (hk : k < A) (h : p.2.2.1 a = -1) : PIV W C A N T0 (k + 1) (p.1, p.2.1, uT p.2.2.1 a (nI k), uT p.2.2.2.1 a (-1), p.2.2.2.2) := by
  have hA : A ≤ 24 := iv.1.2.2.2.2.2.2.2.2.1
  obtain ⟨i1, i2, i3, i4, i5, i6⟩ := iv
  refine ⟨i1, ?_, fun b hb => ?_, i4, ?_, fun b hb => ?_⟩
  · show cnt (usd (uT p.2.2.1 a (nI k))) A = k + 1
    rw [usd_cnt ha (by omega) h, i2]
  · show uT p.2.2.1 a (nI k) b = -1 ∧ uT p.2.2.2.1 a (-1) b = -1
    rw [uT_ne _ _ (by omega), uT_ne _ _ (by omega)]; exact i3 b hb
  · show p.2.2.2.2 ≤ k + 1
    omega
  · show uT p.2.2.2.1 a (-1) b = -1
    have hb : uT p.2.2.1 a (nI k) b = -1 := hb
    by_cases c : b = a
    · rw [c, uT_at]
    · rw [uT_ne _ _ c] at hb ⊢; exact i6 b hb
theorem PIV.t {W C A N k a h : Nat} {T0 : TT} {p : PS} (iv : PIV W C A N T0 k p) (ha : a < A) (hk : k < A) (h1 : p.2.2.1 a = -1) (hh : h < 24) (hS : p.2.1 < 24) (hl : ¬ (ao p.1 a 5).toNatClampNeg < N) : PIV W C A N T0 (k + 1) (grT p.1 p.2.1 a (nI h), p.2.1 + 1, uT p.2.2.1 a (nI k), uT p.2.2.2.1 a (nI h), p.2.2.2.2 + 1) := by
  have hA : A ≤ 24 := iv.1.2.2.2.2.2.2.2.2.1
  obtain ⟨i1, i2, i3, i4, i5, i6⟩ := iv
  refine ⟨i1.add hS (Was.gr i1 ha hh hl), ?_, fun b hb => ?_, fun i hi h2 => ?_, ?_, fun b hb => ?_⟩
  · show cnt (usd (uT p.2.2.1 a (nI k))) A = k + 1
    rw [usd_cnt ha (by omega) h1, i2]
  · show uT p.2.2.1 a (nI k) b = -1 ∧ uT p.2.2.2.1 a (nI h) b = -1
    rw [uT_ne _ _ (by omega), uT_ne _ _ (by omega)]; exact i3 b hb
  · exact (adT_off h2 (by omega)).trans (i4 i hi h2)
  · show p.2.2.2.2 + 1 ≤ k + 1
    omega
  · show uT p.2.2.2.1 a (nI h) b = -1
    have hb : uT p.2.2.1 a (nI k) b = -1 := hb
    by_cases c : b = a
    · rw [c, uT_at] at hb; exact absurd hb (nI_ne1 (by omega))
    · rw [uT_ne _ _ c] at hb ⊢; exact i6 b hb
def pl0 (T0 : TT) (S : Nat) : PS := (T0, S, fun _ => -1, fun _ => -1, 0)
theorem PIV.st {W C S A N : Nat} {T0 : TT} (F : WFB T0 W C S A N) : PIV W C A N T0 0 (pl0 T0 S) := by
  refine ⟨F, ?_, fun _ _ => ⟨rfl, rfl⟩, fun _ _ _ => rfl, Nat.le_refl _, fun _ _ => rfl⟩
  show cnt (usd (fun _ => -1)) A = 0
  rw [cnt_congr (g := fun _ => false) A (fun i _ => usd_f.mpr rfl)]
  induction A with
  | zero => rfl
  | succ n ih => 
    have : ∀ n, cnt (fun _ => false) n = 0 := fun n => by
      induction n with
      | zero => rfl
      | succ n ih => show cnt (fun _ => false) n + _ = 0; rw [ih]; rfl
    exact this _
/-- at each turn, and at the end, it is in order -/
theorem PIV.run {W C S A N : Nat} {T0 : TT} (F : WFB T0 W C S A N) : ∀ k, k ≤ A → PIV W C A N T0 k (accT (plS A N) k (pl0 T0 S)) := by
  intro k
  induction k with
  | zero => intro _; exact PIV.st F
  | succ k ih =>
    intro hk
    have iv := ih (by omega)
    simp only [accT]
    generalize accT (plS A N) k (pl0 T0 S) = p at iv ⊢
    obtain ⟨a, ha, e1, e2, e3⟩ := iv.a (by omega)
    obtain ⟨-, -, ⟨h0, hh0, eh0⟩, -⟩ := iv.1.2.2.2.2.2.2.2.2.2.2.2.2.2 a ha
    rcases hrF_in (S := p.2.1) (N := N) hh0 eh0 with g0 | ⟨h, h1, h2, h3, h4⟩
    · rw [plS_f e1 g0]; exact iv.f ha (by omega) e3
    · rw [plS_t e1 h2 (nI_ne1 (by omega))]
      exact iv.t ha (by omega) e3 h1 (by have := iv.1.2.2.2.2.2.2.1; omega) h4
def CPR (y : Cn) (p : PS) (W C A N : Nat) : Prop := SEB y 118 p.1 W C p.2.1 A N ∧ HLD y p.1 p.2.1 ∧ gi y 117 4 = nI p.2.2.2.2 ∧ ∀ a, ¬ p.2.2.1 a = -1 → gi y 173 a = p.2.2.1 a ∧ gi y 174 a = p.2.2.2.1 a
def hlT (T : TT) (h : Nat) : TT := uT (uT T (6 + 2 * h) (T (6 + 2 * h) + 1)) (7 + 2 * h) (T (7 + 2 * h) + 1)
theorem hlT_off {T : TT} {h i : Nat} (hh : h < 24) (c : i < 6 ∨ 54 ≤ i) : hlT T h i = T i := by
  unfold hlT
  rw [uT_ne _ _ (by omega), uT_ne _ _ (by omega)]
theorem WFB.hl {T : TT} {W C S A N h : Nat} (F : WFB T W C S A N) (hh : h < 24) : WFB (hlT T h) W C S A N := by
  obtain ⟨w1, w2, w3, w4, w5, w6, w7, w8, w9, w10, w11, w12, w13, w14⟩ := F
  have hT : ∀ i, i < 6 ∨ 54 ≤ i → hlT T h i = T i := fun i hi => hlT_off hh hi
  exact ⟨by rw [hT 0 (by omega)]; exact w1, w2, w3, by rw [hT 1 (by omega)]; exact w4, w5, by rw [hT 2 (by omega)]; exact w6, w7, by rw [hT 3 (by omega)]; exact w8, w9, by rw [hT 4 (by omega)]; exact w10, w11, w12, fun s hs => (w13 s hs).cg (fun k hk => hT _ (by omega)), fun a ha => (w14 a ha).cg (fun k hk => hT _ (by omega))⟩
theorem SEB.hl {x : Cn} {q : Nat} {T : TT} {W C S A N h : Nat} (E : SEB x q T W C S A N) (hh : h < 24) : SEB (ui (ui x (q + 1) h (T (6 + 2 * h) + 1)) (q + 2) h (T (7 + 2 * h) + 1)) q (hlT T h) W C S A N := by
  have F := E.2.2.2.hl hh
  obtain ⟨e1, e2, ⟨v0, v1, v2, v3, v4, v5, v6, v7⟩, w1, w2, w3, w4, w5, w6, w7, w8, w9, w10, w11, w12, w13, w14⟩ := E
  obtain ⟨r1, r2, r3, r4, r5, r6, r7, r8, r9⟩ := id e2
  have hT : ∀ i, i < 6 ∨ 54 ≤ i → hlT T h i = T i := fun i hi => hlT_off hh hi
  have eo : ∀ b k, b ≠ q + 1 → b ≠ q + 2 → gi (ui (ui x (q + 1) h (T (6 + 2 * h) + 1)) (q + 2) h (T (7 + 2 * h) + 1)) b k = gi x b k := fun b k b1 b2 => by rw [gi_ui, if_neg (fun u => b2 u.1), gi_ui, if_neg (fun u => b1 u.1)]
  refine ⟨e1, e2.keep rfl, ⟨?_, ?_, ?_, ?_, ?_, ?_, ?_, ?_⟩, F⟩
  · rw [eo q 0 (by omega) (by omega), hT 0 (by omega)]; exact v0
  · rw [eo q 1 (by omega) (by omega), hT 4 (by omega)]; exact v1
  · rw [eo q 2 (by omega) (by omega), hT 5 (by omega)]; exact v2
  · rw [eo q 3 (by omega) (by omega), hT 2 (by omega)]; exact v3
  · rw [eo q 4 (by omega) (by omega), hT 3 (by omega)]; exact v4
  · intro i hi
    by_cases c : i = h
    · subst c
      refine ⟨?_, ?_⟩
      · rw [gi_ui, if_neg (by omega), gi_ui, if_pos ⟨rfl, rfl⟩]
        unfold hlT
        rw [uT_ne _ _ (by omega), uT_at]
      · rw [gi_ui, if_pos ⟨rfl, rfl⟩]
        unfold hlT
        rw [uT_at]
    · refine ⟨?_, ?_⟩
      · rw [gi_ui, if_neg (by omega), gi_ui, if_neg (fun u => c u.2)]
        unfold hlT
        rw [uT_ne _ _ (by omega), uT_ne _ _ (by omega)]
        exact (v5 i hi).1
      · rw [gi_ui, if_neg (fun u => c u.2), gi_ui, if_neg (by omega)]
        unfold hlT
        rw [uT_ne _ _ (by omega), uT_ne _ _ (by omega)]
        exact (v5 i hi).2
  · intro s p hs hp
    obtain ⟨j, hj, ej⟩ := r6 s (by omega)
    have ep : p = q + 6 + j := Option.some.inj ((show gr x (q + 3) s = some p from hp).symm.trans ej)
    exact (v6 s p hs hp).cg (fun k _ => eo p k (by omega) (by omega)) (fun k hk => hT _ (by omega))
  · intro s p hs hp
    obtain ⟨j, hj, ej⟩ := r8 s (by omega)
    have ep : p = q + 30 + j := Option.some.inj ((show gr x (q + 4) s = some p from hp).symm.trans ej)
    exact (v7 s p hs hp).cg (fun k _ => eo p k (by omega) (by omega)) (fun k hk => hT _ (by omega))
set_option maxHeartbeats 2000000 in
theorem v_X2_serve_0 {K : Sh} {x : Cn} {Q : Cn → Prop} {b0 : Nat} {b1 : Nat} {l2 : Int32} {b0_0 : Nat} (k_b0 : kk K b0 = some (2, 0)) (g_b0_0 : gr x b0 0 = some b0_0) (k_b0_0 : kk K b0_0 = some (4, 0)) (K0 : mSV mX4_copyFrom [.ref b0_0, .ref b1] K x (fun y_1 => (l2 < 0 → (mSV mX2_countSlots [.ref b0] K y_1 (fun y_3 => mSI mX2_allAsks [.ref b0] K (ui y_3 b0 4 0) (fun r_5 y_4 => GV mX2_serve 61 [some (.ref b0), some (.ref b1), some (.int l2), some (.int r_5), some (.int 0), none] [] K y_4 Q)))) ∧ (¬ l2 < 0 → ((24 ≤ l2 → (mSV mX2_countSlots [.ref b0] K y_1 (fun y_7 => mSI mX2_allAsks [.ref b0] K (ui y_7 b0 4 0) (fun r_9 y_8 => GV mX2_serve 61 [some (.ref b0), some (.ref b1), some (.int l2), some (.int r_9), some (.int 0), none] [] K y_8 Q)))) ∧ (¬ 24 ≤ l2 → (gr y_1 b0 0 = some b0_0 ∧ (∃ c_11 : Nat, gr y_1 b0_0 5 = some c_11 ∧ (∃ n_14 : Nat, kk K c_11 = some (20, n_14) ∧ (vp_in l2 n_14 ∧ (∃ c_16 : Nat, gr y_1 b0_0 6 = some c_16 ∧ (∃ n_19 : Nat, kk K c_16 = some (20, n_19) ∧ (vp_in l2 n_19 ∧ (mSV mX2_countSlots [.ref b0] K (ui (ui y_1 c_11 (l2 : Int32).toNatClampNeg ((gi y_1 c_11 (l2 : Int32).toNatClampNeg) + 1)) c_16 (l2 : Int32).toNatClampNeg ((gi (ui y_1 c_11 (l2 : Int32).toNatClampNeg ((gi y_1 c_11 (l2 : Int32).toNatClampNeg) + 1)) c_16 (l2 : Int32).toNatClampNeg) + 1)) (fun y_21 => mSI mX2_allAsks [.ref b0] K (ui y_21 b0 4 0) (fun r_23 y_22 => GV mX2_serve 61 [some (.ref b0), some (.ref b1), some (.int l2), some (.int r_23), some (.int 0), none] [] K y_22 Q))))))))))))))) : mSV mX2_serve [.ref b0, .ref b1, .int l2] K x Q := by
  refine s_V (by decide) (by simp [Value.category]) (Nat.le_of_ble_eq_true rfl) ?_
  show mGM mX2_serve 0 [some (.ref b0), some (.ref b1), some (.int l2), none, none, none] [] (hp K x) (PV K Q)
  refine r_aload_n (pc := 0) dX2_serve_0 rfl ?_
  refine s_getR (pc := 1) dX2_serve_1 fl_X2_12 rfl k_b0 g_b0_0 ?_
  refine r_aload_n (pc := 4) dX2_serve_4 rfl ?_
  refine s_VV (pc := 5) mX4_copyFrom (ci := 4) (a := b0_0) (As := [.ref b1]) dX2_serve_5 lk_X2_32 in_X4_copyFrom mo_X4_copyFrom ⟨by decide, rfl⟩ ⟨by decide, by decide⟩ (Nat.le_of_ble_eq_true rfl) k_b0_0 (mSV_mono K0 (fun y_1 K0 => ?_))
  refine r_iload_n (pc := 8) dX2_serve_8 rfl ?_
  refine r_if_lt (pc := 9) (tgt := 44) dX2_serve_9 (by decide) (fun q => ?_) (fun q => ?_)
  · have K0 := K0.1 q
    refine r_aload_n (pc := 44) dX2_serve_44 rfl ?_
    refine s_VV (pc := 45) mX2_countSlots (ci := 2) (a := b0) (As := []) dX2_serve_45 lk_X2_36 in_X2_countSlots mo_X2_countSlots ⟨by decide, rfl⟩ ⟨by decide, by decide⟩ (Nat.le_of_ble_eq_true rfl) k_b0 (mSV_mono K0 (fun y_3 K0 => ?_))
    refine r_aload_n (pc := 48) dX2_serve_48 rfl ?_
    refine r_iconst (pc := 49) (v := 0) dX2_serve_49 (by decide) ?_
    refine s_putI (pc := 50) dX2_serve_50 fl_X2_28 rfl rfl k_b0 ?_
    refine r_aload_n (pc := 53) dX2_serve_53 rfl ?_
    refine s_VI (pc := 54) mX2_allAsks (ci := 2) (a := b0) (As := []) dX2_serve_54 lk_X2_39 in_X2_allAsks mo_X2_allAsks ⟨by decide, rfl⟩ ⟨by decide, by decide⟩ (Nat.le_of_ble_eq_true rfl) k_b0 (mSI_mono K0 (fun r_5 y_4 K0 => ?_))
    refine r_istore_n (pc := 57) dX2_serve_57 (by decide) ?_
    refine r_iconst (pc := 58) (L := [some (.ref b0), some (.ref b1), some (.int l2), some (.int r_5), none, none]) (v := 0) dX2_serve_58 (by decide) ?_
    refine r_istore (pc := 59) dX2_serve_59 (by decide) ?_
    exact r_le (L' := [some (.ref b0), some (.ref b1), some (.int l2), some (.int r_5), some (.int 0), none]) ⟨rfl, ⟨rfl, ⟨rfl, ⟨rfl, ⟨rfl, trivial⟩⟩⟩⟩⟩ K0
  · have K0 := K0.2 q
    refine r_iload_n (pc := 12) dX2_serve_12 rfl ?_
    refine r_bipush (pc := 13) (v := 24) dX2_serve_13 (by decide) ?_
    refine r_icmp_ge (pc := 15) (tgt := 44) dX2_serve_15 (by decide) (fun q => ?_) (fun q => ?_)
    · have K0 := K0.1 q
      refine r_aload_n (pc := 44) dX2_serve_44 rfl ?_
      refine s_VV (pc := 45) mX2_countSlots (ci := 2) (a := b0) (As := []) dX2_serve_45 lk_X2_36 in_X2_countSlots mo_X2_countSlots ⟨by decide, rfl⟩ ⟨by decide, by decide⟩ (Nat.le_of_ble_eq_true rfl) k_b0 (mSV_mono K0 (fun y_7 K0 => ?_))
      refine r_aload_n (pc := 48) dX2_serve_48 rfl ?_
      refine r_iconst (pc := 49) (v := 0) dX2_serve_49 (by decide) ?_
      refine s_putI (pc := 50) dX2_serve_50 fl_X2_28 rfl rfl k_b0 ?_
      refine r_aload_n (pc := 53) dX2_serve_53 rfl ?_
      refine s_VI (pc := 54) mX2_allAsks (ci := 2) (a := b0) (As := []) dX2_serve_54 lk_X2_39 in_X2_allAsks mo_X2_allAsks ⟨by decide, rfl⟩ ⟨by decide, by decide⟩ (Nat.le_of_ble_eq_true rfl) k_b0 (mSI_mono K0 (fun r_9 y_8 K0 => ?_))
      refine r_istore_n (pc := 57) dX2_serve_57 (by decide) ?_
      refine r_iconst (pc := 58) (L := [some (.ref b0), some (.ref b1), some (.int l2), some (.int r_9), none, none]) (v := 0) dX2_serve_58 (by decide) ?_
      refine r_istore (pc := 59) dX2_serve_59 (by decide) ?_
      exact r_le (L' := [some (.ref b0), some (.ref b1), some (.int l2), some (.int r_9), some (.int 0), none]) ⟨rfl, ⟨rfl, ⟨rfl, ⟨rfl, ⟨rfl, trivial⟩⟩⟩⟩⟩ K0
    · have K0 := K0.2 q
      refine r_aload_n (pc := 18) dX2_serve_18 rfl ?_
      obtain ⟨g_10, K0⟩ := K0
      refine s_getR (pc := 19) dX2_serve_19 fl_X2_12 rfl k_b0 g_10 ?_
      obtain ⟨c_11, g_12, K0⟩ := K0
      refine s_getR (pc := 22) dX2_serve_22 fl_X2_47 rfl k_b0_0 g_12 ?_
      refine r_iload_n (pc := 25) dX2_serve_25 rfl ?_
      refine r_dup2 (pc := 26) dX2_serve_26 rfl rfl ?_
      obtain ⟨n_14, e_13, K0⟩ := K0
      obtain ⟨i_15, K0⟩ := K0
      refine s_iald (pc := 27) dX2_serve_27 e_13 i_15 ?_
      refine r_iconst (pc := 28) (v := 1) dX2_serve_28 (by decide) ?_
      refine r_iadd (pc := 29) dX2_serve_29 ?_
      refine s_iast (pc := 30) dX2_serve_30 e_13 i_15 ?_
      refine r_aload_n (pc := 31) dX2_serve_31 rfl ?_
      refine s_getR (pc := 32) dX2_serve_32 fl_X2_12 rfl k_b0 g_10 ?_
      obtain ⟨c_16, g_17, K0⟩ := K0
      refine s_getR (pc := 35) dX2_serve_35 fl_X2_50 rfl k_b0_0 g_17 ?_
      refine r_iload_n (pc := 38) dX2_serve_38 rfl ?_
      refine r_dup2 (pc := 39) dX2_serve_39 rfl rfl ?_
      obtain ⟨n_19, e_18, K0⟩ := K0
      obtain ⟨i_20, K0⟩ := K0
      refine s_iald (pc := 40) dX2_serve_40 e_18 i_20 ?_
      refine r_iconst (pc := 41) (v := 1) dX2_serve_41 (by decide) ?_
      refine r_iadd (pc := 42) dX2_serve_42 ?_
      refine s_iast (pc := 43) dX2_serve_43 e_18 i_20 ?_
      refine r_aload_n (pc := 44) dX2_serve_44 rfl ?_
      refine s_VV (pc := 45) mX2_countSlots (ci := 2) (a := b0) (As := []) dX2_serve_45 lk_X2_36 in_X2_countSlots mo_X2_countSlots ⟨by decide, rfl⟩ ⟨by decide, by decide⟩ (Nat.le_of_ble_eq_true rfl) k_b0 (mSV_mono K0 (fun y_21 K0 => ?_))
      refine r_aload_n (pc := 48) dX2_serve_48 rfl ?_
      refine r_iconst (pc := 49) (v := 0) dX2_serve_49 (by decide) ?_
      refine s_putI (pc := 50) dX2_serve_50 fl_X2_28 rfl rfl k_b0 ?_
      refine r_aload_n (pc := 53) dX2_serve_53 rfl ?_
      refine s_VI (pc := 54) mX2_allAsks (ci := 2) (a := b0) (As := []) dX2_serve_54 lk_X2_39 in_X2_allAsks mo_X2_allAsks ⟨by decide, rfl⟩ ⟨by decide, by decide⟩ (Nat.le_of_ble_eq_true rfl) k_b0 (mSI_mono K0 (fun r_23 y_22 K0 => ?_))
      refine r_istore_n (pc := 57) dX2_serve_57 (by decide) ?_
      refine r_iconst (pc := 58) (L := [some (.ref b0), some (.ref b1), some (.int l2), some (.int r_23), none, none]) (v := 0) dX2_serve_58 (by decide) ?_
      refine r_istore (pc := 59) dX2_serve_59 (by decide) ?_
      exact r_le (L' := [some (.ref b0), some (.ref b1), some (.int l2), some (.int r_23), some (.int 0), none]) ⟨rfl, ⟨rfl, ⟨rfl, ⟨rfl, ⟨rfl, trivial⟩⟩⟩⟩⟩ K0
set_option maxHeartbeats 2000000 in
theorem v_X2_serve_61 {K : Sh} {x : Cn} {Q : Cn → Prop} {b0 : Nat} {b1 : Nat} {l2 : Int32} {l3 : Int32} {l4 : Int32} {b0_0 : Nat} (k_b0 : kk K b0 = some (2, 0)) (g_b0_0 : gr x b0 0 = some b0_0) (k_b0_0 : kk K b0_0 = some (4, 0)) (K0 : ((gi x b0_0 4) ≤ l4 → (Q x)) ∧ (¬ (gi x b0_0 4) ≤ l4 → ((¬ (l4 - l4 / 2 * 2) = 0 → (mSI mX2_chosen [.ref b0, .int l3, .int 0] K x (fun r_4 y_3 => (r_4 < 0 → (GV mX2_serve 61 [some (.ref b0), some (.ref b1), some (.int l2), some (.int l3), some (.int (l4 + 1)), none] [] K y_3 Q)) ∧ (¬ r_4 < 0 → (gr y_3 b0 0 = some b0_0 ∧ (((gi y_3 b0_0 4) ≤ r_4 → (GV mX2_serve 61 [some (.ref b0), some (.ref b1), some (.int l2), some (.int l3), some (.int (l4 + 1)), none] [] K y_3 Q)) ∧ (¬ (gi y_3 b0_0 4) ≤ r_4 → (∃ c_8 : Nat, gr y_3 b0 2 = some c_8 ∧ (∃ n_11 : Nat, kk K c_8 = some (20, n_11) ∧ (vp_in r_4 n_11 ∧ (mSV mX2_lookAt [.ref b0, .int r_4] K (ui y_3 c_8 (r_4 : Int32).toNatClampNeg l4) (fun y_13 => GV mX2_serve 61 [some (.ref b0), some (.ref b1), some (.int l2), some (.int (l3 &&& ((1 <<< (r_4 &&& 31)) ^^^ (-1)))), some (.int (l4 + 1)), none] [] K y_13 Q)))))))))))) ∧ ((l4 - l4 / 2 * 2) = 0 → (mSI mX2_chosen [.ref b0, .int l3, .int 1] K x (fun r_15 y_14 => (r_15 < 0 → (GV mX2_serve 61 [some (.ref b0), some (.ref b1), some (.int l2), some (.int l3), some (.int (l4 + 1)), none] [] K y_14 Q)) ∧ (¬ r_15 < 0 → (gr y_14 b0 0 = some b0_0 ∧ (((gi y_14 b0_0 4) ≤ r_15 → (GV mX2_serve 61 [some (.ref b0), some (.ref b1), some (.int l2), some (.int l3), some (.int (l4 + 1)), none] [] K y_14 Q)) ∧ (¬ (gi y_14 b0_0 4) ≤ r_15 → (∃ c_19 : Nat, gr y_14 b0 2 = some c_19 ∧ (∃ n_22 : Nat, kk K c_19 = some (20, n_22) ∧ (vp_in r_15 n_22 ∧ (mSV mX2_lookAt [.ref b0, .int r_15] K (ui y_14 c_19 (r_15 : Int32).toNatClampNeg l4) (fun y_24 => GV mX2_serve 61 [some (.ref b0), some (.ref b1), some (.int l2), some (.int (l3 &&& ((1 <<< (r_15 &&& 31)) ^^^ (-1)))), some (.int (l4 + 1)), none] [] K y_24 Q))))))))))))))) : GV mX2_serve 61 [some (.ref b0), some (.ref b1), some (.int l2), some (.int l3), some (.int l4), none] [] K x Q := by
  show mGM mX2_serve 61 [some (.ref b0), some (.ref b1), some (.int l2), some (.int l3), some (.int l4), none] [] (hp K x) (PV K Q)
  refine r_iload (pc := 61) dX2_serve_61 rfl ?_
  refine r_aload_n (pc := 63) dX2_serve_63 rfl ?_
  refine s_getR (pc := 64) dX2_serve_64 fl_X2_12 rfl k_b0 g_b0_0 ?_
  refine s_getI (pc := 67) dX2_serve_67 fl_X2_53 rfl k_b0_0 ?_
  refine r_icmp_ge (pc := 70) (tgt := 139) dX2_serve_70 (by decide) (fun q => ?_) (fun q => ?_)
  · have K0 := K0.1 q
    exact s_ret rfl dX2_serve_139 K0
  · have K0 := K0.2 q
    refine r_aload_n (pc := 73) dX2_serve_73 rfl ?_
    refine r_iload_n (pc := 74) dX2_serve_74 rfl ?_
    refine r_iload (pc := 75) dX2_serve_75 rfl ?_
    refine r_iconst (pc := 77) (v := 2) dX2_serve_77 (by decide) ?_
    refine r_irem (pc := 78) dX2_serve_78 (by decide) ?_
    refine r_if_ne (pc := 79) (tgt := 86) dX2_serve_79 (by decide) (fun q => ?_) (fun q => ?_)
    · have K0 := K0.1 q
      refine r_iconst (pc := 86) (v := 0) dX2_serve_86 (by decide) ?_
      refine s_VI (pc := 87) mX2_chosen (ci := 2) (a := b0) (As := [.int l3, .int 0]) dX2_serve_87 lk_X2_43 in_X2_chosen mo_X2_chosen ⟨by decide, rfl⟩ ⟨by decide, by decide⟩ (Nat.le_of_ble_eq_true rfl) k_b0 (mSI_mono K0 (fun r_4 y_3 K0 => ?_))
      refine r_istore (pc := 90) dX2_serve_90 (by decide) ?_
      refine r_iload (pc := 92) (L := [some (.ref b0), some (.ref b1), some (.int l2), some (.int l3), some (.int l4), some (.int r_4)]) dX2_serve_92 rfl ?_
      refine r_if_lt (pc := 94) (tgt := 133) dX2_serve_94 (by decide) (fun q => ?_) (fun q => ?_)
      · have K0 := K0.1 q
        refine r_iinc (pc := 133) (v := l4 + 1) dX2_serve_133 rfl rfl (by decide) ?_
        refine r_goto (pc := 136) (L := [some (.ref b0), some (.ref b1), some (.int l2), some (.int l3), some (.int (l4 + 1)), some (.int r_4)]) (tgt := 61) dX2_serve_136 (by decide) ?_
        exact r_le (L' := [some (.ref b0), some (.ref b1), some (.int l2), some (.int l3), some (.int (l4 + 1)), none]) ⟨rfl, ⟨rfl, ⟨rfl, ⟨rfl, ⟨rfl, trivial⟩⟩⟩⟩⟩ K0
      · have K0 := K0.2 q
        refine r_iload (pc := 97) dX2_serve_97 rfl ?_
        refine r_aload_n (pc := 99) dX2_serve_99 rfl ?_
        obtain ⟨g_6, K0⟩ := K0
        refine s_getR (pc := 100) dX2_serve_100 fl_X2_12 rfl k_b0 g_6 ?_
        refine s_getI (pc := 103) dX2_serve_103 fl_X2_53 rfl k_b0_0 ?_
        refine r_icmp_ge (pc := 106) (tgt := 133) dX2_serve_106 (by decide) (fun q => ?_) (fun q => ?_)
        · have K0 := K0.1 q
          refine r_iinc (pc := 133) (v := l4 + 1) dX2_serve_133 rfl rfl (by decide) ?_
          refine r_goto (pc := 136) (L := [some (.ref b0), some (.ref b1), some (.int l2), some (.int l3), some (.int (l4 + 1)), some (.int r_4)]) (tgt := 61) dX2_serve_136 (by decide) ?_
          exact r_le (L' := [some (.ref b0), some (.ref b1), some (.int l2), some (.int l3), some (.int (l4 + 1)), none]) ⟨rfl, ⟨rfl, ⟨rfl, ⟨rfl, ⟨rfl, trivial⟩⟩⟩⟩⟩ K0
        · have K0 := K0.2 q
          refine r_iload_n (pc := 109) dX2_serve_109 rfl ?_
          refine r_iconst (pc := 110) (v := 1) dX2_serve_110 (by decide) ?_
          refine r_iload (pc := 111) dX2_serve_111 rfl ?_
          refine r_ishl (pc := 113) dX2_serve_113 ?_
          refine r_iconst (pc := 114) (v := (-1)) dX2_serve_114 (by decide) ?_
          refine r_ixor (pc := 115) dX2_serve_115 ?_
          refine r_iand (pc := 116) dX2_serve_116 ?_
          refine r_istore_n (pc := 117) dX2_serve_117 (by decide) ?_
          refine r_aload_n (pc := 118) (L := [some (.ref b0), some (.ref b1), some (.int l2), some (.int (l3 &&& ((1 <<< (r_4 &&& 31)) ^^^ (-1)))), some (.int l4), some (.int r_4)]) dX2_serve_118 rfl ?_
          obtain ⟨c_8, g_9, K0⟩ := K0
          refine s_getR (pc := 119) dX2_serve_119 fl_X2_22 rfl k_b0 g_9 ?_
          refine r_iload (pc := 122) dX2_serve_122 rfl ?_
          refine r_iload (pc := 124) dX2_serve_124 rfl ?_
          obtain ⟨n_11, e_10, K0⟩ := K0
          obtain ⟨i_12, K0⟩ := K0
          refine s_iast (pc := 126) dX2_serve_126 e_10 i_12 ?_
          refine r_aload_n (pc := 127) dX2_serve_127 rfl ?_
          refine r_iload (pc := 128) dX2_serve_128 rfl ?_
          refine s_VV (pc := 130) mX2_lookAt (ci := 2) (a := b0) (As := [.int r_4]) dX2_serve_130 lk_X2_56 in_X2_lookAt mo_X2_lookAt ⟨by decide, rfl⟩ ⟨by decide, by decide⟩ (Nat.le_of_ble_eq_true rfl) k_b0 (mSV_mono K0 (fun y_13 K0 => ?_))
          refine r_iinc (pc := 133) (v := l4 + 1) dX2_serve_133 rfl rfl (by decide) ?_
          refine r_goto (pc := 136) (L := [some (.ref b0), some (.ref b1), some (.int l2), some (.int (l3 &&& ((1 <<< (r_4 &&& 31)) ^^^ (-1)))), some (.int (l4 + 1)), some (.int r_4)]) (tgt := 61) dX2_serve_136 (by decide) ?_
          exact r_le (L' := [some (.ref b0), some (.ref b1), some (.int l2), some (.int (l3 &&& ((1 <<< (r_4 &&& 31)) ^^^ (-1)))), some (.int (l4 + 1)), none]) ⟨rfl, ⟨rfl, ⟨rfl, ⟨rfl, ⟨rfl, trivial⟩⟩⟩⟩⟩ K0
    · have K0 := K0.2 q
      refine r_iconst (pc := 82) (v := 1) dX2_serve_82 (by decide) ?_
      refine r_goto (pc := 83) (tgt := 87) dX2_serve_83 (by decide) ?_
      refine s_VI (pc := 87) mX2_chosen (ci := 2) (a := b0) (As := [.int l3, .int 1]) dX2_serve_87 lk_X2_43 in_X2_chosen mo_X2_chosen ⟨by decide, rfl⟩ ⟨by decide, by decide⟩ (Nat.le_of_ble_eq_true rfl) k_b0 (mSI_mono K0 (fun r_15 y_14 K0 => ?_))
      refine r_istore (pc := 90) dX2_serve_90 (by decide) ?_
      refine r_iload (pc := 92) (L := [some (.ref b0), some (.ref b1), some (.int l2), some (.int l3), some (.int l4), some (.int r_15)]) dX2_serve_92 rfl ?_
      refine r_if_lt (pc := 94) (tgt := 133) dX2_serve_94 (by decide) (fun q => ?_) (fun q => ?_)
      · have K0 := K0.1 q
        refine r_iinc (pc := 133) (v := l4 + 1) dX2_serve_133 rfl rfl (by decide) ?_
        refine r_goto (pc := 136) (L := [some (.ref b0), some (.ref b1), some (.int l2), some (.int l3), some (.int (l4 + 1)), some (.int r_15)]) (tgt := 61) dX2_serve_136 (by decide) ?_
        exact r_le (L' := [some (.ref b0), some (.ref b1), some (.int l2), some (.int l3), some (.int (l4 + 1)), none]) ⟨rfl, ⟨rfl, ⟨rfl, ⟨rfl, ⟨rfl, trivial⟩⟩⟩⟩⟩ K0
      · have K0 := K0.2 q
        refine r_iload (pc := 97) dX2_serve_97 rfl ?_
        refine r_aload_n (pc := 99) dX2_serve_99 rfl ?_
        obtain ⟨g_17, K0⟩ := K0
        refine s_getR (pc := 100) dX2_serve_100 fl_X2_12 rfl k_b0 g_17 ?_
        refine s_getI (pc := 103) dX2_serve_103 fl_X2_53 rfl k_b0_0 ?_
        refine r_icmp_ge (pc := 106) (tgt := 133) dX2_serve_106 (by decide) (fun q => ?_) (fun q => ?_)
        · have K0 := K0.1 q
          refine r_iinc (pc := 133) (v := l4 + 1) dX2_serve_133 rfl rfl (by decide) ?_
          refine r_goto (pc := 136) (L := [some (.ref b0), some (.ref b1), some (.int l2), some (.int l3), some (.int (l4 + 1)), some (.int r_15)]) (tgt := 61) dX2_serve_136 (by decide) ?_
          exact r_le (L' := [some (.ref b0), some (.ref b1), some (.int l2), some (.int l3), some (.int (l4 + 1)), none]) ⟨rfl, ⟨rfl, ⟨rfl, ⟨rfl, ⟨rfl, trivial⟩⟩⟩⟩⟩ K0
        · have K0 := K0.2 q
          refine r_iload_n (pc := 109) dX2_serve_109 rfl ?_
          refine r_iconst (pc := 110) (v := 1) dX2_serve_110 (by decide) ?_
          refine r_iload (pc := 111) dX2_serve_111 rfl ?_
          refine r_ishl (pc := 113) dX2_serve_113 ?_
          refine r_iconst (pc := 114) (v := (-1)) dX2_serve_114 (by decide) ?_
          refine r_ixor (pc := 115) dX2_serve_115 ?_
          refine r_iand (pc := 116) dX2_serve_116 ?_
          refine r_istore_n (pc := 117) dX2_serve_117 (by decide) ?_
          refine r_aload_n (pc := 118) (L := [some (.ref b0), some (.ref b1), some (.int l2), some (.int (l3 &&& ((1 <<< (r_15 &&& 31)) ^^^ (-1)))), some (.int l4), some (.int r_15)]) dX2_serve_118 rfl ?_
          obtain ⟨c_19, g_20, K0⟩ := K0
          refine s_getR (pc := 119) dX2_serve_119 fl_X2_22 rfl k_b0 g_20 ?_
          refine r_iload (pc := 122) dX2_serve_122 rfl ?_
          refine r_iload (pc := 124) dX2_serve_124 rfl ?_
          obtain ⟨n_22, e_21, K0⟩ := K0
          obtain ⟨i_23, K0⟩ := K0
          refine s_iast (pc := 126) dX2_serve_126 e_21 i_23 ?_
          refine r_aload_n (pc := 127) dX2_serve_127 rfl ?_
          refine r_iload (pc := 128) dX2_serve_128 rfl ?_
          refine s_VV (pc := 130) mX2_lookAt (ci := 2) (a := b0) (As := [.int r_15]) dX2_serve_130 lk_X2_56 in_X2_lookAt mo_X2_lookAt ⟨by decide, rfl⟩ ⟨by decide, by decide⟩ (Nat.le_of_ble_eq_true rfl) k_b0 (mSV_mono K0 (fun y_24 K0 => ?_))
          refine r_iinc (pc := 133) (v := l4 + 1) dX2_serve_133 rfl rfl (by decide) ?_
          refine r_goto (pc := 136) (L := [some (.ref b0), some (.ref b1), some (.int l2), some (.int (l3 &&& ((1 <<< (r_15 &&& 31)) ^^^ (-1)))), some (.int (l4 + 1)), some (.int r_15)]) (tgt := 61) dX2_serve_136 (by decide) ?_
          exact r_le (L' := [some (.ref b0), some (.ref b1), some (.int l2), some (.int (l3 &&& ((1 <<< (r_15 &&& 31)) ^^^ (-1)))), some (.int (l4 + 1)), none]) ⟨rfl, ⟨rfl, ⟨rfl, ⟨rfl, ⟨rfl, trivial⟩⟩⟩⟩⟩ K0
section
theorem sp_X2_serve_lp {x : Cn} {Q : Cn → Prop} {W C S A N : Nat} {T0 : TT} {b1 : Nat} {hp : Int32} (P : PLf x) (F : WFB T0 W C S A N) (k : ∀ y, PCr x y → CPR y (accT (plS A N) A (pl0 T0 S)) W C A N → Q y) {y : Cn} {left : Int32} (fy : PCr x y) (cy : CPR y (pl0 T0 S) W C A N) (hu : ∀ a, a < A → tb left a = !(usd (fun _ => -1) a)) : GV mX2_serve 61 [some (.ref 117), some (.ref b1), some (.int hp), some (.int left), some (.int 0), none] [] KW y Q := by
  refine lp_acc (plS A N) (fun k p => PIV W C A N T0 k p → ∀ y left, PCr x y → CPR y p W C A N → (∀ a, a < A → tb left a = !(usd p.2.2.1 a)) → GV mX2_serve 61 [some (.ref 117), some (.ref b1), some (.int hp), some (.int left), some (.int (nI k)), none] [] KW y Q) A (pl0 T0 S) ?_ (fun k p hk n1 => ?_) (PIV.st F) y left fy cy hu
  · intro iv y left fy cy hu
    exact v_X2_serve_61 k117 (P.keep fy.1).1 (ks0 cy.1.1) ⟨fun _ => k y fy cy, fun z => absurd (by rw [cy.1.nums.2.2.2.1]; exact Int32.le_refl _) z⟩
  · intro iv y left fy cy hu
    obtain ⟨a, ha, e1, e2, e3⟩ := iv.a hk
    obtain ⟨E, hl, hg, hth⟩ := cy
    have hA : A ≤ 24 := E.nums.2.2.2.2.2.2.2.1
    have P2 := P.keep fy.1
    have hu' : ∀ b, b < A → tb (left &&& ((1 <<< (nI a &&& 31)) ^^^ (-1))) b = !(usd (uT p.2.2.1 a (nI k)) b) := by
      intro b hb
      rw [tb_and, tb_not _ (by omega), tb_one a (by omega) b (by omega), hu b hb]
      by_cases c : b = a
      · subst c
        rw [usd_t.mpr (show ¬ uT p.2.2.1 b (nI k) b = -1 by rw [uT_at]; exact nI_ne1 (by omega)), decide_eq_true rfl]
        simp
      · rw [decide_eq_false c, show usd (uT p.2.2.1 a (nI k)) b = usd p.2.2.1 b by unfold usd; rw [uT_ne _ _ c]]
        simp
    have look : mSV mX2_lookAt [.ref 117, .int (nI a)] KW (ui y 173 a (nI k)) (fun y_13 => GV mX2_serve 61 [some (.ref 117), some (.ref b1), some (.int hp), some (.int (left &&& ((1 <<< (nI a &&& 31)) ^^^ (-1)))), some (.int (nI (k + 1))), none] [] KW y_13 Q) := by
      have E2 : SEB (ui y 173 a (nI k)) 118 p.1 W C p.2.1 A N := E.eqx (EQx.rf y 173).ui (Or.inr (Or.inr (by decide)))
      have P3 : PLf (ui y 173 a (nI k)) := P2.keep rfl
      have f3 : PCr x (ui y 173 a (nI k)) := fy.ui (by decide)
      refine sp_X2_lookAt P3 E2 (hl.mv (fun i => by rw [gi_ui, if_neg (by omega)])) (g := p.2.2.2.2) (by rw [gi_ui, if_neg (by omega)]; exact hg) ha (fun h0 v fv Ev lv gv tv hv => ?_) (fun h h1 h2 h3 h4 v fv Ev lv gv tv hv => ?_)
      · refine n1 _ (plS_f e1 h0) (iv.f ha hk e3) v _ (f3.tr fv) ⟨Ev, lv, gv, fun b hb => ?_⟩ hu'
        show gi v 173 b = uT p.2.2.1 a (nI k) b ∧ gi v 174 b = uT p.2.2.2.1 a (-1) b
        rw [tv, hv, gi_ui]
        by_cases c : b = a
        · subst c
          rw [if_pos ⟨rfl, rfl⟩, if_pos rfl, uT_at, uT_at]; exact ⟨rfl, rfl⟩
        · rw [if_neg (fun u => c u.2), if_neg c, uT_ne _ _ c, uT_ne _ _ c, gi_ui, if_neg (by omega)]
          exact hth b (by have hb : ¬ uT p.2.2.1 a (nI k) b = -1 := hb
                          rw [uT_ne _ _ c] at hb; exact hb)
      · refine n1 _ (plS_t e1 h2 (nI_ne1 (by omega))) (iv.t ha hk e3 h1 h3 h4) v _ (f3.tr fv) ⟨Ev, lv, gv, fun b hb => ?_⟩ hu'
        show gi v 173 b = uT p.2.2.1 a (nI k) b ∧ gi v 174 b = uT p.2.2.2.1 a (nI h) b
        rw [tv, hv, gi_ui]
        by_cases c : b = a
        · subst c
          rw [if_pos ⟨rfl, rfl⟩, if_pos rfl, uT_at, uT_at]; exact ⟨rfl, rfl⟩
        · rw [if_neg (fun u => c u.2), if_neg c, uT_ne _ _ c, uT_ne _ _ c, gi_ui, if_neg (by omega)]
          exact hth b (by have hb : ¬ uT p.2.2.1 a (nI k) b = -1 := hb
                          rw [uT_ne _ _ c] at hb; exact hb)
    have e4 : gi y 118 4 = nI A := E.nums.2.2.2.1
    refine v_X2_serve_61 k117 P2.1 (ks0 E.1) ⟨fun z => absurd (by rw [e4] at z; exact z) (nI_ge hk (by omega)), fun _ => ?_⟩
    rw [show nI k - nI k / 2 * 2 = nI (k % 2) from pk_rem (d := 2) (by omega) (by decide) (by decide), nI_z (by omega), nI_1]
    have go : ∀ r, r = nI a → (r < 0 → GV mX2_serve 61 [some (.ref 117), some (.ref b1), some (.int hp), some (.int left), some (.int (nI (k + 1))), none] [] KW y Q) ∧ (¬ r < 0 → gr y 117 0 = some 118 ∧ ((gi y 118 4 ≤ r → GV mX2_serve 61 [some (.ref 117), some (.ref b1), some (.int hp), some (.int left), some (.int (nI (k + 1))), none] [] KW y Q) ∧ (¬ gi y 118 4 ≤ r → ∃ c_8, gr y 117 2 = some c_8 ∧ ∃ n_11, kk KW c_8 = some (20, n_11) ∧ (vp_in r n_11 ∧ mSV mX2_lookAt [.ref 117, .int r] KW (ui y c_8 (r : Int32).toNatClampNeg (nI k)) (fun y_13 => GV mX2_serve 61 [some (.ref 117), some (.ref b1), some (.int hp), some (.int (left &&& ((1 <<< (r &&& 31)) ^^^ (-1)))), some (.int (nI (k + 1))), none] [] KW y_13 Q))))) := by
      rintro r rfl
      refine ⟨fun z => absurd z (nI_pos (by omega)), fun _ => ⟨P2.1, fun z => absurd (by rw [e4] at z; exact z) (nI_ge ha (by omega)), fun _ => ⟨173, P2.2.2.1, 24, k173, vp_in_nI (by omega) (by decide), ?_⟩⟩⟩
      rw [nI_clamp (by omega)]
      exact look
    refine ⟨fun z => sp_X2_chosen P2 E hl hu (go _ ?_), fun z => sp_X2_chosen P2 E hl hu (go _ ?_)⟩
    · rw [← e2]; unfold fl; rw [if_neg z]
    · rw [← e2]; unfold fl; rw [if_pos z]
theorem sp_X2_serve {x : Cn} {Q : Cn → Prop} {T T0 : TT} {W C S A N : Nat} {hp : Int32} (c : CRf x) (E : SEA x 2 T W C S A N) (hh : (hp = -1 ∧ T0 = T) ∨ ∃ h, h < 24 ∧ hp = nI h ∧ T0 = hlT T h) (k : ∀ y, PCr x y → CPR y (accT (plS A N) A (pl0 T0 S)) W C A N → Q y) : mSV mX2_serve [.ref 117, .ref 2, .int hp] KW x Q := by
  have P := c.pl
  have hA : A ≤ 24 := E.nums.2.2.2.2.2.2.2.1
  have I118 : Isea 118 := Or.inr (Or.inr (Or.inl rfl))
  have fin : ∀ v, PCr x v → SEB v 118 T0 W C S A N → mSV mX2_countSlots [.ref 117] KW v (fun y_3 => mSI mX2_allAsks [.ref 117] KW (ui y_3 117 4 0) (fun r_5 y_4 => GV mX2_serve 61 [some (.ref 117), some (.ref 2), some (.int hp), some (.int r_5), some (.int 0), none] [] KW y_4 Q)) := by
    intro v fv Ev
    refine sp_X2_countSlots (P.keep fv.1) Ev (fun w hw lw => ?_)
    have Ew := Ev.eqx hw (Or.inr (Or.inr (by decide)))
    have E2 : SEB (ui w 117 4 0) 118 T0 W C S A N := Ew.eqx (EQx.rf w 117).ui (Or.inr (Or.inl (by decide)))
    have f2 : PCr x (ui w 117 4 0) := (fv.tr (hw.pc (by decide))).ui (by decide)
    refine v_X2_allAsks_0 k117 (P.keep f2.1).1 (ks0 I118) (sp_X2_serve_lp P Ev.2.2.2 k f2 ⟨E2, lw.mv (fun i => by rw [gi_ui, if_neg (by omega)]), by rw [gi_ui, if_pos ⟨rfl, rfl⟩]; rfl, fun a ha => absurd rfl ha⟩ (fun a ha => ?_))
    rw [E2.nums.2.2.2.1, tb_alls A (by omega) a (by omega), decide_eq_true ha, usd_f.mpr rfl]
    rfl
  refine v_X2_serve_0 k117 P.1 (ks0 I118) (sp_X4_copyFrom I118 c.2.2.2.2.2.2.2.2.2.2.2.2.2.2.2.2.2.2.1 E (by decide) (fun y fy Ey => ?_))
  rcases hh with ⟨rfl, rfl⟩ | ⟨h, hh, rfl, rfl⟩
  · exact ⟨fun _ => fin y fy.pc Ey.b, fun z => absurd (by decide) z⟩
  · refine ⟨fun z => absurd z (nI_pos (by omega)), fun _ => ⟨fun z => absurd z (nI_ge (b := 24) hh (by decide)), fun _ => ⟨(P.keep fy.1).1, 119, Ey.2.1.1, 24, ks1 I118, vp_in_nI hh (by decide), 120, Ey.2.1.2.1, 24, ks2 I118, vp_in_nI hh (by decide), ?_⟩⟩⟩
    have v5 := Ey.2.2.1.2.2.2.2.2.1 h hh
    have g1 : gi y 119 h = T (6 + 2 * h) := v5.1
    have g2 : gi y 120 h = T (7 + 2 * h) := v5.2
    rw [nI_clamp (by omega), g1, show gi (ui y 119 h (T (6 + 2 * h) + 1)) 120 h = T (7 + 2 * h) by rw [gi_ui, if_neg (by omega)]; exact g2]
    exact fin _ ((fy.pc.ui (by decide)).ui (by decide)) (Ey.b.hl hh)

end
end

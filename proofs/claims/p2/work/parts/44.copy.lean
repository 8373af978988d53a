theorem bas_cg {T T' : TT} {s : Nat} (h : ∀ k, k < 12 → so T' s k = so T s k) : bas T' s = bas T s := by
  unfold bas
  rw [h 7 (by decide), h 8 (by decide), h 9 (by decide), h 10 (by decide)]
theorem Wse.cg {T T' : TT} {C W s : Nat} (w : Wse T C W s) (h : ∀ k, k < 12 → so T' s k = so T s k) : Wse T' C W s := by
  obtain ⟨w1, w2, w3, w4, w5, w6, w7, w8⟩ := w
  refine ⟨by rw [h 0 (by decide)]; exact w1, by rw [h 1 (by decide)]; exact w2, by rw [h 2 (by decide)]; exact w3, by rw [h 3 (by decide)]; exact w4, by rw [h 4 (by decide)]; exact w5, by rw [h 5 (by decide), h 6 (by decide)]; exact w6, fun i hi k j hk hj a b => w7 i hi k j hk hj (by rw [← h (7 + k) (by omega)]; exact a) (by rw [← h (7 + j) (by omega)]; exact b), fun i k hk a => w8 i k hk (by rw [← h (7 + k) (by omega)]; exact a)⟩
theorem Was.cg {T T' : TT} {C W a : Nat} (w : Was T C W a) (h : ∀ k, k < 7 → ao T' a k = ao T a k) : Was T' C W a := by
  obtain ⟨w1, w2, w3, w4, w5, w6⟩ := w
  exact ⟨by rw [h 0 (by decide)]; exact w1, by rw [h 1 (by decide)]; exact w2, by rw [h 2 (by decide)]; exact w3, by rw [h 3 (by decide)]; exact w4, by rw [h 4 (by decide), h 5 (by decide)]; exact w5, by rw [h 6 (by decide)]; exact w6⟩
theorem SER.cg {x y : Cn} {p s s' : Nat} {T T' : TT} (w : SER x p T s) (hy : ∀ k, k < 12 → gi y p k = gi x p k) (h : ∀ k, k < 12 → so T' s' k = so T s k) : SER y p T' s' := by
  refine ⟨fun k h1 h2 => by rw [hy k h1, h k h1]; exact w.1 k h1 h2, ?_⟩
  unfold bas
  rw [hy 7 (by decide), h 7 (by decide), h 8 (by decide), h 9 (by decide), h 10 (by decide), h 11 (by decide)]
  exact w.2
theorem ASR.cg {x y : Cn} {p a a' : Nat} {T T' : TT} (w : ASR x p T a) (hy : ∀ k, k < 7 → gi y p k = gi x p k) (h : ∀ k, k < 7 → ao T' a' k = ao T a k) : ASR y p T' a' := fun k hk => by rw [hy k hk, h k hk]; exact w k hk
theorem WF.cg {T T' : TT} {W C S A N : Nat} (w : WF T W C S A N) (h : ∀ i, i < 518 → T' i = T i) : WF T' W C S A N := by
  obtain ⟨w1, w2, w3, w4, w5, w6, w7, w8, w9, w10, w11, w12, w13, w14⟩ := w
  exact ⟨by rw [h 0 (by decide)]; exact w1, w2, w3, by rw [h 1 (by decide)]; exact w4, w5, by rw [h 2 (by decide)]; exact w6, w7, by rw [h 3 (by decide)]; exact w8, w9, by rw [h 4 (by decide)]; exact w10, w11, fun i hi => by rw [h (6 + 2 * i) (by omega), h (7 + 2 * i) (by omega)]; exact w12 i hi, fun s hs => (w13 s hs).cg (fun k hk => h _ (by omega)), fun a ha => (w14 a ha).cg (fun k hk => h _ (by omega))⟩
/-- the same season, in another heap and told by another row -/
theorem SEA.mv {x y : Cn} {q : Nat} {T T' : TT} {W C S A N : Nat} (E : SEA x q T W C S A N) (h1 : ∀ a k, q ≤ a → a < q + 54 → gr y a k = gr x a k) (h2 : ∀ a k, q ≤ a → a < q + 54 → a ≠ q + 5 → gi y a k = gi x a k) (hT : ∀ i, i < 518 → T' i = T i) : SEA y q T' W C S A N := by
  obtain ⟨e1, e2, ⟨v0, v1, v2, v3, v4, v5, v6, v7⟩, e4⟩ := E
  have hS : S ≤ 24 := e4.2.2.2.2.2.2.1
  have hA : A ≤ 24 := e4.2.2.2.2.2.2.2.2.1
  have g0 : ∀ k, gr y q k = gr x q k := fun k => h1 q k (by omega) (by omega)
  have g3 : ∀ k, gr y (q + 3) k = gr x (q + 3) k := fun k => h1 (q + 3) k (by omega) (by omega)
  have g4 : ∀ k, gr y (q + 4) k = gr x (q + 4) k := fun k => h1 (q + 4) k (by omega) (by omega)
  have hr := e2
  obtain ⟨r1, r2, r3, r4, r5, r6, r7, r8, r9⟩ := e2
  refine ⟨e1, ?_, ⟨?_, ?_, ?_, ?_, ?_, ?_, ?_, ?_⟩, e4.cg hT⟩
  · unfold SRf at hr ⊢
    simp only [g0, g3, g4]
    exact hr
  · rw [h2 q 0 (by omega) (by omega) (by omega), hT 0 (by decide)]; exact v0
  · rw [h2 q 1 (by omega) (by omega) (by omega), hT 4 (by decide)]; exact v1
  · rw [h2 q 2 (by omega) (by omega) (by omega), hT 5 (by decide)]; exact v2
  · rw [h2 q 3 (by omega) (by omega) (by omega), hT 2 (by decide)]; exact v3
  · rw [h2 q 4 (by omega) (by omega) (by omega), hT 3 (by decide)]; exact v4
  · intro hh h24
    rw [h2 (q + 1) hh (by omega) (by omega) (by omega), h2 (q + 2) hh (by omega) (by omega) (by omega), hT _ (by omega), hT _ (by omega)]
    exact v5 hh h24
  · intro s p hs hp
    rw [g3] at hp
    obtain ⟨j, hj, ej⟩ := r6 s (by omega)
    have hpe : p = q + 6 + j := Option.some.inj (hp.symm.trans ej)
    exact (v6 s p hs hp).cg (fun k _ => h2 p k (by omega) (by omega) (by omega)) (fun k hk => hT _ (by omega))
  · intro s p hs hp
    rw [g4] at hp
    obtain ⟨j, hj, ej⟩ := r8 s (by omega)
    have hpe : p = q + 30 + j := Option.some.inj (hp.symm.trans ej)
    exact (v7 s p hs hp).cg (fun k _ => h2 p k (by omega) (by omega) (by omega)) (fun k hk => hT _ (by omega))
/-- what lies outside a season stays -/
def Frq (x y : Cn) (q : Nat) : Prop := y.2 = x.2 ∧ ∀ a k, ¬ (q ≤ a ∧ a < q + 54) → gi y a k = gi x a k
theorem Frq.rf (x : Cn) (q : Nat) : Frq x x q := ⟨rfl, fun _ _ _ => rfl⟩
theorem Frq.tr {x y z : Cn} {q : Nat} (h : Frq x y q) (g : Frq y z q) : Frq x z q := ⟨g.1.trans h.1, fun a k c => (g.2 a k c).trans (h.2 a k c)⟩
theorem Frq.ui {x y : Cn} {q a k : Nat} {v : Int32} (h : Frq x y q) (c : q ≤ a ∧ a < q + 54) : Frq x (ui y a k v) q := ⟨h.1, fun b j d => by rw [gi_ui, if_neg (fun z => d (by rw [z.1]; exact c))]; exact h.2 b j d⟩
theorem Frq.eqx {x y z : Cn} {q a : Nat} (h : Frq x y q) (g : EQx y z a) (c : q ≤ a ∧ a < q + 54) : Frq x z q := ⟨g.1.trans h.1, fun b j d => (g.2 b j (fun e => d (by rw [e]; exact c))).trans (h.2 b j d)⟩
theorem Frq.rr {x y : Cn} {q : Nat} (h : Frq x y q) (a k : Nat) : gr y a k = gr x a k := by show y.2 a k = x.2 a k; rw [h.1]
theorem Isea.dis {p q : Nat} (hp : Isea p) (hq : Isea q) (h : p ≠ q) : p + 54 ≤ q ∨ q + 54 ≤ p := by
  rcases hp with rfl | rfl | rfl | ⟨i, hi, rfl⟩ <;> rcases hq with rfl | rfl | rfl | ⟨j, hj, rfl⟩ <;> omega
theorem SEA.off {x y : Cn} {p q : Nat} {T : TT} {W C S A N : Nat} (E : SEA x p T W C S A N) (hq : Isea q) (h : p ≠ q) (f : Frq x y q) : SEA y p T W C S A N := by
  have d := Isea.dis E.1 hq h
  exact E.mv (fun a k _ _ => f.rr a k) (fun a k h1 h2 _ => f.2 a k (by omega)) (fun _ _ => rfl)
theorem lt12 {j : Nat} (h : j < 12) : j = 0 ∨ j = 1 ∨ j = 2 ∨ j = 3 ∨ j = 4 ∨ j = 5 ∨ j = 6 ∨ j = 7 ∨ j = 8 ∨ j = 9 ∨ j = 10 ∨ j = 11 := by omega
set_option maxHeartbeats 2000000 in
theorem v_X5_copyFrom_0 {K : Sh} {x : Cn} {Q : Cn → Prop} {b0 : Nat} {b1 : Nat}  (k_b1 : kk K b1 = some (5, 0)) (k_b0 : kk K b0 = some (5, 0)) (K0 : ∀ r_1 : Int32, r_1 = gi (ui (ui x b0 0 (gi x b1 0)) b0 1 (gi (ui x b0 0 (gi x b1 0)) b1 1)) b1 2 → (∀ r_3 : Int32, r_3 = gi (ui (ui (ui x b0 0 (gi x b1 0)) b0 1 (gi (ui x b0 0 (gi x b1 0)) b1 1)) b0 2 r_1) b1 3 → (∀ r_5 : Int32, r_5 = gi (ui (ui (ui (ui x b0 0 (gi x b1 0)) b0 1 (gi (ui x b0 0 (gi x b1 0)) b1 1)) b0 2 r_1) b0 3 r_3) b1 4 → ((r_5 = 0 ∨ r_5 = 1) ∧ (∀ r_8 : Int32, r_8 = gi (ui (ui (ui (ui (ui x b0 0 (gi x b1 0)) b0 1 (gi (ui x b0 0 (gi x b1 0)) b1 1)) b0 2 r_1) b0 3 r_3) b0 4 r_5) b1 5 → (∀ r_10 : Int32, r_10 = gi (ui (ui (ui (ui (ui (ui x b0 0 (gi x b1 0)) b0 1 (gi (ui x b0 0 (gi x b1 0)) b1 1)) b0 2 r_1) b0 3 r_3) b0 4 r_5) b0 5 r_8) b1 6 → (∀ r_12 : Int32, r_12 = gi (ui (ui (ui (ui (ui (ui (ui x b0 0 (gi x b1 0)) b0 1 (gi (ui x b0 0 (gi x b1 0)) b1 1)) b0 2 r_1) b0 3 r_3) b0 4 r_5) b0 5 r_8) b0 6 r_10) b1 7 → (∀ r_14 : Int32, r_14 = gi (ui (ui (ui (ui (ui (ui (ui (ui x b0 0 (gi x b1 0)) b0 1 (gi (ui x b0 0 (gi x b1 0)) b1 1)) b0 2 r_1) b0 3 r_3) b0 4 r_5) b0 5 r_8) b0 6 r_10) b0 7 r_12) b1 8 → (∀ r_16 : Int32, r_16 = gi (ui (ui (ui (ui (ui (ui (ui (ui (ui x b0 0 (gi x b1 0)) b0 1 (gi (ui x b0 0 (gi x b1 0)) b1 1)) b0 2 r_1) b0 3 r_3) b0 4 r_5) b0 5 r_8) b0 6 r_10) b0 7 r_12) b0 8 r_14) b1 9 → (∀ r_18 : Int32, r_18 = gi (ui (ui (ui (ui (ui (ui (ui (ui (ui (ui x b0 0 (gi x b1 0)) b0 1 (gi (ui x b0 0 (gi x b1 0)) b1 1)) b0 2 r_1) b0 3 r_3) b0 4 r_5) b0 5 r_8) b0 6 r_10) b0 7 r_12) b0 8 r_14) b0 9 r_16) b1 10 → (∀ r_20 : Int32, r_20 = gi (ui (ui (ui (ui (ui (ui (ui (ui (ui (ui (ui x b0 0 (gi x b1 0)) b0 1 (gi (ui x b0 0 (gi x b1 0)) b1 1)) b0 2 r_1) b0 3 r_3) b0 4 r_5) b0 5 r_8) b0 6 r_10) b0 7 r_12) b0 8 r_14) b0 9 r_16) b0 10 r_18) b1 11 → (Q (ui (ui (ui (ui (ui (ui (ui (ui (ui (ui (ui (ui x b0 0 (gi x b1 0)) b0 1 (gi (ui x b0 0 (gi x b1 0)) b1 1)) b0 2 r_1) b0 3 r_3) b0 4 r_5) b0 5 r_8) b0 6 r_10) b0 7 r_12) b0 8 r_14) b0 9 r_16) b0 10 r_18) b0 11 r_20))))))))))))) : mSV mX5_copyFrom [.ref b0, .ref b1] K x Q := by
  refine s_V (by decide) (by simp [Value.category]) (Nat.le_of_ble_eq_true rfl) ?_
  show mGM mX5_copyFrom 0 [some (.ref b0), some (.ref b1)] [] (hp K x) (PV K Q)
  refine r_aload_n (pc := 0) dX5_copyFrom_0 rfl ?_
  refine r_aload_n (pc := 1) dX5_copyFrom_1 rfl ?_
  refine s_getI (pc := 2) dX5_copyFrom_2 fl_X5_9 rfl k_b1 ?_
  refine s_putI (pc := 5) dX5_copyFrom_5 fl_X5_9 rfl rfl k_b0 ?_
  refine r_aload_n (pc := 8) dX5_copyFrom_8 rfl ?_
  refine r_aload_n (pc := 9) dX5_copyFrom_9 rfl ?_
  refine s_getI (pc := 10) dX5_copyFrom_10 fl_X5_15 rfl k_b1 ?_
  refine s_putI (pc := 13) dX5_copyFrom_13 fl_X5_15 rfl rfl k_b0 ?_
  refine r_aload_n (pc := 16) dX5_copyFrom_16 rfl ?_
  refine r_aload_n (pc := 17) dX5_copyFrom_17 rfl ?_
  refine s_getI (pc := 18) dX5_copyFrom_18 fl_X5_18 rfl k_b1 ?_
  obtain ⟨r_1, w_2⟩ : ∃ z : Int32, z = gi (ui (ui x b0 0 (gi x b1 0)) b0 1 (gi (ui x b0 0 (gi x b1 0)) b1 1)) b1 2 := ⟨_, rfl⟩
  rw [← w_2]
  have K0 := K0 r_1 w_2
  refine s_putI (pc := 21) dX5_copyFrom_21 fl_X5_18 rfl rfl k_b0 ?_
  refine r_aload_n (pc := 24) dX5_copyFrom_24 rfl ?_
  refine r_aload_n (pc := 25) dX5_copyFrom_25 rfl ?_
  refine s_getI (pc := 26) dX5_copyFrom_26 fl_X5_21 rfl k_b1 ?_
  obtain ⟨r_3, w_4⟩ : ∃ z : Int32, z = gi (ui (ui (ui x b0 0 (gi x b1 0)) b0 1 (gi (ui x b0 0 (gi x b1 0)) b1 1)) b0 2 r_1) b1 3 := ⟨_, rfl⟩
  rw [← w_4]
  have K0 := K0 r_3 w_4
  refine s_putI (pc := 29) dX5_copyFrom_29 fl_X5_21 rfl rfl k_b0 ?_
  refine r_aload_n (pc := 32) dX5_copyFrom_32 rfl ?_
  refine r_aload_n (pc := 33) dX5_copyFrom_33 rfl ?_
  refine s_getI (pc := 34) dX5_copyFrom_34 fl_X5_24 rfl k_b1 ?_
  obtain ⟨r_5, w_6⟩ : ∃ z : Int32, z = gi (ui (ui (ui (ui x b0 0 (gi x b1 0)) b0 1 (gi (ui x b0 0 (gi x b1 0)) b1 1)) b0 2 r_1) b0 3 r_3) b1 4 := ⟨_, rfl⟩
  rw [← w_6]
  have K0 := K0 r_5 w_6
  obtain ⟨p_7, K0⟩ := K0
  refine s_putZ (pc := 37) dX5_copyFrom_37 fl_X5_24 rfl rfl k_b0 p_7 ?_
  refine r_aload_n (pc := 40) dX5_copyFrom_40 rfl ?_
  refine r_aload_n (pc := 41) dX5_copyFrom_41 rfl ?_
  refine s_getI (pc := 42) dX5_copyFrom_42 fl_X5_28 rfl k_b1 ?_
  obtain ⟨r_8, w_9⟩ : ∃ z : Int32, z = gi (ui (ui (ui (ui (ui x b0 0 (gi x b1 0)) b0 1 (gi (ui x b0 0 (gi x b1 0)) b1 1)) b0 2 r_1) b0 3 r_3) b0 4 r_5) b1 5 := ⟨_, rfl⟩
  rw [← w_9]
  have K0 := K0 r_8 w_9
  refine s_putI (pc := 45) dX5_copyFrom_45 fl_X5_28 rfl rfl k_b0 ?_
  refine r_aload_n (pc := 48) dX5_copyFrom_48 rfl ?_
  refine r_aload_n (pc := 49) dX5_copyFrom_49 rfl ?_
  refine s_getI (pc := 50) dX5_copyFrom_50 fl_X5_31 rfl k_b1 ?_
  obtain ⟨r_10, w_11⟩ : ∃ z : Int32, z = gi (ui (ui (ui (ui (ui (ui x b0 0 (gi x b1 0)) b0 1 (gi (ui x b0 0 (gi x b1 0)) b1 1)) b0 2 r_1) b0 3 r_3) b0 4 r_5) b0 5 r_8) b1 6 := ⟨_, rfl⟩
  rw [← w_11]
  have K0 := K0 r_10 w_11
  refine s_putI (pc := 53) dX5_copyFrom_53 fl_X5_31 rfl rfl k_b0 ?_
  refine r_aload_n (pc := 56) dX5_copyFrom_56 rfl ?_
  refine r_aload_n (pc := 57) dX5_copyFrom_57 rfl ?_
  refine s_getI (pc := 58) dX5_copyFrom_58 fl_X5_34 rfl k_b1 ?_
  obtain ⟨r_12, w_13⟩ : ∃ z : Int32, z = gi (ui (ui (ui (ui (ui (ui (ui x b0 0 (gi x b1 0)) b0 1 (gi (ui x b0 0 (gi x b1 0)) b1 1)) b0 2 r_1) b0 3 r_3) b0 4 r_5) b0 5 r_8) b0 6 r_10) b1 7 := ⟨_, rfl⟩
  rw [← w_13]
  have K0 := K0 r_12 w_13
  refine s_putI (pc := 61) dX5_copyFrom_61 fl_X5_34 rfl rfl k_b0 ?_
  refine r_aload_n (pc := 64) dX5_copyFrom_64 rfl ?_
  refine r_aload_n (pc := 65) dX5_copyFrom_65 rfl ?_
  refine s_getI (pc := 66) dX5_copyFrom_66 fl_X5_37 rfl k_b1 ?_
  obtain ⟨r_14, w_15⟩ : ∃ z : Int32, z = gi (ui (ui (ui (ui (ui (ui (ui (ui x b0 0 (gi x b1 0)) b0 1 (gi (ui x b0 0 (gi x b1 0)) b1 1)) b0 2 r_1) b0 3 r_3) b0 4 r_5) b0 5 r_8) b0 6 r_10) b0 7 r_12) b1 8 := ⟨_, rfl⟩
  rw [← w_15]
  have K0 := K0 r_14 w_15
  refine s_putI (pc := 69) dX5_copyFrom_69 fl_X5_37 rfl rfl k_b0 ?_
  refine r_aload_n (pc := 72) dX5_copyFrom_72 rfl ?_
  refine r_aload_n (pc := 73) dX5_copyFrom_73 rfl ?_
  refine s_getI (pc := 74) dX5_copyFrom_74 fl_X5_40 rfl k_b1 ?_
  obtain ⟨r_16, w_17⟩ : ∃ z : Int32, z = gi (ui (ui (ui (ui (ui (ui (ui (ui (ui x b0 0 (gi x b1 0)) b0 1 (gi (ui x b0 0 (gi x b1 0)) b1 1)) b0 2 r_1) b0 3 r_3) b0 4 r_5) b0 5 r_8) b0 6 r_10) b0 7 r_12) b0 8 r_14) b1 9 := ⟨_, rfl⟩
  rw [← w_17]
  have K0 := K0 r_16 w_17
  refine s_putI (pc := 77) dX5_copyFrom_77 fl_X5_40 rfl rfl k_b0 ?_
  refine r_aload_n (pc := 80) dX5_copyFrom_80 rfl ?_
  refine r_aload_n (pc := 81) dX5_copyFrom_81 rfl ?_
  refine s_getI (pc := 82) dX5_copyFrom_82 fl_X5_43 rfl k_b1 ?_
  obtain ⟨r_18, w_19⟩ : ∃ z : Int32, z = gi (ui (ui (ui (ui (ui (ui (ui (ui (ui (ui x b0 0 (gi x b1 0)) b0 1 (gi (ui x b0 0 (gi x b1 0)) b1 1)) b0 2 r_1) b0 3 r_3) b0 4 r_5) b0 5 r_8) b0 6 r_10) b0 7 r_12) b0 8 r_14) b0 9 r_16) b1 10 := ⟨_, rfl⟩
  rw [← w_19]
  have K0 := K0 r_18 w_19
  refine s_putI (pc := 85) dX5_copyFrom_85 fl_X5_43 rfl rfl k_b0 ?_
  refine r_aload_n (pc := 88) dX5_copyFrom_88 rfl ?_
  refine r_aload_n (pc := 89) dX5_copyFrom_89 rfl ?_
  refine s_getI (pc := 90) dX5_copyFrom_90 fl_X5_46 rfl k_b1 ?_
  obtain ⟨r_20, w_21⟩ : ∃ z : Int32, z = gi (ui (ui (ui (ui (ui (ui (ui (ui (ui (ui (ui x b0 0 (gi x b1 0)) b0 1 (gi (ui x b0 0 (gi x b1 0)) b1 1)) b0 2 r_1) b0 3 r_3) b0 4 r_5) b0 5 r_8) b0 6 r_10) b0 7 r_12) b0 8 r_14) b0 9 r_16) b0 10 r_18) b1 11 := ⟨_, rfl⟩
  rw [← w_21]
  have K0 := K0 r_20 w_21
  refine s_putI (pc := 93) dX5_copyFrom_93 fl_X5_46 rfl rfl k_b0 ?_
  exact s_ret rfl dX5_copyFrom_96 K0
section
theorem sp_X5_copyFrom {x : Cn} {Q : Cn → Prop} {a b : Nat} (ha : kk KW a = some (5, 0)) (hb : kk KW b = some (5, 0)) (hne : b ≠ a) (h4 : gi x b 4 = 0 ∨ gi x b 4 = 1) (k : ∀ y, EQx x y a → (∀ j, j < 12 → gi y a j = gi x b j) → Q y) : mSV mX5_copyFrom [.ref a, .ref b] KW x Q := by
  refine v_X5_copyFrom_0 hb ha ?_
  intro r1 e1 r2 e2 r3 e3
  simp only [gi_ui, hne, false_and, if_false] at e1 e2 e3
  refine ⟨by rw [e3]; exact h4, ?_⟩
  intro r4 e4 r5 e5 r6 e6 r7 e7 r8 e8 r9 e9 r10 e10
  simp only [gi_ui, hne, false_and, if_false] at e4 e5 e6 e7 e8 e9 e10
  refine k _ ⟨rfl, fun c j hc => ?_⟩ (fun j hj => ?_)
  · simp only [gi_ui, hc, false_and, if_false]
  · rcases lt12 hj with rfl | rfl | rfl | rfl | rfl | rfl | rfl | rfl | rfl | rfl | rfl | rfl <;> simp [gi_ui, hne, e1, e2, e3, e4, e5, e6, e7, e8, e9, e10]
theorem lt7 {j : Nat} (h : j < 7) : j = 0 ∨ j = 1 ∨ j = 2 ∨ j = 3 ∨ j = 4 ∨ j = 5 ∨ j = 6 := by omega
end
set_option maxHeartbeats 2000000 in
theorem v_X0_placeAt_0 {K : Sh} {x : Cn} {Q : Cn → Prop} {b0 : Nat} {l1 : Int32} {l2 : Int32} {l3 : Int32} {l4 : Int32}  (k_b0 : kk K b0 = some (0, 0)) (K0 : Q (ui (ui (ui (ui x b0 0 l1) b0 1 l2) b0 2 l3) b0 3 l4)) : mSV mX0_placeAt [.ref b0, .int l1, .int l2, .int l3, .int l4] K x Q := by
  refine s_V (by decide) (by simp [Value.category]) (Nat.le_of_ble_eq_true rfl) ?_
  show mGM mX0_placeAt 0 [some (.ref b0), some (.int l1), some (.int l2), some (.int l3), some (.int l4)] [] (hp K x) (PV K Q)
  refine r_aload_n (pc := 0) dX0_placeAt_0 rfl ?_
  refine r_iload_n (pc := 1) dX0_placeAt_1 rfl ?_
  refine s_putI (pc := 2) dX0_placeAt_2 fl_X0_7 rfl rfl k_b0 ?_
  refine r_aload_n (pc := 5) dX0_placeAt_5 rfl ?_
  refine r_iload_n (pc := 6) dX0_placeAt_6 rfl ?_
  refine s_putI (pc := 7) dX0_placeAt_7 fl_X0_13 rfl rfl k_b0 ?_
  refine r_aload_n (pc := 10) dX0_placeAt_10 rfl ?_
  refine r_iload_n (pc := 11) dX0_placeAt_11 rfl ?_
  refine s_putI (pc := 12) dX0_placeAt_12 fl_X0_16 rfl rfl k_b0 ?_
  refine r_aload_n (pc := 15) dX0_placeAt_15 rfl ?_
  refine r_iload (pc := 16) dX0_placeAt_16 rfl ?_
  refine s_putI (pc := 18) dX0_placeAt_18 fl_X0_19 rfl rfl k_b0 ?_
  exact s_ret rfl dX0_placeAt_21 K0
set_option maxHeartbeats 2000000 in
theorem v_X0_span_0 {K : Sh} {x : Cn} {Q : Cn → Prop} {b0 : Nat} {l1 : Int32} {l2 : Int32} {l3 : Int32}  (k_b0 : kk K b0 = some (0, 0)) (K0 : Q (ui (ui (ui x b0 4 l1) b0 5 l2) b0 6 l3)) : mSV mX0_span [.ref b0, .int l1, .int l2, .int l3] K x Q := by
  refine s_V (by decide) (by simp [Value.category]) (Nat.le_of_ble_eq_true rfl) ?_
  show mGM mX0_span 0 [some (.ref b0), some (.int l1), some (.int l2), some (.int l3)] [] (hp K x) (PV K Q)
  refine r_aload_n (pc := 0) dX0_span_0 rfl ?_
  refine r_iload_n (pc := 1) dX0_span_1 rfl ?_
  refine s_putI (pc := 2) dX0_span_2 fl_X0_22 rfl rfl k_b0 ?_
  refine r_aload_n (pc := 5) dX0_span_5 rfl ?_
  refine r_iload_n (pc := 6) dX0_span_6 rfl ?_
  refine s_putI (pc := 7) dX0_span_7 fl_X0_25 rfl rfl k_b0 ?_
  refine r_aload_n (pc := 10) dX0_span_10 rfl ?_
  refine r_iload_n (pc := 11) dX0_span_11 rfl ?_
  refine s_putI (pc := 12) dX0_span_12 fl_X0_28 rfl rfl k_b0 ?_
  exact s_ret rfl dX0_span_15 K0
set_option maxHeartbeats 2000000 in
theorem v_X0_copyFrom_0 {K : Sh} {x : Cn} {Q : Cn → Prop} {b0 : Nat} {b1 : Nat}  (k_b1 : kk K b1 = some (0, 0)) (k_b0 : kk K b0 = some (0, 0)) (K0 : mSV mX0_placeAt [.ref b0, .int (gi x b1 0), .int (gi x b1 1), .int (gi x b1 2), .int (gi x b1 3)] K x (fun y_1 => mSV mX0_span [.ref b0, .int (gi y_1 b1 4), .int (gi y_1 b1 5), .int (gi y_1 b1 6)] K y_1 (fun y_2 => Q y_2))) : mSV mX0_copyFrom [.ref b0, .ref b1] K x Q := by
  refine s_V (by decide) (by simp [Value.category]) (Nat.le_of_ble_eq_true rfl) ?_
  show mGM mX0_copyFrom 0 [some (.ref b0), some (.ref b1)] [] (hp K x) (PV K Q)
  refine r_aload_n (pc := 0) dX0_copyFrom_0 rfl ?_
  refine r_aload_n (pc := 1) dX0_copyFrom_1 rfl ?_
  refine s_getI (pc := 2) dX0_copyFrom_2 fl_X0_7 rfl k_b1 ?_
  refine r_aload_n (pc := 5) dX0_copyFrom_5 rfl ?_
  refine s_getI (pc := 6) dX0_copyFrom_6 fl_X0_13 rfl k_b1 ?_
  refine r_aload_n (pc := 9) dX0_copyFrom_9 rfl ?_
  refine s_getI (pc := 10) dX0_copyFrom_10 fl_X0_16 rfl k_b1 ?_
  refine r_aload_n (pc := 13) dX0_copyFrom_13 rfl ?_
  refine s_getI (pc := 14) dX0_copyFrom_14 fl_X0_19 rfl k_b1 ?_
  refine s_VV (pc := 17) mX0_placeAt (ci := 0) (a := b0) (As := [.int (gi x b1 0), .int (gi x b1 1), .int (gi x b1 2), .int (gi x b1 3)]) dX0_copyFrom_17 lk_X0_31 in_X0_placeAt mo_X0_placeAt ⟨by decide, rfl⟩ ⟨by decide, by decide⟩ (Nat.le_of_ble_eq_true rfl) k_b0 (mSV_mono K0 (fun y_1 K0 => ?_))
  refine r_aload_n (pc := 20) dX0_copyFrom_20 rfl ?_
  refine r_aload_n (pc := 21) dX0_copyFrom_21 rfl ?_
  refine s_getI (pc := 22) dX0_copyFrom_22 fl_X0_22 rfl k_b1 ?_
  refine r_aload_n (pc := 25) dX0_copyFrom_25 rfl ?_
  refine s_getI (pc := 26) dX0_copyFrom_26 fl_X0_25 rfl k_b1 ?_
  refine r_aload_n (pc := 29) dX0_copyFrom_29 rfl ?_
  refine s_getI (pc := 30) dX0_copyFrom_30 fl_X0_28 rfl k_b1 ?_
  refine s_VV (pc := 33) mX0_span (ci := 0) (a := b0) (As := [.int (gi y_1 b1 4), .int (gi y_1 b1 5), .int (gi y_1 b1 6)]) dX0_copyFrom_33 lk_X0_35 in_X0_span mo_X0_span ⟨by decide, rfl⟩ ⟨by decide, by decide⟩ (Nat.le_of_ble_eq_true rfl) k_b0 (mSV_mono K0 (fun y_2 K0 => ?_))
  exact s_ret rfl dX0_copyFrom_36 K0
section
theorem sp_X0_copyFrom {x : Cn} {Q : Cn → Prop} {a b : Nat} (ha : kk KW a = some (0, 0)) (hb : kk KW b = some (0, 0)) (hne : b ≠ a) (k : ∀ y, EQx x y a → (∀ j, j < 7 → gi y a j = gi x b j) → Q y) : mSV mX0_copyFrom [.ref a, .ref b] KW x Q := by
  refine v_X0_copyFrom_0 hb ha (v_X0_placeAt_0 ha (v_X0_span_0 ha (k _ ⟨rfl, fun c j hc => ?_⟩ (fun j hj => ?_))))
  · simp only [gi_ui, hc, false_and, if_false]
  · rcases lt7 hj with rfl | rfl | rfl | rfl | rfl | rfl | rfl <;> simp [gi_ui, hne]
def Hd (x : Cn) (q : Nat) (T : TT) : Prop := gi x q 0 = T 0 ∧ gi x q 1 = T 4 ∧ gi x q 2 = T 5 ∧ gi x q 3 = T 2 ∧ gi x q 4 = T 3
def Lim (x : Cn) (q : Nat) (T : TT) (n : Nat) : Prop := ∀ h, h < n → gi x (q + 1) h = T (6 + 2 * h) ∧ gi x (q + 2) h = T (7 + 2 * h)
def Sln (x : Cn) (q : Nat) (T : TT) (n : Nat) : Prop := ∀ s p, s < n → gr x (q + 3) s = some p → SER x p T s
def Aln (x : Cn) (q : Nat) (T : TT) (n : Nat) : Prop := ∀ s p, s < n → gr x (q + 4) s = some p → ASR x p T s
end
set_option maxHeartbeats 2000000 in
theorem v_X4_copyFrom_0 {K : Sh} {x : Cn} {Q : Cn → Prop} {b0 : Nat} {b1 : Nat}  (k_b1 : kk K b1 = some (4, 0)) (k_b0 : kk K b0 = some (4, 0)) (K0 : ∀ r_1 : Int32, r_1 = gi (ui (ui x b0 0 (gi x b1 0)) b0 1 (gi (ui x b0 0 (gi x b1 0)) b1 1)) b1 2 → (∀ r_3 : Int32, r_3 = gi (ui (ui (ui x b0 0 (gi x b1 0)) b0 1 (gi (ui x b0 0 (gi x b1 0)) b1 1)) b0 2 r_1) b1 3 → (∀ r_5 : Int32, r_5 = gi (ui (ui (ui (ui x b0 0 (gi x b1 0)) b0 1 (gi (ui x b0 0 (gi x b1 0)) b1 1)) b0 2 r_1) b0 3 r_3) b1 4 → (GV mX4_copyFrom 42 [some (.ref b0), some (.ref b1), some (.int 0)] [] K (ui (ui (ui (ui (ui x b0 0 (gi x b1 0)) b0 1 (gi (ui x b0 0 (gi x b1 0)) b1 1)) b0 2 r_1) b0 3 r_3) b0 4 r_5) Q)))) : mSV mX4_copyFrom [.ref b0, .ref b1] K x Q := by
  refine s_V (by decide) (by simp [Value.category]) (Nat.le_of_ble_eq_true rfl) ?_
  show mGM mX4_copyFrom 0 [some (.ref b0), some (.ref b1), none] [] (hp K x) (PV K Q)
  refine r_aload_n (pc := 0) dX4_copyFrom_0 rfl ?_
  refine r_aload_n (pc := 1) dX4_copyFrom_1 rfl ?_
  refine s_getI (pc := 2) dX4_copyFrom_2 fl_X4_9 rfl k_b1 ?_
  refine s_putI (pc := 5) dX4_copyFrom_5 fl_X4_9 rfl rfl k_b0 ?_
  refine r_aload_n (pc := 8) dX4_copyFrom_8 rfl ?_
  refine r_aload_n (pc := 9) dX4_copyFrom_9 rfl ?_
  refine s_getI (pc := 10) dX4_copyFrom_10 fl_X4_15 rfl k_b1 ?_
  refine s_putI (pc := 13) dX4_copyFrom_13 fl_X4_15 rfl rfl k_b0 ?_
  refine r_aload_n (pc := 16) dX4_copyFrom_16 rfl ?_
  refine r_aload_n (pc := 17) dX4_copyFrom_17 rfl ?_
  refine s_getI (pc := 18) dX4_copyFrom_18 fl_X4_18 rfl k_b1 ?_
  obtain ⟨r_1, w_2⟩ : ∃ z : Int32, z = gi (ui (ui x b0 0 (gi x b1 0)) b0 1 (gi (ui x b0 0 (gi x b1 0)) b1 1)) b1 2 := ⟨_, rfl⟩
  rw [← w_2]
  have K0 := K0 r_1 w_2
  refine s_putI (pc := 21) dX4_copyFrom_21 fl_X4_18 rfl rfl k_b0 ?_
  refine r_aload_n (pc := 24) dX4_copyFrom_24 rfl ?_
  refine r_aload_n (pc := 25) dX4_copyFrom_25 rfl ?_
  refine s_getI (pc := 26) dX4_copyFrom_26 fl_X4_21 rfl k_b1 ?_
  obtain ⟨r_3, w_4⟩ : ∃ z : Int32, z = gi (ui (ui (ui x b0 0 (gi x b1 0)) b0 1 (gi (ui x b0 0 (gi x b1 0)) b1 1)) b0 2 r_1) b1 3 := ⟨_, rfl⟩
  rw [← w_4]
  have K0 := K0 r_3 w_4
  refine s_putI (pc := 29) dX4_copyFrom_29 fl_X4_21 rfl rfl k_b0 ?_
  refine r_aload_n (pc := 32) dX4_copyFrom_32 rfl ?_
  refine r_aload_n (pc := 33) dX4_copyFrom_33 rfl ?_
  refine s_getI (pc := 34) dX4_copyFrom_34 fl_X4_24 rfl k_b1 ?_
  obtain ⟨r_5, w_6⟩ : ∃ z : Int32, z = gi (ui (ui (ui (ui x b0 0 (gi x b1 0)) b0 1 (gi (ui x b0 0 (gi x b1 0)) b1 1)) b0 2 r_1) b0 3 r_3) b1 4 := ⟨_, rfl⟩
  rw [← w_6]
  have K0 := K0 r_5 w_6
  refine s_putI (pc := 37) dX4_copyFrom_37 fl_X4_24 rfl rfl k_b0 ?_
  refine r_iconst (pc := 40) (v := 0) dX4_copyFrom_40 (by decide) ?_
  refine r_istore_n (pc := 41) dX4_copyFrom_41 (by decide) ?_
  exact r_le (L' := [some (.ref b0), some (.ref b1), some (.int 0)]) ⟨rfl, ⟨rfl, ⟨rfl, trivial⟩⟩⟩ K0
set_option maxHeartbeats 2000000 in
theorem v_X4_copyFrom_42 {K : Sh} {x : Cn} {Q : Cn → Prop} {b0 : Nat} {b1 : Nat} {l2 : Int32} {b0_5 : Nat} {b1_5 : Nat} {n_b1_5 : Nat} {n_b0_5 : Nat} {b0_6 : Nat} {b1_6 : Nat} {n_b1_6 : Nat} {n_b0_6 : Nat} (k_b0 : kk K b0 = some (4, 0)) (g_b0_5 : gr x b0 5 = some b0_5) (k_b1 : kk K b1 = some (4, 0)) (g_b1_5 : gr x b1 5 = some b1_5) (k_b1_5 : kk K b1_5 = some (20, n_b1_5)) (k_b0_5 : kk K b0_5 = some (20, n_b0_5)) (g_b0_6 : gr x b0 6 = some b0_6) (g_b1_6 : gr x b1 6 = some b1_6) (k_b1_6 : kk K b1_6 = some (20, n_b1_6)) (k_b0_6 : kk K b0_6 = some (20, n_b0_6)) (K0 : (24 ≤ l2 → (GV mX4_copyFrom 80 [some (.ref b0), some (.ref b1), some (.int 0)] [] K x Q)) ∧ (¬ 24 ≤ l2 → (vp_in l2 n_b1_5 ∧ (vp_in l2 n_b0_5 ∧ (vp_in l2 n_b1_6 ∧ (vp_in l2 n_b0_6 ∧ (GV mX4_copyFrom 42 [some (.ref b0), some (.ref b1), some (.int (l2 + 1))] [] K (ui (ui x b0_5 (l2 : Int32).toNatClampNeg (gi x b1_5 (l2 : Int32).toNatClampNeg)) b0_6 (l2 : Int32).toNatClampNeg (gi (ui x b0_5 (l2 : Int32).toNatClampNeg (gi x b1_5 (l2 : Int32).toNatClampNeg)) b1_6 (l2 : Int32).toNatClampNeg)) Q))))))) : GV mX4_copyFrom 42 [some (.ref b0), some (.ref b1), some (.int l2)] [] K x Q := by
  show mGM mX4_copyFrom 42 [some (.ref b0), some (.ref b1), some (.int l2)] [] (hp K x) (PV K Q)
  refine r_iload_n (pc := 42) dX4_copyFrom_42 rfl ?_
  refine r_bipush (pc := 43) (v := 24) dX4_copyFrom_43 (by decide) ?_
  refine r_icmp_ge (pc := 45) (tgt := 78) dX4_copyFrom_45 (by decide) (fun q => ?_) (fun q => ?_)
  · have K0 := K0.1 q
    refine r_iconst (pc := 78) (v := 0) dX4_copyFrom_78 (by decide) ?_
    refine r_istore_n (pc := 79) dX4_copyFrom_79 (by decide) ?_
    exact r_le (L' := [some (.ref b0), some (.ref b1), some (.int 0)]) ⟨rfl, ⟨rfl, ⟨rfl, trivial⟩⟩⟩ K0
  · have K0 := K0.2 q
    refine r_aload_n (pc := 48) dX4_copyFrom_48 rfl ?_
    refine s_getR (pc := 49) dX4_copyFrom_49 fl_X4_27 rfl k_b0 g_b0_5 ?_
    refine r_iload_n (pc := 52) dX4_copyFrom_52 rfl ?_
    refine r_aload_n (pc := 53) dX4_copyFrom_53 rfl ?_
    refine s_getR (pc := 54) dX4_copyFrom_54 fl_X4_27 rfl k_b1 g_b1_5 ?_
    refine r_iload_n (pc := 57) dX4_copyFrom_57 rfl ?_
    obtain ⟨i_2, K0⟩ := K0
    refine s_iald (pc := 58) dX4_copyFrom_58 k_b1_5 i_2 ?_
    obtain ⟨i_3, K0⟩ := K0
    refine s_iast (pc := 59) dX4_copyFrom_59 k_b0_5 i_3 ?_
    refine r_aload_n (pc := 60) dX4_copyFrom_60 rfl ?_
    refine s_getR (pc := 61) dX4_copyFrom_61 fl_X4_31 rfl k_b0 g_b0_6 ?_
    refine r_iload_n (pc := 64) dX4_copyFrom_64 rfl ?_
    refine r_aload_n (pc := 65) dX4_copyFrom_65 rfl ?_
    refine s_getR (pc := 66) dX4_copyFrom_66 fl_X4_31 rfl k_b1 g_b1_6 ?_
    refine r_iload_n (pc := 69) dX4_copyFrom_69 rfl ?_
    obtain ⟨i_4, K0⟩ := K0
    refine s_iald (pc := 70) dX4_copyFrom_70 k_b1_6 i_4 ?_
    obtain ⟨i_5, K0⟩ := K0
    refine s_iast (pc := 71) dX4_copyFrom_71 k_b0_6 i_5 ?_
    refine r_iinc (pc := 72) (v := l2 + 1) dX4_copyFrom_72 rfl rfl (by decide) ?_
    refine r_goto (pc := 75) (L := [some (.ref b0), some (.ref b1), some (.int (l2 + 1))]) (tgt := 42) dX4_copyFrom_75 (by decide) ?_
    exact r_le (L' := [some (.ref b0), some (.ref b1), some (.int (l2 + 1))]) ⟨rfl, ⟨rfl, ⟨rfl, trivial⟩⟩⟩ K0
set_option maxHeartbeats 2000000 in
theorem v_X4_copyFrom_80 {K : Sh} {x : Cn} {Q : Cn → Prop} {b0 : Nat} {b1 : Nat} {l2 : Int32} {b0_7 : Nat} {n_b0_7 : Nat} {b1_7 : Nat} {n_b1_7 : Nat} (k_b0 : kk K b0 = some (4, 0)) (g_b0_7 : gr x b0 7 = some b0_7) (k_b0_7 : kk K b0_7 = some (23, n_b0_7)) (k_b1 : kk K b1 = some (4, 0)) (g_b1_7 : gr x b1 7 = some b1_7) (k_b1_7 : kk K b1_7 = some (23, n_b1_7)) (K0 : ((gi x b0 3) ≤ l2 → (GV mX4_copyFrom 111 [some (.ref b0), some (.ref b1), some (.int 0)] [] K x Q)) ∧ (¬ (gi x b0 3) ≤ l2 → (vp_in l2 n_b0_7 ∧ (∃ c_3 : Nat, gr x b0_7 ((l2 : Int32).toNatClampNeg) = some c_3 ∧ (vp_in l2 n_b1_7 ∧ (∃ c_6 : Nat, gr x b1_7 ((l2 : Int32).toNatClampNeg) = some c_6 ∧ (kk K c_3 = some (5, 0) ∧ (mSV mX5_copyFrom [.ref c_3, .ref c_6] K x (fun y_9 => GV mX4_copyFrom 80 [some (.ref b0), some (.ref b1), some (.int (l2 + 1))] [] K y_9 Q))))))))) : GV mX4_copyFrom 80 [some (.ref b0), some (.ref b1), some (.int l2)] [] K x Q := by
  show mGM mX4_copyFrom 80 [some (.ref b0), some (.ref b1), some (.int l2)] [] (hp K x) (PV K Q)
  refine r_iload_n (pc := 80) dX4_copyFrom_80 rfl ?_
  refine r_aload_n (pc := 81) dX4_copyFrom_81 rfl ?_
  refine s_getI (pc := 82) dX4_copyFrom_82 fl_X4_21 rfl k_b0 ?_
  refine r_icmp_ge (pc := 85) (tgt := 109) dX4_copyFrom_85 (by decide) (fun q => ?_) (fun q => ?_)
  · have K0 := K0.1 q
    refine r_iconst (pc := 109) (v := 0) dX4_copyFrom_109 (by decide) ?_
    refine r_istore_n (pc := 110) dX4_copyFrom_110 (by decide) ?_
    exact r_le (L' := [some (.ref b0), some (.ref b1), some (.int 0)]) ⟨rfl, ⟨rfl, ⟨rfl, trivial⟩⟩⟩ K0
  · have K0 := K0.2 q
    refine r_aload_n (pc := 88) dX4_copyFrom_88 rfl ?_
    refine s_getR (pc := 89) dX4_copyFrom_89 fl_X4_36 rfl k_b0 g_b0_7 ?_
    refine r_iload_n (pc := 92) dX4_copyFrom_92 rfl ?_
    obtain ⟨i_2, K0⟩ := K0
    obtain ⟨c_3, g_4, K0⟩ := K0
    refine s_aald (pc := 93) dX4_copyFrom_93 (by decide) rfl k_b0_7 i_2 g_4 ?_
    refine r_aload_n (pc := 94) dX4_copyFrom_94 rfl ?_
    refine s_getR (pc := 95) dX4_copyFrom_95 fl_X4_36 rfl k_b1 g_b1_7 ?_
    refine r_iload_n (pc := 98) dX4_copyFrom_98 rfl ?_
    obtain ⟨i_5, K0⟩ := K0
    obtain ⟨c_6, g_7, K0⟩ := K0
    refine s_aald (pc := 99) dX4_copyFrom_99 (by decide) rfl k_b1_7 i_5 g_7 ?_
    obtain ⟨e_8, K0⟩ := K0
    refine s_VV (pc := 100) mX5_copyFrom (ci := 5) (a := c_3) (As := [.ref c_6]) dX4_copyFrom_100 lk_X4_51 in_X5_copyFrom mo_X5_copyFrom ⟨by decide, rfl⟩ ⟨by decide, by decide⟩ (Nat.le_of_ble_eq_true rfl) e_8 (mSV_mono K0 (fun y_9 K0 => ?_))
    refine r_iinc (pc := 103) (v := l2 + 1) dX4_copyFrom_103 rfl rfl (by decide) ?_
    refine r_goto (pc := 106) (L := [some (.ref b0), some (.ref b1), some (.int (l2 + 1))]) (tgt := 80) dX4_copyFrom_106 (by decide) ?_
    exact r_le (L' := [some (.ref b0), some (.ref b1), some (.int (l2 + 1))]) ⟨rfl, ⟨rfl, ⟨rfl, trivial⟩⟩⟩ K0
set_option maxHeartbeats 2000000 in
theorem v_X4_copyFrom_111 {K : Sh} {x : Cn} {Q : Cn → Prop} {b0 : Nat} {b1 : Nat} {l2 : Int32} {b0_8 : Nat} {n_b0_8 : Nat} {b1_8 : Nat} {n_b1_8 : Nat} (k_b0 : kk K b0 = some (4, 0)) (g_b0_8 : gr x b0 8 = some b0_8) (k_b0_8 : kk K b0_8 = some (24, n_b0_8)) (k_b1 : kk K b1 = some (4, 0)) (g_b1_8 : gr x b1 8 = some b1_8) (k_b1_8 : kk K b1_8 = some (24, n_b1_8)) (K0 : ((gi x b0 4) ≤ l2 → (Q x)) ∧ (¬ (gi x b0 4) ≤ l2 → (vp_in l2 n_b0_8 ∧ (∃ c_3 : Nat, gr x b0_8 ((l2 : Int32).toNatClampNeg) = some c_3 ∧ (vp_in l2 n_b1_8 ∧ (∃ c_6 : Nat, gr x b1_8 ((l2 : Int32).toNatClampNeg) = some c_6 ∧ (kk K c_3 = some (0, 0) ∧ (mSV mX0_copyFrom [.ref c_3, .ref c_6] K x (fun y_9 => GV mX4_copyFrom 111 [some (.ref b0), some (.ref b1), some (.int (l2 + 1))] [] K y_9 Q))))))))) : GV mX4_copyFrom 111 [some (.ref b0), some (.ref b1), some (.int l2)] [] K x Q := by
  show mGM mX4_copyFrom 111 [some (.ref b0), some (.ref b1), some (.int l2)] [] (hp K x) (PV K Q)
  refine r_iload_n (pc := 111) dX4_copyFrom_111 rfl ?_
  refine r_aload_n (pc := 112) dX4_copyFrom_112 rfl ?_
  refine s_getI (pc := 113) dX4_copyFrom_113 fl_X4_24 rfl k_b0 ?_
  refine r_icmp_ge (pc := 116) (tgt := 140) dX4_copyFrom_116 (by decide) (fun q => ?_) (fun q => ?_)
  · have K0 := K0.1 q
    exact s_ret rfl dX4_copyFrom_140 K0
  · have K0 := K0.2 q
    refine r_aload_n (pc := 119) dX4_copyFrom_119 rfl ?_
    refine s_getR (pc := 120) dX4_copyFrom_120 fl_X4_42 rfl k_b0 g_b0_8 ?_
    refine r_iload_n (pc := 123) dX4_copyFrom_123 rfl ?_
    obtain ⟨i_2, K0⟩ := K0
    obtain ⟨c_3, g_4, K0⟩ := K0
    refine s_aald (pc := 124) dX4_copyFrom_124 (by decide) rfl k_b0_8 i_2 g_4 ?_
    refine r_aload_n (pc := 125) dX4_copyFrom_125 rfl ?_
    refine s_getR (pc := 126) dX4_copyFrom_126 fl_X4_42 rfl k_b1 g_b1_8 ?_
    refine r_iload_n (pc := 129) dX4_copyFrom_129 rfl ?_
    obtain ⟨i_5, K0⟩ := K0
    obtain ⟨c_6, g_7, K0⟩ := K0
    refine s_aald (pc := 130) dX4_copyFrom_130 (by decide) rfl k_b1_8 i_5 g_7 ?_
    obtain ⟨e_8, K0⟩ := K0
    refine s_VV (pc := 131) mX0_copyFrom (ci := 0) (a := c_3) (As := [.ref c_6]) dX4_copyFrom_131 lk_X4_55 in_X0_copyFrom mo_X0_copyFrom ⟨by decide, rfl⟩ ⟨by decide, by decide⟩ (Nat.le_of_ble_eq_true rfl) e_8 (mSV_mono K0 (fun y_9 K0 => ?_))
    refine r_iinc (pc := 134) (v := l2 + 1) dX4_copyFrom_134 rfl rfl (by decide) ?_
    refine r_goto (pc := 137) (L := [some (.ref b0), some (.ref b1), some (.int (l2 + 1))]) (tgt := 111) dX4_copyFrom_137 (by decide) ?_
    exact r_le (L' := [some (.ref b0), some (.ref b1), some (.int (l2 + 1))]) ⟨rfl, ⟨rfl, ⟨rfl, trivial⟩⟩⟩ K0
section
theorem sp_X4_copyFrom {x : Cn} {Q : Cn → Prop} {q p : Nat} {T : TT} {W C S A N : Nat} (hq : Isea q) (r : SRf x q) (E : SEA x p T W C S A N) (hne : p ≠ q) (k : ∀ y, Frq x y q → SEA y q T W C S A N → Q y) : mSV mX4_copyFrom [.ref q, .ref p] KW x Q := by
  have ds := Isea.dis E.1 hq hne
  obtain ⟨v0, v1, v2, v3, v4, v5, v6, v7⟩ := E.2.2.1
  have wf := E.2.2.2
  have hS : S ≤ 24 := wf.2.2.2.2.2.2.1
  have hA : A ≤ 24 := wf.2.2.2.2.2.2.2.2.1
  have hn := E.nums
  obtain ⟨r1, r2, r3, r4, r5, r6, r7, r8, r9⟩ := id r
  have l3 : ∀ n a y, a + n = A → Frq x y q → Hd y q T → Lim y q T 24 → Sln y q T S → Aln y q T a → GV mX4_copyFrom 111 [some (.ref q), some (.ref p), some (.int (nI a))] [] KW y Q := by
    intro n
    induction n with
    | zero =>
      intro a y ha f d l sl al
      have : a = A := by omega
      subst this
      refine v_X4_copyFrom_111 (ks0 hq) (by rw [f.rr]; exact r4) (ks4 hq) (ks0 E.1) (by rw [f.rr]; exact E.2.1.2.2.2.1) (ks4 E.1) ⟨fun _ => ?_, fun z => absurd (by rw [d.2.2.2.2, wf.2.2.2.2.2.2.2.1]; exact Int32.le_refl _) z⟩
      exact k y f ⟨hq, r.keep f.1, ⟨d.1, d.2.1, d.2.2.1, d.2.2.2.1, d.2.2.2.2, l, sl, al⟩, wf⟩
    | succ n ih =>
      intro a y ha f d l sl al
      obtain ⟨j, hj, ej⟩ := r8 a (by omega)
      obtain ⟨p2, e1, e2, e3, e4⟩ := E.ask (s := a) (by omega)
      obtain ⟨j2, hj2, ej2⟩ := E.2.1.2.2.2.2.2.2.2.1 a (by omega)
      have ep2 : p2 = p + 30 + j2 := Option.some.inj (e1.symm.trans ej2)
      refine v_X4_copyFrom_111 (ks0 hq) (by rw [f.rr]; exact r4) (ks4 hq) (ks0 E.1) (by rw [f.rr]; exact E.2.1.2.2.2.1) (ks4 E.1) ⟨fun z => absurd (by rw [d.2.2.2.2, wf.2.2.2.2.2.2.2.1] at z; exact z) (nI_ge (by omega) (by omega)), fun _ => ⟨vp_in_nI (by omega) (by decide), q + 30 + j, by rw [f.rr, nI_clamp (by omega)]; exact ej, vp_in_nI (by omega) (by decide), p2, by rw [f.rr, nI_clamp (by omega)]; exact e1, ks30 hq hj, ?_⟩⟩
      refine sp_X0_copyFrom (ks30 hq hj) e2 (by omega) (fun z hz hc => ?_)
      rw [nI_1]
      have hz0 : ∀ b k, b ≠ q + 30 + j → gi z b k = gi y b k := hz.2
      refine ih (a + 1) z (by omega) (f.eqx hz (by omega)) ?_ ?_ ?_ ?_
      · unfold Hd at d ⊢
        rw [hz0 q 0 (by omega), hz0 q 1 (by omega), hz0 q 2 (by omega), hz0 q 3 (by omega), hz0 q 4 (by omega)]
        exact d
      · intro h hh
        rw [hz0 (q + 1) h (by omega), hz0 (q + 2) h (by omega)]
        exact l h hh
      · intro s ps hs hps
        have hps2 : gr x (q + 3) s = some ps := by rw [← f.rr]; unfold gr at hps ⊢; rw [← hz.1]; exact hps
        obtain ⟨j3, hj3, ej3⟩ := r6 s (by omega)
        have eps : ps = q + 6 + j3 := Option.some.inj (hps2.symm.trans ej3)
        exact (sl s ps hs (by rw [f.rr]; exact hps2)).cg (fun k _ => hz0 ps k (by omega)) (fun _ _ => rfl)
      · intro s ps hs hps
        have hps2 : gr x (q + 4) s = some ps := by rw [← f.rr]; unfold gr at hps ⊢; rw [← hz.1]; exact hps
        by_cases c : s = a
        · subst c
          have eps : ps = q + 30 + j := Option.some.inj (hps2.symm.trans ej)
          subst eps
          intro k hk
          rw [hc k hk, f.2 p2 k (by omega)]
          exact e3 k hk
        · have eps : ps ≠ q + 30 + j := fun e => c (r9 s a (by omega) (by omega) (by rw [hps2, ej, e]))
          exact (al s ps (by omega) (by rw [f.rr]; exact hps2)).cg (fun k _ => hz0 ps k eps) (fun _ _ => rfl)
  have l2 : ∀ n s y, s + n = S → Frq x y q → Hd y q T → Lim y q T 24 → Sln y q T s → GV mX4_copyFrom 80 [some (.ref q), some (.ref p), some (.int (nI s))] [] KW y Q := by
    intro n
    induction n with
    | zero =>
      intro s y hs f d l sl
      have : s = S := by omega
      subst this
      refine v_X4_copyFrom_80 (ks0 hq) (by rw [f.rr]; exact r3) (ks3 hq) (ks0 E.1) (by rw [f.rr]; exact E.2.1.2.2.1) (ks3 E.1) ⟨fun _ => ?_, fun z => absurd (by rw [d.2.2.2.1, wf.2.2.2.2.2.1]; exact Int32.le_refl _) z⟩
      exact l3 A 0 y (by omega) f d l sl (fun s p hs _ => absurd hs (by omega))
    | succ n ih =>
      intro a y ha f d l sl
      obtain ⟨j, hj, ej⟩ := r6 a (by omega)
      obtain ⟨p2, e1, e2, e3, e4, -, e6⟩ := E.ser (s := a) (by omega)
      obtain ⟨j2, hj2, ej2⟩ := E.2.1.2.2.2.2.2.1 a (by omega)
      have ep2 : p2 = p + 6 + j2 := Option.some.inj (e1.symm.trans ej2)
      refine v_X4_copyFrom_80 (ks0 hq) (by rw [f.rr]; exact r3) (ks3 hq) (ks0 E.1) (by rw [f.rr]; exact E.2.1.2.2.1) (ks3 E.1) ⟨fun z => absurd (by rw [d.2.2.2.1, wf.2.2.2.2.2.1] at z; exact z) (nI_ge (by omega) (by omega)), fun _ => ⟨vp_in_nI (by omega) (by decide), q + 6 + j, by rw [f.rr, nI_clamp (by omega)]; exact ej, vp_in_nI (by omega) (by decide), p2, by rw [f.rr, nI_clamp (by omega)]; exact e1, ks6 hq hj, ?_⟩⟩
      refine sp_X5_copyFrom (ks6 hq hj) e2 (by omega) ?_ (fun z hz hc => ?_)
      · rw [f.2 p2 4 (by omega), e3.1 4 (by decide) (by decide)]
        exact e6.2.2.2.2.1
      rw [nI_1]
      have hz0 : ∀ b k, b ≠ q + 6 + j → gi z b k = gi y b k := hz.2
      refine ih (a + 1) z (by omega) (f.eqx hz (by omega)) ?_ ?_ ?_
      · unfold Hd at d ⊢
        rw [hz0 q 0 (by omega), hz0 q 1 (by omega), hz0 q 2 (by omega), hz0 q 3 (by omega), hz0 q 4 (by omega)]
        exact d
      · intro h hh
        rw [hz0 (q + 1) h (by omega), hz0 (q + 2) h (by omega)]
        exact l h hh
      · intro s ps hs hps
        have hps2 : gr x (q + 3) s = some ps := by rw [← f.rr]; unfold gr at hps ⊢; rw [← hz.1]; exact hps
        by_cases c : s = a
        · subst c
          have eps : ps = q + 6 + j := Option.some.inj (hps2.symm.trans ej)
          subst eps
          refine ⟨fun k hk h7 => ?_, ?_⟩
          · rw [hc k hk, f.2 p2 k (by omega)]
            exact e3.1 k hk h7
          · rw [hc 7 (by decide), f.2 p2 7 (by omega)]
            exact e3.2
        · have eps : ps ≠ q + 6 + j := fun e => c (r7 s a (by omega) (by omega) (by rw [hps2, ej, e]))
          exact (sl s ps (by omega) (by rw [f.rr]; exact hps2)).cg (fun k _ => hz0 ps k eps) (fun _ _ => rfl)
  have l1 : ∀ n h y, h + n = 24 → Frq x y q → Hd y q T → Lim y q T h → GV mX4_copyFrom 42 [some (.ref q), some (.ref p), some (.int (nI h))] [] KW y Q := by
    intro n
    induction n with
    | zero =>
      intro h y hh f d l
      have : h = 24 := by omega
      subst this
      refine v_X4_copyFrom_42 (ks0 hq) (by rw [f.rr]; exact r1) (ks0 E.1) (by rw [f.rr]; exact E.2.1.1) (ks1 E.1) (ks1 hq) (by rw [f.rr]; exact r2) (by rw [f.rr]; exact E.2.1.2.1) (ks2 E.1) (ks2 hq) ⟨fun _ => ?_, fun z => absurd (Int32.le_refl _) z⟩
      exact l2 S 0 y (by omega) f d l (fun s p hs _ => absurd hs (by omega))
    | succ n ih =>
      intro h y hh f d l
      refine v_X4_copyFrom_42 (ks0 hq) (by rw [f.rr]; exact r1) (ks0 E.1) (by rw [f.rr]; exact E.2.1.1) (ks1 E.1) (ks1 hq) (by rw [f.rr]; exact r2) (by rw [f.rr]; exact E.2.1.2.1) (ks2 E.1) (ks2 hq) ⟨fun z => absurd z (nI_ge (b := 24) (by omega) (by decide)), fun _ => ⟨vp_in_nI (by omega) (by decide), vp_in_nI (by omega) (by decide), vp_in_nI (by omega) (by decide), vp_in_nI (by omega) (by decide), ?_⟩⟩
      rw [nI_1, nI_clamp (show h < 2 ^ 31 by omega)]
      have eo : ∀ b j, b ≠ q + 1 → b ≠ q + 2 → gi (ui (ui y (q + 1) h (gi y (p + 1) h)) (q + 2) h (gi (ui y (q + 1) h (gi y (p + 1) h)) (p + 2) h)) b j = gi y b j := fun b j c1 c2 => by rw [gi_ui, if_neg (fun z => c2 z.1), gi_ui, if_neg (fun z => c1 z.1)]
      refine ih (h + 1) _ (by omega) ((f.ui (by omega)).ui (by omega)) ?_ ?_
      · unfold Hd at d ⊢
        rw [eo q 0 (by omega) (by omega), eo q 1 (by omega) (by omega), eo q 2 (by omega) (by omega), eo q 3 (by omega) (by omega), eo q 4 (by omega) (by omega)]
        exact d
      · intro i hi
        rw [gi_ui, gi_ui, if_neg (show ¬ (q + 1 = q + 2 ∧ i = h) by omega), gi_ui, gi_ui]
        by_cases c : i = h
        · subst c
          rw [if_pos ⟨rfl, rfl⟩, if_pos ⟨rfl, rfl⟩, if_neg (by omega), f.2 (p + 1) i (by omega), f.2 (p + 2) i (by omega)]
          exact v5 i (by omega)
        · rw [if_neg (fun z => c z.2), if_neg (fun z => c z.2), gi_ui, if_neg (fun z => c z.2)]
          exact l i (by omega)
  refine v_X4_copyFrom_0 (ks0 E.1) (ks0 hq) ?_
  intro a1 e1 a2 e2 a3 e3
  have np : ¬ p = q := hne
  simp only [gi_ui, np, false_and, if_false] at e1 e2 e3
  refine l1 24 0 _ (by omega) (((((Frq.rf x q).ui (by omega)).ui (by omega)).ui (by omega)).ui (by omega) |>.ui (by omega)) ?_ (fun h hh => absurd hh (by omega))
  unfold Hd
  simp [gi_ui, np, e1, e2, e3, v0, v1, v2, v3, v4]

end

/-! 44.copy.lean.txt -/
section
theorem bas_cg {T T' : TT} {s : Nat} (h : ∀ k, k < 12 → so T' s k = so T s k) : bas T' s = bas T s := by
  unfold bas
  rw [h 7 (by decide), h 8 (by decide), h 9 (by decide), h 10 (by decide)]
theorem Wse.cg {T T' : TT} {C W s : Nat} (w : Wse T C W s) (h : ∀ k, k < 12 → so T' s k = so T s k) : Wse T' C W s := by
  obtain ⟨w1, w2, w3, w4, w5, w6, w7, w8⟩ := w
  refine ⟨by rw [h 0 (by decide)]; exact w1, by rw [h 1 (by decide)]; exact w2, by rw [h 2 (by decide)]; exact w3, by rw [h 3 (by decide)]; exact w4, by rw [h 4 (by decide)]; exact w5, by rw [h 5 (by decide), h 6 (by decide)]; exact w6, fun i hi k j hk hj a b => w7 i hi k j hk hj (by rw [← h (7 + k) (by omega)]; exact a) (by rw [← h (7 + j) (by omega)]; exact b), fun i k hk a => w8 i k hk (by rw [← h (7 + k) (by omega)]; exact a)⟩
theorem Was.cg {T T' : TT} {C W a : Nat} (w : Was T C W a) (h : ∀ k, k < 7 → ao T' a k = ao T a k) : Was T' C W a := by
  obtain ⟨w1, w2, w3, w4, w5, w6⟩ := w
  exact ⟨by rw [h 0 (by decide)]; exact w1, by rw [h 1 (by decide)]; exact w2, by rw [h 2 (by decide)]; exact w3, by rw [h 3 (by decide)]; exact w4, by rw [h 4 (by decide), h 5 (by decide)]; exact w5, by rw [h 6 (by decide)]; exact w6⟩
theorem SER.cg {x y : Cn} {p s s' : Nat} {T T' : TT} (w : SER x p T s) (hy : ∀ k, k < 12 → gi y p k = gi x p k) (h : ∀ k, k < 12 → so T' s' k = so T s k) : SER y p T' s' := by
  refine ⟨fun k h1 h2 => by rw [hy k h1, h k h1]; exact w.1 k h1 h2, ?_⟩
  unfold bas
  rw [hy 7 (by decide), h 7 (by decide), h 8 (by decide), h 9 (by decide), h 10 (by decide), h 11 (by decide)]
  exact w.2
theorem ASR.cg {x y : Cn} {p a a' : Nat} {T T' : TT} (w : ASR x p T a) (hy : ∀ k, k < 7 → gi y p k = gi x p k) (h : ∀ k, k < 7 → ao T' a' k = ao T a k) : ASR y p T' a' := fun k hk => by rw [hy k hk, h k hk]; exact w k hk
theorem WF.cg {T T' : TT} {W C S A N : Nat} (w : WF T W C S A N) (h : ∀ i, i < 518 → T' i = T i) : WF T' W C S A N := by
  obtain ⟨w1, w2, w3, w4, w5, w6, w7, w8, w9, w10, w11, w12, w13, w14⟩ := w
  exact ⟨by rw [h 0 (by decide)]; exact w1, w2, w3, by rw [h 1 (by decide)]; exact w4, w5, by rw [h 2 (by decide)]; exact w6, w7, by rw [h 3 (by decide)]; exact w8, w9, by rw [h 4 (by decide)]; exact w10, w11, fun i hi => by rw [h (6 + 2 * i) (by omega), h (7 + 2 * i) (by omega)]; exact w12 i hi, fun s hs => (w13 s hs).cg (fun k hk => h _ (by omega)), fun a ha => (w14 a ha).cg (fun k hk => h _ (by omega))⟩
/-- the same season, in another heap and told by another row -/
theorem SEA.mv {x y : Cn} {q : Nat} {T T' : TT} {W C S A N : Nat} (E : SEA x q T W C S A N) (h1 : ∀ a k, q ≤ a → a < q + 54 → gr y a k = gr x a k) (h2 : ∀ a k, q ≤ a → a < q + 54 → a ≠ q + 5 → gi y a k = gi x a k) (hT : ∀ i, i < 518 → T' i = T i) : SEA y q T' W C S A N := by
  obtain ⟨e1, e2, ⟨v0, v1, v2, v3, v4, v5, v6, v7⟩, e4⟩ := E
  have hS : S ≤ 24 := e4.2.2.2.2.2.2.1
  have hA : A ≤ 24 := e4.2.2.2.2.2.2.2.2.1
  have g0 : ∀ k, gr y q k = gr x q k := fun k => h1 q k (by omega) (by omega)
  have g3 : ∀ k, gr y (q + 3) k = gr x (q + 3) k := fun k => h1 (q + 3) k (by omega) (by omega)
  have g4 : ∀ k, gr y (q + 4) k = gr x (q + 4) k := fun k => h1 (q + 4) k (by omega) (by omega)
  have hr := e2
  obtain ⟨r1, r2, r3, r4, r5, r6, r7, r8, r9⟩ := e2
  refine ⟨e1, ?_, ⟨?_, ?_, ?_, ?_, ?_, ?_, ?_, ?_⟩, e4.cg hT⟩
  · unfold SRf at hr ⊢
    simp only [g0, g3, g4]
    exact hr
  · rw [h2 q 0 (by omega) (by omega) (by omega), hT 0 (by decide)]; exact v0
  · rw [h2 q 1 (by omega) (by omega) (by omega), hT 4 (by decide)]; exact v1
  · rw [h2 q 2 (by omega) (by omega) (by omega), hT 5 (by decide)]; exact v2
  · rw [h2 q 3 (by omega) (by omega) (by omega), hT 2 (by decide)]; exact v3
  · rw [h2 q 4 (by omega) (by omega) (by omega), hT 3 (by decide)]; exact v4
  · intro hh h24
    rw [h2 (q + 1) hh (by omega) (by omega) (by omega), h2 (q + 2) hh (by omega) (by omega) (by omega), hT _ (by omega), hT _ (by omega)]
    exact v5 hh h24
  · intro s p hs hp
    rw [g3] at hp
    obtain ⟨j, hj, ej⟩ := r6 s (by omega)
    have hpe : p = q + 6 + j := Option.some.inj (hp.symm.trans ej)
    exact (v6 s p hs hp).cg (fun k _ => h2 p k (by omega) (by omega) (by omega)) (fun k hk => hT _ (by omega))
  · intro s p hs hp
    rw [g4] at hp
    obtain ⟨j, hj, ej⟩ := r8 s (by omega)
    have hpe : p = q + 30 + j := Option.some.inj (hp.symm.trans ej)
    exact (v7 s p hs hp).cg (fun k _ => h2 p k (by omega) (by omega) (by omega)) (fun k hk => hT _ (by omega))
/-- what lies outside a season stays -/
def Frq (x y : Cn) (q : Nat) : Prop := y.2 = x.2 ∧ ∀ a k, ¬ (q ≤ a ∧ a < q + 54) → gi y a k = gi x a k
theorem Frq.rf (x : Cn) (q : Nat) : Frq x x q := ⟨rfl, fun _ _ _ => rfl⟩
theorem Frq.tr {x y z : Cn} {q : Nat} (h : Frq x y q) (g : Frq y z q) : Frq x z q := ⟨g.1.trans h.1, fun a k c => (g.2 a k c).trans (h.2 a k c)⟩
theorem Frq.ui {x y : Cn} {q a k : Nat} {v : Int32} (h : Frq x y q) (c : q ≤ a ∧ a < q + 54) : Frq x (ui y a k v) q := ⟨h.1, fun b j d => by rw [gi_ui, if_neg (fun z => d (by rw [z.1]; exact c))]; exact h.2 b j d⟩
theorem Frq.eqx {x y z : Cn} {q a : Nat} (h : Frq x y q) (g : EQx y z a) (c : q ≤ a ∧ a < q + 54) : Frq x z q := ⟨g.1.trans h.1, fun b j d => (g.2 b j (fun e => d (by rw [e]; exact c))).trans (h.2 b j d)⟩
theorem Frq.rr {x y : Cn} {q : Nat} (h : Frq x y q) (a k : Nat) : gr y a k = gr x a k := by show y.2 a k = x.2 a k; rw [h.1]
theorem Isea.dis {p q : Nat} (hp : Isea p) (hq : Isea q) (h : p ≠ q) : p + 54 ≤ q ∨ q + 54 ≤ p := by
  rcases hp with rfl | rfl | rfl | ⟨i, hi, rfl⟩ <;> rcases hq with rfl | rfl | rfl | ⟨j, hj, rfl⟩ <;> omega
theorem SEA.off {x y : Cn} {p q : Nat} {T : TT} {W C S A N : Nat} (E : SEA x p T W C S A N) (hq : Isea q) (h : p ≠ q) (f : Frq x y q) : SEA y p T W C S A N := by
  have d := Isea.dis E.1 hq h
  exact E.mv (fun a k _ _ => f.rr a k) (fun a k h1 h2 _ => f.2 a k (by omega)) (fun _ _ => rfl)
theorem lt12 {j : Nat} (h : j < 12) : j = 0 ∨ j = 1 ∨ j = 2 ∨ j = 3 ∨ j = 4 ∨ j = 5 ∨ j = 6 ∨ j = 7 ∨ j = 8 ∨ j = 9 ∨ j = 10 ∨ j = 11 := by omega
set_option maxHeartbeats 2000000 in
theorem v_X5_copyFrom_0 {K : Sh} {x : Cn} {Q : Cn → Prop} {b0 : Nat} {b1 : Nat}  (k_b1 : kk K b1 = some (5, 0)) (k_b0 : kk K b0 = some (5, 0)) (K0 : ∀ r_1 : Int32, r_1 = gi (ui (ui x b0 0 (gi x b1 0)) b0 1 (gi (ui x b0 0 (gi x b1 0)) b1 1)) b1 2 → (∀ r_3 : Int32, r_3 = gi (ui (ui (ui x b0 0 (gi x b1 0)) b0 1 (gi (ui x b0 0 (gi x b1 0)) b1 1)) b0 2 r_1) b1 3 → (∀ r_5 : Int32, r_5 = gi (ui (ui (ui (ui x b0 0 (gi x b1 0)) b0 1 (gi (ui x b0 0 (gi x b1 0)) b1 1)) b0 2 r_1) b0 3 r_3) b1 4 → ((r_5 = 0 ∨ r_5 = 1) ∧ (∀ r_8 : Int32, r_8 = gi (ui (ui (ui (ui (ui x b0 0 (gi x b1 0)) b0 1 (gi (ui x b0 0 (gi x b1 0)) b1 1)) b0 2 r_1) b0 3 r_3) b0 4 r_5) b1 5 → (∀ r_10 : Int32, r_10 = gi (ui (ui (ui (ui (ui (ui x b0 0 (gi x b1 0)) b0 1 (gi (ui x b0 0 (gi x b1 0)) b1 1)) b0 2 r_1) b0 3 r_3) b0 4 r_5) b0 5 r_8) b1 6 → (∀ r_12 : Int32, r_12 = gi (ui (ui (ui (ui (ui (ui (ui x b0 0 (gi x b1 0)) b0 1 (gi (ui x b0 0 (gi x b1 0)) b1 1)) b0 2 r_1) b0 3 r_3) b0 4 r_5) b0 5 r_8) b0 6 r_10) b1 7 → (∀ r_14 : Int32, r_14 = gi (ui (ui (ui (ui (ui (ui (ui (ui x b0 0 (gi x b1 0)) b0 1 (gi (ui x b0 0 (gi x b1 0)) b1 1)) b0 2 r_1) b0 3 r_3) b0 4 r_5) b0 5 r_8) b0 6 r_10) b0 7 r_12) b1 8 → (∀ r_16 : Int32, r_16 = gi (ui (ui (ui (ui (ui (ui (ui (ui (ui x b0 0 (gi x b1 0)) b0 1 (gi (ui x b0 0 (gi x b1 0)) b1 1)) b0 2 r_1) b0 3 r_3) b0 4 r_5) b0 5 r_8) b0 6 r_10) b0 7 r_12) b0 8 r_14) b1 9 → (∀ r_18 : Int32, r_18 = gi (ui (ui (ui (ui (ui (ui (ui (ui (ui (ui x b0 0 (gi x b1 0)) b0 1 (gi (ui x b0 0 (gi x b1 0)) b1 1)) b0 2 r_1) b0 3 r_3) b0 4 r_5) b0 5 r_8) b0 6 r_10) b0 7 r_12) b0 8 r_14) b0 9 r_16) b1 10 → (∀ r_20 : Int32, r_20 = gi (ui (ui (ui (ui (ui (ui (ui (ui (ui (ui (ui x b0 0 (gi x b1 0)) b0 1 (gi (ui x b0 0 (gi x b1 0)) b1 1)) b0 2 r_1) b0 3 r_3) b0 4 r_5) b0 5 r_8) b0 6 r_10) b0 7 r_12) b0 8 r_14) b0 9 r_16) b0 10 r_18) b1 11 → (Q (ui (ui (ui (ui (ui (ui (ui (ui (ui (ui (ui (ui x b0 0 (gi x b1 0)) b0 1 (gi (ui x b0 0 (gi x b1 0)) b1 1)) b0 2 r_1) b0 3 r_3) b0 4 r_5) b0 5 r_8) b0 6 r_10) b0 7 r_12) b0 8 r_14) b0 9 r_16) b0 10 r_18) b0 11 r_20))))))))))))) : mSV mX5_copyFrom [.ref b0, .ref b1] K x Q := by
  refine s_V (by decide) (by simp [Value.category]) (Nat.le_of_ble_eq_true rfl) ?_
  show mGM mX5_copyFrom 0 [some (.ref b0), some (.ref b1)] [] (hp K x) (PV K Q)
  refine r_aload_n (pc := 0) dX5_copyFrom_0 rfl ?_
  refine r_aload_n (pc := 1) dX5_copyFrom_1 rfl ?_
  refine s_getI (pc := 2) dX5_copyFrom_2 fl_X5_9 rfl k_b1 ?_
  refine s_putI (pc := 5) dX5_copyFrom_5 fl_X5_9 rfl rfl k_b0 ?_
  refine r_aload_n (pc := 8) dX5_copyFrom_8 rfl ?_
  refine r_aload_n (pc := 9) dX5_copyFrom_9 rfl ?_
  refine s_getI (pc := 10) dX5_copyFrom_10 fl_X5_15 rfl k_b1 ?_
  refine s_putI (pc := 13) dX5_copyFrom_13 fl_X5_15 rfl rfl k_b0 ?_
  refine r_aload_n (pc := 16) dX5_copyFrom_16 rfl ?_
  refine r_aload_n (pc := 17) dX5_copyFrom_17 rfl ?_
  refine s_getI (pc := 18) dX5_copyFrom_18 fl_X5_18 rfl k_b1 ?_
  obtain ⟨r_1, w_2⟩ : ∃ z : Int32, z = gi (ui (ui x b0 0 (gi x b1 0)) b0 1 (gi (ui x b0 0 (gi x b1 0)) b1 1)) b1 2 := ⟨_, rfl⟩
  rw [← w_2]
  have K0 := K0 r_1 w_2
  refine s_putI (pc := 21) dX5_copyFrom_21 fl_X5_18 rfl rfl k_b0 ?_
  refine r_aload_n (pc := 24) dX5_copyFrom_24 rfl ?_
  refine r_aload_n (pc := 25) dX5_copyFrom_25 rfl ?_
  refine s_getI (pc := 26) dX5_copyFrom_26 fl_X5_21 rfl k_b1 ?_
  obtain ⟨r_3, w_4⟩ : ∃ z : Int32, z = gi (ui (ui (ui x b0 0 (gi x b1 0)) b0 1 (gi (ui x b0 0 (gi x b1 0)) b1 1)) b0 2 r_1) b1 3 := ⟨_, rfl⟩
  rw [← w_4]
  have K0 := K0 r_3 w_4
  refine s_putI (pc := 29) dX5_copyFrom_29 fl_X5_21 rfl rfl k_b0 ?_
  refine r_aload_n (pc := 32) dX5_copyFrom_32 rfl ?_
  refine r_aload_n (pc := 33) dX5_copyFrom_33 rfl ?_
  refine s_getI (pc := 34) dX5_copyFrom_34 fl_X5_24 rfl k_b1 ?_
  obtain ⟨r_5, w_6⟩ : ∃ z : Int32, z = gi (ui (ui (ui (ui x b0 0 (gi x b1 0)) b0 1 (gi (ui x b0 0 (gi x b1 0)) b1 1)) b0 2 r_1) b0 3 r_3) b1 4 := ⟨_, rfl⟩
  rw [← w_6]
  have K0 := K0 r_5 w_6
  obtain ⟨p_7, K0⟩ := K0
  refine s_putZ (pc := 37) dX5_copyFrom_37 fl_X5_24 rfl rfl k_b0 p_7 ?_
  refine r_aload_n (pc := 40) dX5_copyFrom_40 rfl ?_
  refine r_aload_n (pc := 41) dX5_copyFrom_41 rfl ?_
  refine s_getI (pc := 42) dX5_copyFrom_42 fl_X5_28 rfl k_b1 ?_
  obtain ⟨r_8, w_9⟩ : ∃ z : Int32, z = gi (ui (ui (ui (ui (ui x b0 0 (gi x b1 0)) b0 1 (gi (ui x b0 0 (gi x b1 0)) b1 1)) b0 2 r_1) b0 3 r_3) b0 4 r_5) b1 5 := ⟨_, rfl⟩
  rw [← w_9]
  have K0 := K0 r_8 w_9
  refine s_putI (pc := 45) dX5_copyFrom_45 fl_X5_28 rfl rfl k_b0 ?_
  refine r_aload_n (pc := 48) dX5_copyFrom_48 rfl ?_
  refine r_aload_n (pc := 49) dX5_copyFrom_49 rfl ?_
  refine s_getI (pc := 50) dX5_copyFrom_50 fl_X5_31 rfl k_b1 ?_
  obtain ⟨r_10, w_11⟩ : ∃ z : Int32, z = gi (ui (ui (ui (ui (ui (ui x b0 0 (gi x b1 0)) b0 1 (gi (ui x b0 0 (gi x b1 0)) b1 1)) b0 2 r_1) b0 3 r_3) b0 4 r_5) b0 5 r_8) b1 6 := ⟨_, rfl⟩
  rw [← w_11]
  have K0 := K0 r_10 w_11
  refine s_putI (pc := 53) dX5_copyFrom_53 fl_X5_31 rfl rfl k_b0 ?_
  refine r_aload_n (pc := 56) dX5_copyFrom_56 rfl ?_
  refine r_aload_n (pc := 57) dX5_copyFrom_57 rfl ?_
  refine s_getI (pc := 58) dX5_copyFrom_58 fl_X5_34 rfl k_b1 ?_
  obtain ⟨r_12, w_13⟩ : ∃ z : Int32, z = gi (ui (ui (ui (ui (ui (ui (ui x b0 0 (gi x b1 0)) b0 1 (gi (ui x b0 0 (gi x b1 0)) b1 1)) b0 2 r_1) b0 3 r_3) b0 4 r_5) b0 5 r_8) b0 6 r_10) b1 7 := ⟨_, rfl⟩
  rw [← w_13]
  have K0 := K0 r_12 w_13
  refine s_putI (pc := 61) dX5_copyFrom_61 fl_X5_34 rfl rfl k_b0 ?_
  refine r_aload_n (pc := 64) dX5_copyFrom_64 rfl ?_
  refine r_aload_n (pc := 65) dX5_copyFrom_65 rfl ?_
  refine s_getI (pc := 66) dX5_copyFrom_66 fl_X5_37 rfl k_b1 ?_
  obtain ⟨r_14, w_15⟩ : ∃ z : Int32, z = gi (ui (ui (ui (ui (ui (ui (ui (ui x b0 0 (gi x b1 0)) b0 1 (gi (ui x b0 0 (gi x b1 0)) b1 1)) b0 2 r_1) b0 3 r_3) b0 4 r_5) b0 5 r_8) b0 6 r_10) b0 7 r_12) b1 8 := ⟨_, rfl⟩
  rw [← w_15]
  have K0 := K0 r_14 w_15
  refine s_putI (pc := 69) dX5_copyFrom_69 fl_X5_37 rfl rfl k_b0 ?_
  refine r_aload_n (pc := 72) dX5_copyFrom_72 rfl ?_
  refine r_aload_n (pc := 73) dX5_copyFrom_73 rfl ?_
  refine s_getI (pc := 74) dX5_copyFrom_74 fl_X5_40 rfl k_b1 ?_
  obtain ⟨r_16, w_17⟩ : ∃ z : Int32, z = gi (ui (ui (ui (ui (ui (ui (ui (ui (ui x b0 0 (gi x b1 0)) b0 1 (gi (ui x b0 0 (gi x b1 0)) b1 1)) b0 2 r_1) b0 3 r_3) b0 4 r_5) b0 5 r_8) b0 6 r_10) b0 7 r_12) b0 8 r_14) b1 9 := ⟨_, rfl⟩
  rw [← w_17]
  have K0 := K0 r_16 w_17
  refine s_putI (pc := 77) dX5_copyFrom_77 fl_X5_40 rfl rfl k_b0 ?_
  refine r_aload_n (pc := 80) dX5_copyFrom_80 rfl ?_
  refine r_aload_n (pc := 81) dX5_copyFrom_81 rfl ?_
  refine s_getI (pc := 82) dX5_copyFrom_82 fl_X5_43 rfl k_b1 ?_
  obtain ⟨r_18, w_19⟩ : ∃ z : Int32, z = gi (ui (ui (ui (ui (ui (ui (ui (ui (ui (ui x b0 0 (gi x b1 0)) b0 1 (gi (ui x b0 0 (gi x b1 0)) b1 1)) b0 2 r_1) b0 3 r_3) b0 4 r_5) b0 5 r_8) b0 6 r_10) b0 7 r_12) b0 8 r_14) b0 9 r_16) b1 10 := ⟨_, rfl⟩
  rw [← w_19]
  have K0 := K0 r_18 w_19
  refine s_putI (pc := 85) dX5_copyFrom_85 fl_X5_43 rfl rfl k_b0 ?_
  refine r_aload_n (pc := 88) dX5_copyFrom_88 rfl ?_
  refine r_aload_n (pc := 89) dX5_copyFrom_89 rfl ?_
  refine s_getI (pc := 90) dX5_copyFrom_90 fl_X5_46 rfl k_b1 ?_
  obtain ⟨r_20, w_21⟩ : ∃ z : Int32, z = gi (ui (ui (ui (ui (ui (ui (ui (ui (ui (ui (ui x b0 0 (gi x b1 0)) b0 1 (gi (ui x b0 0 (gi x b1 0)) b1 1)) b0 2 r_1) b0 3 r_3) b0 4 r_5) b0 5 r_8) b0 6 r_10) b0 7 r_12) b0 8 r_14) b0 9 r_16) b0 10 r_18) b1 11 := ⟨_, rfl⟩
  rw [← w_21]
  have K0 := K0 r_20 w_21
  refine s_putI (pc := 93) dX5_copyFrom_93 fl_X5_46 rfl rfl k_b0 ?_
  exact s_ret rfl dX5_copyFrom_96 K0
section
theorem sp_X5_copyFrom {x : Cn} {Q : Cn → Prop} {a b : Nat} (ha : kk KW a = some (5, 0)) (hb : kk KW b = some (5, 0)) (hne : b ≠ a) (h4 : gi x b 4 = 0 ∨ gi x b 4 = 1) (k : ∀ y, EQx x y a → (∀ j, j < 12 → gi y a j = gi x b j) → Q y) : mSV mX5_copyFrom [.ref a, .ref b] KW x Q := by
  refine v_X5_copyFrom_0 hb ha ?_
  intro r1 e1 r2 e2 r3 e3
  simp only [gi_ui, hne, false_and, if_false] at e1 e2 e3
  refine ⟨by rw [e3]; exact h4, ?_⟩
  intro r4 e4 r5 e5 r6 e6 r7 e7 r8 e8 r9 e9 r10 e10
  simp only [gi_ui, hne, false_and, if_false] at e4 e5 e6 e7 e8 e9 e10
  refine k _ ⟨rfl, fun c j hc => ?_⟩ (fun j hj => ?_)
  · simp only [gi_ui, hc, false_and, if_false]
  · rcases lt12 hj with rfl | rfl | rfl | rfl | rfl | rfl | rfl | rfl | rfl | rfl | rfl | rfl <;> simp [gi_ui, hne, e1, e2, e3, e4, e5, e6, e7, e8, e9, e10]
theorem lt7 {j : Nat} (h : j < 7) : j = 0 ∨ j = 1 ∨ j = 2 ∨ j = 3 ∨ j = 4 ∨ j = 5 ∨ j = 6 := by omega
end
set_option maxHeartbeats 2000000 in
theorem v_X0_placeAt_0 {K : Sh} {x : Cn} {Q : Cn → Prop} {b0 : Nat} {l1 : Int32} {l2 : Int32} {l3 : Int32} {l4 : Int32}  (k_b0 : kk K b0 = some (0, 0)) (K0 : Q (ui (ui (ui (ui x b0 0 l1) b0 1 l2) b0 2 l3) b0 3 l4)) : mSV mX0_placeAt [.ref b0, .int l1, .int l2, .int l3, .int l4] K x Q := by
  refine s_V (by decide) (by simp [Value.category]) (Nat.le_of_ble_eq_true rfl) ?_
  show mGM mX0_placeAt 0 [some (.ref b0), some (.int l1), some (.int l2), some (.int l3), some (.int l4)] [] (hp K x) (PV K Q)
  refine r_aload_n (pc := 0) dX0_placeAt_0 rfl ?_
  refine r_iload_n (pc := 1) dX0_placeAt_1 rfl ?_
  refine s_putI (pc := 2) dX0_placeAt_2 fl_X0_7 rfl rfl k_b0 ?_
  refine r_aload_n (pc := 5) dX0_placeAt_5 rfl ?_
  refine r_iload_n (pc := 6) dX0_placeAt_6 rfl ?_
  refine s_putI (pc := 7) dX0_placeAt_7 fl_X0_13 rfl rfl k_b0 ?_
  refine r_aload_n (pc := 10) dX0_placeAt_10 rfl ?_
  refine r_iload_n (pc := 11) dX0_placeAt_11 rfl ?_
  refine s_putI (pc := 12) dX0_placeAt_12 fl_X0_16 rfl rfl k_b0 ?_
  refine r_aload_n (pc := 15) dX0_placeAt_15 rfl ?_
  refine r_iload (pc := 16) dX0_placeAt_16 rfl ?_
  refine s_putI (pc := 18) dX0_placeAt_18 fl_X0_19 rfl rfl k_b0 ?_
  exact s_ret rfl dX0_placeAt_21 K0
set_option maxHeartbeats 2000000 in
theorem v_X0_span_0 {K : Sh} {x : Cn} {Q : Cn → Prop} {b0 : Nat} {l1 : Int32} {l2 : Int32} {l3 : Int32}  (k_b0 : kk K b0 = some (0, 0)) (K0 : Q (ui (ui (ui x b0 4 l1) b0 5 l2) b0 6 l3)) : mSV mX0_span [.ref b0, .int l1, .int l2, .int l3] K x Q := by
  refine s_V (by decide) (by simp [Value.category]) (Nat.le_of_ble_eq_true rfl) ?_
  show mGM mX0_span 0 [some (.ref b0), some (.int l1), some (.int l2), some (.int l3)] [] (hp K x) (PV K Q)
  refine r_aload_n (pc := 0) dX0_span_0 rfl ?_
  refine r_iload_n (pc := 1) dX0_span_1 rfl ?_
  refine s_putI (pc := 2) dX0_span_2 fl_X0_22 rfl rfl k_b0 ?_
  refine r_aload_n (pc := 5) dX0_span_5 rfl ?_
  refine r_iload_n (pc := 6) dX0_span_6 rfl ?_
  refine s_putI (pc := 7) dX0_span_7 fl_X0_25 rfl rfl k_b0 ?_
  refine r_aload_n (pc := 10) dX0_span_10 rfl ?_
  refine r_iload_n (pc := 11) dX0_span_11 rfl ?_
  refine s_putI (pc := 12) dX0_span_12 fl_X0_28 rfl rfl k_b0 ?_
  exact s_ret rfl dX0_span_15 K0
set_option maxHeartbeats 2000000 in
theorem v_X0_copyFrom_0 {K : Sh} {x : Cn} {Q : Cn → Prop} {b0 : Nat} {b1 : Nat}  (k_b1 : kk K b1 = some (0, 0)) (k_b0 : kk K b0 = some (0, 0)) (K0 : mSV mX0_placeAt [.ref b0, .int (gi x b1 0), .int (gi x b1 1), .int (gi x b1 2), .int (gi x b1 3)] K x (fun y_1 => mSV mX0_span [.ref b0, .int (gi y_1 b1 4), .int (gi y_1 b1 5), .int (gi y_1 b1 6)] K y_1 (fun y_2 => Q y_2))) : mSV mX0_copyFrom [.ref b0, .ref b1] K x Q := by
  refine s_V (by decide) (by simp [Value.category]) (Nat.le_of_ble_eq_true rfl) ?_
  show mGM mX0_copyFrom 0 [some (.ref b0), some (.ref b1)] [] (hp K x) (PV K Q)
  refine r_aload_n (pc := 0) dX0_copyFrom_0 rfl ?_
  refine r_aload_n (pc := 1) dX0_copyFrom_1 rfl ?_
  refine s_getI (pc := 2) dX0_copyFrom_2 fl_X0_7 rfl k_b1 ?_
  refine r_aload_n (pc := 5) dX0_copyFrom_5 rfl ?_
  refine s_getI (pc := 6) dX0_copyFrom_6 fl_X0_13 rfl k_b1 ?_
  refine r_aload_n (pc := 9) dX0_copyFrom_9 rfl ?_
  refine s_getI (pc := 10) dX0_copyFrom_10 fl_X0_16 rfl k_b1 ?_
  refine r_aload_n (pc := 13) dX0_copyFrom_13 rfl ?_
  refine s_getI (pc := 14) dX0_copyFrom_14 fl_X0_19 rfl k_b1 ?_
  refine s_VV (pc := 17) mX0_placeAt (ci := 0) (a := b0) (As := [.int (gi x b1 0), .int (gi x b1 1), .int (gi x b1 2), .int (gi x b1 3)]) dX0_copyFrom_17 lk_X0_31 in_X0_placeAt mo_X0_placeAt ⟨by decide, rfl⟩ ⟨by decide, by decide⟩ (Nat.le_of_ble_eq_true rfl) k_b0 (mSV_mono K0 (fun y_1 K0 => ?_))
  refine r_aload_n (pc := 20) dX0_copyFrom_20 rfl ?_
  refine r_aload_n (pc := 21) dX0_copyFrom_21 rfl ?_
  refine s_getI (pc := 22) dX0_copyFrom_22 fl_X0_22 rfl k_b1 ?_
  refine r_aload_n (pc := 25) dX0_copyFrom_25 rfl ?_
  refine s_getI (pc := 26) dX0_copyFrom_26 fl_X0_25 rfl k_b1 ?_
  refine r_aload_n (pc := 29) dX0_copyFrom_29 rfl ?_
  refine s_getI (pc := 30) dX0_copyFrom_30 fl_X0_28 rfl k_b1 ?_
  refine s_VV (pc := 33) mX0_span (ci := 0) (a := b0) (As := [.int (gi y_1 b1 4), .int (gi y_1 b1 5), .int (gi y_1 b1 6)]) dX0_copyFrom_33 lk_X0_35 in_X0_span mo_X0_span ⟨by decide, rfl⟩ ⟨by decide, by decide⟩ (Nat.le_of_ble_eq_true rfl) k_b0 (mSV_mono K0 (fun y_2 K0 => ?_))
  exact s_ret rfl dX0_copyFrom_36 K0
section
theorem sp_X0_copyFrom {x : Cn} {Q : Cn → Prop} {a b : Nat} (ha : kk KW a = some (0, 0)) (hb : kk KW b = some (0, 0)) (hne : b ≠ a) (k : ∀ y, EQx x y a → (∀ j, j < 7 → gi y a j = gi x b j) → Q y) : mSV mX0_copyFrom [.ref a, .ref b] KW x Q := by
  refine v_X0_copyFrom_0 hb ha (v_X0_placeAt_0 ha (v_X0_span_0 ha (k _ ⟨rfl, fun c j hc => ?_⟩ (fun j hj => ?_))))
  · simp only [gi_ui, hc, false_and, if_false]
  · rcases lt7 hj with rfl | rfl | rfl | rfl | rfl | rfl | rfl <;> simp [gi_ui, hne]
def Hd (x : Cn) (q : Nat) (T : TT) : Prop := gi x q 0 = T 0 ∧ gi x q 1 = T 4 ∧ gi x q 2 = T 5 ∧ gi x q 3 = T 2 ∧ gi x q 4 = T 3
def Lim (x : Cn) (q : Nat) (T : TT) (n : Nat) : Prop := ∀ h, h < n → gi x (q + 1) h = T (6 + 2 * h) ∧ gi x (q + 2) h = T (7 + 2 * h)
def Sln (x : Cn) (q : Nat) (T : TT) (n : Nat) : Prop := ∀ s p, s < n → gr x (q + 3) s = some p → SER x p T s
def Aln (x : Cn) (q : Nat) (T : TT) (n : Nat) : Prop := ∀ s p, s < n → gr x (q + 4) s = some p → ASR x p T s
end
set_option maxHeartbeats 2000000 in
theorem v_X4_copyFrom_0 {K : Sh} {x : Cn} {Q : Cn → Prop} {b0 : Nat} {b1 : Nat}  (k_b1 : kk K b1 = some (4, 0)) (k_b0 : kk K b0 = some (4, 0)) (K0 : ∀ r_1 : Int32, r_1 = gi (ui (ui x b0 0 (gi x b1 0)) b0 1 (gi (ui x b0 0 (gi x b1 0)) b1 1)) b1 2 → (∀ r_3 : Int32, r_3 = gi (ui (ui (ui x b0 0 (gi x b1 0)) b0 1 (gi (ui x b0 0 (gi x b1 0)) b1 1)) b0 2 r_1) b1 3 → (∀ r_5 : Int32, r_5 = gi (ui (ui (ui (ui x b0 0 (gi x b1 0)) b0 1 (gi (ui x b0 0 (gi x b1 0)) b1 1)) b0 2 r_1) b0 3 r_3) b1 4 → (GV mX4_copyFrom 42 [some (.ref b0), some (.ref b1), some (.int 0)] [] K (ui (ui (ui (ui (ui x b0 0 (gi x b1 0)) b0 1 (gi (ui x b0 0 (gi x b1 0)) b1 1)) b0 2 r_1) b0 3 r_3) b0 4 r_5) Q)))) : mSV mX4_copyFrom [.ref b0, .ref b1] K x Q := by
  refine s_V (by decide) (by simp [Value.category]) (Nat.le_of_ble_eq_true rfl) ?_
  show mGM mX4_copyFrom 0 [some (.ref b0), some (.ref b1), none] [] (hp K x) (PV K Q)
  refine r_aload_n (pc := 0) dX4_copyFrom_0 rfl ?_
  refine r_aload_n (pc := 1) dX4_copyFrom_1 rfl ?_
  refine s_getI (pc := 2) dX4_copyFrom_2 fl_X4_9 rfl k_b1 ?_
  refine s_putI (pc := 5) dX4_copyFrom_5 fl_X4_9 rfl rfl k_b0 ?_
  refine r_aload_n (pc := 8) dX4_copyFrom_8 rfl ?_
  refine r_aload_n (pc := 9) dX4_copyFrom_9 rfl ?_
  refine s_getI (pc := 10) dX4_copyFrom_10 fl_X4_15 rfl k_b1 ?_
  refine s_putI (pc := 13) dX4_copyFrom_13 fl_X4_15 rfl rfl k_b0 ?_
  refine r_aload_n (pc := 16) dX4_copyFrom_16 rfl ?_
  refine r_aload_n (pc := 17) dX4_copyFrom_17 rfl ?_
  refine s_getI (pc := 18) dX4_copyFrom_18 fl_X4_18 rfl k_b1 ?_
  obtain ⟨r_1, w_2⟩ : ∃ z : Int32, z = gi (ui (ui x b0 0 (gi x b1 0)) b0 1 (gi (ui x b0 0 (gi x b1 0)) b1 1)) b1 2 := ⟨_, rfl⟩
  rw [← w_2]
  have K0 := K0 r_1 w_2
  refine s_putI (pc := 21) dX4_copyFrom_21 fl_X4_18 rfl rfl k_b0 ?_
  refine r_aload_n (pc := 24) dX4_copyFrom_24 rfl ?_
  refine r_aload_n (pc := 25) dX4_copyFrom_25 rfl ?_
  refine s_getI (pc := 26) dX4_copyFrom_26 fl_X4_21 rfl k_b1 ?_
  obtain ⟨r_3, w_4⟩ : ∃ z : Int32, z = gi (ui (ui (ui x b0 0 (gi x b1 0)) b0 1 (gi (ui x b0 0 (gi x b1 0)) b1 1)) b0 2 r_1) b1 3 := ⟨_, rfl⟩
  rw [← w_4]
  have K0 := K0 r_3 w_4
  refine s_putI (pc := 29) dX4_copyFrom_29 fl_X4_21 rfl rfl k_b0 ?_
  refine r_aload_n (pc := 32) dX4_copyFrom_32 rfl ?_
  refine r_aload_n (pc := 33) dX4_copyFrom_33 rfl ?_
  refine s_getI (pc := 34) dX4_copyFrom_34 fl_X4_24 rfl k_b1 ?_
  obtain ⟨r_5, w_6⟩ : ∃ z : Int32, z = gi (ui (ui (ui (ui x b0 0 (gi x b1 0)) b0 1 (gi (ui x b0 0 (gi x b1 0)) b1 1)) b0 2 r_1) b0 3 r_3) b1 4 := ⟨_, rfl⟩
  rw [← w_6]
  have K0 := K0 r_5 w_6
  refine s_putI (pc := 37) dX4_copyFrom_37 fl_X4_24 rfl rfl k_b0 ?_
  refine r_iconst (pc := 40) (v := 0) dX4_copyFrom_40 (by decide) ?_
  refine r_istore_n (pc := 41) dX4_copyFrom_41 (by decide) ?_
  exact r_le (L' := [some (.ref b0), some (.ref b1), some (.int 0)]) ⟨rfl, ⟨rfl, ⟨rfl, trivial⟩⟩⟩ K0
set_option maxHeartbeats 2000000 in
theorem v_X4_copyFrom_42 {K : Sh} {x : Cn} {Q : Cn → Prop} {b0 : Nat} {b1 : Nat} {l2 : Int32} {b0_5 : Nat} {b1_5 : Nat} {n_b1_5 : Nat} {n_b0_5 : Nat} {b0_6 : Nat} {b1_6 : Nat} {n_b1_6 : Nat} {n_b0_6 : Nat} (k_b0 : kk K b0 = some (4, 0)) (g_b0_5 : gr x b0 5 = some b0_5) (k_b1 : kk K b1 = some (4, 0)) (g_b1_5 : gr x b1 5 = some b1_5) (k_b1_5 : kk K b1_5 = some (20, n_b1_5)) (k_b0_5 : kk K b0_5 = some (20, n_b0_5)) (g_b0_6 : gr x b0 6 = some b0_6) (g_b1_6 : gr x b1 6 = some b1_6) (k_b1_6 : kk K b1_6 = some (20, n_b1_6)) (k_b0_6 : kk K b0_6 = some (20, n_b0_6)) (K0 : (24 ≤ l2 → (GV mX4_copyFrom 80 [some (.ref b0), some (.ref b1), some (.int 0)] [] K x Q)) ∧ (¬ 24 ≤ l2 → (vp_in l2 n_b1_5 ∧ (vp_in l2 n_b0_5 ∧ (vp_in l2 n_b1_6 ∧ (vp_in l2 n_b0_6 ∧ (GV mX4_copyFrom 42 [some (.ref b0), some (.ref b1), some (.int (l2 + 1))] [] K (ui (ui x b0_5 (l2 : Int32).toNatClampNeg (gi x b1_5 (l2 : Int32).toNatClampNeg)) b0_6 (l2 : Int32).toNatClampNeg (gi (ui x b0_5 (l2 : Int32).toNatClampNeg (gi x b1_5 (l2 : Int32).toNatClampNeg)) b1_6 (l2 : Int32).toNatClampNeg)) Q))))))) : GV mX4_copyFrom 42 [some (.ref b0), some (.ref b1), some (.int l2)] [] K x Q := by
  show mGM mX4_copyFrom 42 [some (.ref b0), some (.ref b1), some (.int l2)] [] (hp K x) (PV K Q)
  refine r_iload_n (pc := 42) dX4_copyFrom_42 rfl ?_
  refine r_bipush (pc := 43) (v := 24) dX4_copyFrom_43 (by decide) ?_
  refine r_icmp_ge (pc := 45) (tgt := 78) dX4_copyFrom_45 (by decide) (fun q => ?_) (fun q => ?_)
  · have K0 := K0.1 q
    refine r_iconst (pc := 78) (v := 0) dX4_copyFrom_78 (by decide) ?_
    refine r_istore_n (pc := 79) dX4_copyFrom_79 (by decide) ?_
    exact r_le (L' := [some (.ref b0), some (.ref b1), some (.int 0)]) ⟨rfl, ⟨rfl, ⟨rfl, trivial⟩⟩⟩ K0
  · have K0 := K0.2 q
    refine r_aload_n (pc := 48) dX4_copyFrom_48 rfl ?_
    refine s_getR (pc := 49) dX4_copyFrom_49 fl_X4_27 rfl k_b0 g_b0_5 ?_
    refine r_iload_n (pc := 52) dX4_copyFrom_52 rfl ?_
    refine r_aload_n (pc := 53) dX4_copyFrom_53 rfl ?_
    refine s_getR (pc := 54) dX4_copyFrom_54 fl_X4_27 rfl k_b1 g_b1_5 ?_
    refine r_iload_n (pc := 57) dX4_copyFrom_57 rfl ?_
    obtain ⟨i_2, K0⟩ := K0
    refine s_iald (pc := 58) dX4_copyFrom_58 k_b1_5 i_2 ?_
    obtain ⟨i_3, K0⟩ := K0
    refine s_iast (pc := 59) dX4_copyFrom_59 k_b0_5 i_3 ?_
    refine r_aload_n (pc := 60) dX4_copyFrom_60 rfl ?_
    refine s_getR (pc := 61) dX4_copyFrom_61 fl_X4_31 rfl k_b0 g_b0_6 ?_
    refine r_iload_n (pc := 64) dX4_copyFrom_64 rfl ?_
    refine r_aload_n (pc := 65) dX4_copyFrom_65 rfl ?_
    refine s_getR (pc := 66) dX4_copyFrom_66 fl_X4_31 rfl k_b1 g_b1_6 ?_
    refine r_iload_n (pc := 69) dX4_copyFrom_69 rfl ?_
    obtain ⟨i_4, K0⟩ := K0
    refine s_iald (pc := 70) dX4_copyFrom_70 k_b1_6 i_4 ?_
    obtain ⟨i_5, K0⟩ := K0
    refine s_iast (pc := 71) dX4_copyFrom_71 k_b0_6 i_5 ?_
    refine r_iinc (pc := 72) (v := l2 + 1) dX4_copyFrom_72 rfl rfl (by decide) ?_
    refine r_goto (pc := 75) (L := [some (.ref b0), some (.ref b1), some (.int (l2 + 1))]) (tgt := 42) dX4_copyFrom_75 (by decide) ?_
    exact r_le (L' := [some (.ref b0), some (.ref b1), some (.int (l2 + 1))]) ⟨rfl, ⟨rfl, ⟨rfl, trivial⟩⟩⟩ K0
set_option maxHeartbeats 2000000 in
theorem v_X4_copyFrom_80 {K : Sh} {x : Cn} {Q : Cn → Prop} {b0 : Nat} {b1 : Nat} {l2 : Int32} {b0_7 : Nat} {n_b0_7 : Nat} {b1_7 : Nat} {n_b1_7 : Nat} (k_b0 : kk K b0 = some (4, 0)) (g_b0_7 : gr x b0 7 = some b0_7) (k_b0_7 : kk K b0_7 = some (23, n_b0_7)) (k_b1 : kk K b1 = some (4, 0)) (g_b1_7 : gr x b1 7 = some b1_7) (k_b1_7 : kk K b1_7 = some (23, n_b1_7)) (K0 : ((gi x b0 3) ≤ l2 → (GV mX4_copyFrom 111 [some (.ref b0), some (.ref b1), some (.int 0)] [] K x Q)) ∧ (¬ (gi x b0 3) ≤ l2 → (vp_in l2 n_b0_7 ∧ (∃ c_3 : Nat, gr x b0_7 ((l2 : Int32).toNatClampNeg) = some c_3 ∧ (vp_in l2 n_b1_7 ∧ (∃ c_6 : Nat, gr x b1_7 ((l2 : Int32).toNatClampNeg) = some c_6 ∧ (kk K c_3 = some (5, 0) ∧ (mSV mX5_copyFrom [.ref c_3, .ref c_6] K x (fun y_9 => GV mX4_copyFrom 80 [some (.ref b0), some (.ref b1), some (.int (l2 + 1))] [] K y_9 Q))))))))) : GV mX4_copyFrom 80 [some (.ref b0), some (.ref b1), some (.int l2)] [] K x Q := by
  show mGM mX4_copyFrom 80 [some (.ref b0), some (.ref b1), some (.int l2)] [] (hp K x) (PV K Q)
  refine r_iload_n (pc := 80) dX4_copyFrom_80 rfl ?_
  refine r_aload_n (pc := 81) dX4_copyFrom_81 rfl ?_
  refine s_getI (pc := 82) dX4_copyFrom_82 fl_X4_21 rfl k_b0 ?_
  refine r_icmp_ge (pc := 85) (tgt := 109) dX4_copyFrom_85 (by decide) (fun q => ?_) (fun q => ?_)
  · have K0 := K0.1 q
    refine r_iconst (pc := 109) (v := 0) dX4_copyFrom_109 (by decide) ?_
    refine r_istore_n (pc := 110) dX4_copyFrom_110 (by decide) ?_
    exact r_le (L' := [some (.ref b0), some (.ref b1), some (.int 0)]) ⟨rfl, ⟨rfl, ⟨rfl, trivial⟩⟩⟩ K0
  · have K0 := K0.2 q
    refine r_aload_n (pc := 88) dX4_copyFrom_88 rfl ?_
    refine s_getR (pc := 89) dX4_copyFrom_89 fl_X4_36 rfl k_b0 g_b0_7 ?_
    refine r_iload_n (pc := 92) dX4_copyFrom_92 rfl ?_
    obtain ⟨i_2, K0⟩ := K0
    obtain ⟨c_3, g_4, K0⟩ := K0
    refine s_aald (pc := 93) dX4_copyFrom_93 (by decide) rfl k_b0_7 i_2 g_4 ?_
    refine r_aload_n (pc := 94) dX4_copyFrom_94 rfl ?_
    refine s_getR (pc := 95) dX4_copyFrom_95 fl_X4_36 rfl k_b1 g_b1_7 ?_
    refine r_iload_n (pc := 98) dX4_copyFrom_98 rfl ?_
    obtain ⟨i_5, K0⟩ := K0
    obtain ⟨c_6, g_7, K0⟩ := K0
    refine s_aald (pc := 99) dX4_copyFrom_99 (by decide) rfl k_b1_7 i_5 g_7 ?_
    obtain ⟨e_8, K0⟩ := K0
    refine s_VV (pc := 100) mX5_copyFrom (ci := 5) (a := c_3) (As := [.ref c_6]) dX4_copyFrom_100 lk_X4_51 in_X5_copyFrom mo_X5_copyFrom ⟨by decide, rfl⟩ ⟨by decide, by decide⟩ (Nat.le_of_ble_eq_true rfl) e_8 (mSV_mono K0 (fun y_9 K0 => ?_))
    refine r_iinc (pc := 103) (v := l2 + 1) dX4_copyFrom_103 rfl rfl (by decide) ?_
    refine r_goto (pc := 106) (L := [some (.ref b0), some (.ref b1), some (.int (l2 + 1))]) (tgt := 80) dX4_copyFrom_106 (by decide) ?_
    exact r_le (L' := [some (.ref b0), some (.ref b1), some (.int (l2 + 1))]) ⟨rfl, ⟨rfl, ⟨rfl, trivial⟩⟩⟩ K0
set_option maxHeartbeats 2000000 in
theorem v_X4_copyFrom_111 {K : Sh} {x : Cn} {Q : Cn → Prop} {b0 : Nat} {b1 : Nat} {l2 : Int32} {b0_8 : Nat} {n_b0_8 : Nat} {b1_8 : Nat} {n_b1_8 : Nat} (k_b0 : kk K b0 = some (4, 0)) (g_b0_8 : gr x b0 8 = some b0_8) (k_b0_8 : kk K b0_8 = some (24, n_b0_8)) (k_b1 : kk K b1 = some (4, 0)) (g_b1_8 : gr x b1 8 = some b1_8) (k_b1_8 : kk K b1_8 = some (24, n_b1_8)) (K0 : ((gi x b0 4) ≤ l2 → (Q x)) ∧ (¬ (gi x b0 4) ≤ l2 → (vp_in l2 n_b0_8 ∧ (∃ c_3 : Nat, gr x b0_8 ((l2 : Int32).toNatClampNeg) = some c_3 ∧ (vp_in l2 n_b1_8 ∧ (∃ c_6 : Nat, gr x b1_8 ((l2 : Int32).toNatClampNeg) = some c_6 ∧ (kk K c_3 = some (0, 0) ∧ (mSV mX0_copyFrom [.ref c_3, .ref c_6] K x (fun y_9 => GV mX4_copyFrom 111 [some (.ref b0), some (.ref b1), some (.int (l2 + 1))] [] K y_9 Q))))))))) : GV mX4_copyFrom 111 [some (.ref b0), some (.ref b1), some (.int l2)] [] K x Q := by
  show mGM mX4_copyFrom 111 [some (.ref b0), some (.ref b1), some (.int l2)] [] (hp K x) (PV K Q)
  refine r_iload_n (pc := 111) dX4_copyFrom_111 rfl ?_
  refine r_aload_n (pc := 112) dX4_copyFrom_112 rfl ?_
  refine s_getI (pc := 113) dX4_copyFrom_113 fl_X4_24 rfl k_b0 ?_
  refine r_icmp_ge (pc := 116) (tgt := 140) dX4_copyFrom_116 (by decide) (fun q => ?_) (fun q => ?_)
  · have K0 := K0.1 q
    exact s_ret rfl dX4_copyFrom_140 K0
  · have K0 := K0.2 q
    refine r_aload_n (pc := 119) dX4_copyFrom_119 rfl ?_
    refine s_getR (pc := 120) dX4_copyFrom_120 fl_X4_42 rfl k_b0 g_b0_8 ?_
    refine r_iload_n (pc := 123) dX4_copyFrom_123 rfl ?_
    obtain ⟨i_2, K0⟩ := K0
    obtain ⟨c_3, g_4, K0⟩ := K0
    refine s_aald (pc := 124) dX4_copyFrom_124 (by decide) rfl k_b0_8 i_2 g_4 ?_
    refine r_aload_n (pc := 125) dX4_copyFrom_125 rfl ?_
    refine s_getR (pc := 126) dX4_copyFrom_126 fl_X4_42 rfl k_b1 g_b1_8 ?_
    refine r_iload_n (pc := 129) dX4_copyFrom_129 rfl ?_
    obtain ⟨i_5, K0⟩ := K0
    obtain ⟨c_6, g_7, K0⟩ := K0
    refine s_aald (pc := 130) dX4_copyFrom_130 (by decide) rfl k_b1_8 i_5 g_7 ?_
    obtain ⟨e_8, K0⟩ := K0
    refine s_VV (pc := 131) mX0_copyFrom (ci := 0) (a := c_3) (As := [.ref c_6]) dX4_copyFrom_131 lk_X4_55 in_X0_copyFrom mo_X0_copyFrom ⟨by decide, rfl⟩ ⟨by decide, by decide⟩ (Nat.le_of_ble_eq_true rfl) e_8 (mSV_mono K0 (fun y_9 K0 => ?_))
    refine r_iinc (pc := 134) (v := l2 + 1) dX4_copyFrom_134 rfl rfl (by decide) ?_
    refine r_goto (pc := 137) (L := [some (.ref b0), some (.ref b1), some (.int (l2 + 1))]) (tgt := 111) dX4_copyFrom_137 (by decide) ?_
    exact r_le (L' := [some (.ref b0), some (.ref b1), some (.int (l2 + 1))]) ⟨rfl, ⟨rfl, ⟨rfl, trivial⟩⟩⟩ K0
section
theorem sp_X4_copyFrom {x : Cn} {Q : Cn → Prop} {q p : Nat} {T : TT} {W C S A N : Nat} (hq : Isea q) (r : SRf x q) (E : SEA x p T W C S A N) (hne : p ≠ q) (k : ∀ y, Frq x y q → SEA y q T W C S A N → Q y) : mSV mX4_copyFrom [.ref q, .ref p] KW x Q := by
  have ds := Isea.dis E.1 hq hne
  obtain ⟨v0, v1, v2, v3, v4, v5, v6, v7⟩ := E.2.2.1
  have wf := E.2.2.2
  have hS : S ≤ 24 := wf.2.2.2.2.2.2.1
  have hA : A ≤ 24 := wf.2.2.2.2.2.2.2.2.1
  have hn := E.nums
  obtain ⟨r1, r2, r3, r4, r5, r6, r7, r8, r9⟩ := id r
  have l3 : ∀ n a y, a + n = A → Frq x y q → Hd y q T → Lim y q T 24 → Sln y q T S → Aln y q T a → GV mX4_copyFrom 111 [some (.ref q), some (.ref p), some (.int (nI a))] [] KW y Q := by
    intro n
    induction n with
    | zero =>
      intro a y ha f d l sl al
      have : a = A := by omega
      subst this
      refine v_X4_copyFrom_111 (ks0 hq) (by rw [f.rr]; exact r4) (ks4 hq) (ks0 E.1) (by rw [f.rr]; exact E.2.1.2.2.2.1) (ks4 E.1) ⟨fun _ => ?_, fun z => absurd (by rw [d.2.2.2.2, wf.2.2.2.2.2.2.2.1]; exact Int32.le_refl _) z⟩
      exact k y f ⟨hq, r.keep f.1, ⟨d.1, d.2.1, d.2.2.1, d.2.2.2.1, d.2.2.2.2, l, sl, al⟩, wf⟩
    | succ n ih =>
      intro a y ha f d l sl al
      obtain ⟨j, hj, ej⟩ := r8 a (by omega)
      obtain ⟨p2, e1, e2, e3, e4⟩ := E.ask (s := a) (by omega)
      obtain ⟨j2, hj2, ej2⟩ := E.2.1.2.2.2.2.2.2.2.1 a (by omega)
      have ep2 : p2 = p + 30 + j2 := Option.some.inj (e1.symm.trans ej2)
      refine v_X4_copyFrom_111 (ks0 hq) (by rw [f.rr]; exact r4) (ks4 hq) (ks0 E.1) (by rw [f.rr]; exact E.2.1.2.2.2.1) (ks4 E.1) ⟨fun z => absurd (by rw [d.2.2.2.2, wf.2.2.2.2.2.2.2.1] at z; exact z) (nI_ge (by omega) (by omega)), fun _ => ⟨vp_in_nI (by omega) (by decide), q + 30 + j, by rw [f.rr, nI_clamp (by omega)]; exact ej, vp_in_nI (by omega) (by decide), p2, by rw [f.rr, nI_clamp (by omega)]; exact e1, ks30 hq hj, ?_⟩⟩
      refine sp_X0_copyFrom (ks30 hq hj) e2 (by omega) (fun z hz hc => ?_)
      rw [nI_1]
      have hz0 : ∀ b k, b ≠ q + 30 + j → gi z b k = gi y b k := hz.2
      refine ih (a + 1) z (by omega) (f.eqx hz (by omega)) ?_ ?_ ?_ ?_
      · unfold Hd at d ⊢
        rw [hz0 q 0 (by omega), hz0 q 1 (by omega), hz0 q 2 (by omega), hz0 q 3 (by omega), hz0 q 4 (by omega)]
        exact d
      · intro h hh
        rw [hz0 (q + 1) h (by omega), hz0 (q + 2) h (by omega)]
        exact l h hh
      · intro s ps hs hps
        have hps2 : gr x (q + 3) s = some ps := by rw [← f.rr]; unfold gr at hps ⊢; rw [← hz.1]; exact hps
        obtain ⟨j3, hj3, ej3⟩ := r6 s (by omega)
        have eps : ps = q + 6 + j3 := Option.some.inj (hps2.symm.trans ej3)
        exact (sl s ps hs (by rw [f.rr]; exact hps2)).cg (fun k _ => hz0 ps k (by omega)) (fun _ _ => rfl)
      · intro s ps hs hps
        have hps2 : gr x (q + 4) s = some ps := by rw [← f.rr]; unfold gr at hps ⊢; rw [← hz.1]; exact hps
        by_cases c : s = a
        · subst c
          have eps : ps = q + 30 + j := Option.some.inj (hps2.symm.trans ej)
          subst eps
          intro k hk
          rw [hc k hk, f.2 p2 k (by omega)]
          exact e3 k hk
        · have eps : ps ≠ q + 30 + j := fun e => c (r9 s a (by omega) (by omega) (by rw [hps2, ej, e]))
          exact (al s ps (by omega) (by rw [f.rr]; exact hps2)).cg (fun k _ => hz0 ps k eps) (fun _ _ => rfl)
  have l2 : ∀ n s y, s + n = S → Frq x y q → Hd y q T → Lim y q T 24 → Sln y q T s → GV mX4_copyFrom 80 [some (.ref q), some (.ref p), some (.int (nI s))] [] KW y Q := by
    intro n
    induction n with
    | zero =>
      intro s y hs f d l sl
      have : s = S := by omega
      subst this
      refine v_X4_copyFrom_80 (ks0 hq) (by rw [f.rr]; exact r3) (ks3 hq) (ks0 E.1) (by rw [f.rr]; exact E.2.1.2.2.1) (ks3 E.1) ⟨fun _ => ?_, fun z => absurd (by rw [d.2.2.2.1, wf.2.2.2.2.2.1]; exact Int32.le_refl _) z⟩
      exact l3 A 0 y (by omega) f d l sl (fun s p hs _ => absurd hs (by omega))
    | succ n ih =>
      intro a y ha f d l sl
      obtain ⟨j, hj, ej⟩ := r6 a (by omega)
      obtain ⟨p2, e1, e2, e3, e4, -, e6⟩ := E.ser (s := a) (by omega)
      obtain ⟨j2, hj2, ej2⟩ := E.2.1.2.2.2.2.2.1 a (by omega)
      have ep2 : p2 = p + 6 + j2 := Option.some.inj (e1.symm.trans ej2)
      refine v_X4_copyFrom_80 (ks0 hq) (by rw [f.rr]; exact r3) (ks3 hq) (ks0 E.1) (by rw [f.rr]; exact E.2.1.2.2.1) (ks3 E.1) ⟨fun z => absurd (by rw [d.2.2.2.1, wf.2.2.2.2.2.1] at z; exact z) (nI_ge (by omega) (by omega)), fun _ => ⟨vp_in_nI (by omega) (by decide), q + 6 + j, by rw [f.rr, nI_clamp (by omega)]; exact ej, vp_in_nI (by omega) (by decide), p2, by rw [f.rr, nI_clamp (by omega)]; exact e1, ks6 hq hj, ?_⟩⟩
      refine sp_X5_copyFrom (ks6 hq hj) e2 (by omega) ?_ (fun z hz hc => ?_)
      · rw [f.2 p2 4 (by omega), e3.1 4 (by decide) (by decide)]
        exact e6.2.2.2.2.1
      rw [nI_1]
      have hz0 : ∀ b k, b ≠ q + 6 + j → gi z b k = gi y b k := hz.2
      refine ih (a + 1) z (by omega) (f.eqx hz (by omega)) ?_ ?_ ?_
      · unfold Hd at d ⊢
        rw [hz0 q 0 (by omega), hz0 q 1 (by omega), hz0 q 2 (by omega), hz0 q 3 (by omega), hz0 q 4 (by omega)]
        exact d
      · intro h hh
        rw [hz0 (q + 1) h (by omega), hz0 (q + 2) h (by omega)]
        exact l h hh
      · intro s ps hs hps
        have hps2 : gr x (q + 3) s = some ps := by rw [← f.rr]; unfold gr at hps ⊢; rw [← hz.1]; exact hps
        by_cases c : s = a
        · subst c
          have eps : ps = q + 6 + j := Option.some.inj (hps2.symm.trans ej)
          subst eps
          refine ⟨fun k hk h7 => ?_, ?_⟩
          · rw [hc k hk, f.2 p2 k (by omega)]
            exact e3.1 k hk h7
          · rw [hc 7 (by decide), f.2 p2 7 (by omega)]
            exact e3.2
        · have eps : ps ≠ q + 6 + j := fun e => c (r7 s a (by omega) (by omega) (by rw [hps2, ej, e]))
          exact (sl s ps (by omega) (by rw [f.rr]; exact hps2)).cg (fun k _ => hz0 ps k eps) (fun _ _ => rfl)
  have l1 : ∀ n h y, h + n = 24 → Frq x y q → Hd y q T → Lim y q T h → GV mX4_copyFrom 42 [some (.ref q), some (.ref p), some (.int (nI h))] [] KW y Q := by
    intro n
    induction n with
    | zero =>
      intro h y hh f d l
      have : h = 24 := by omega
      subst this
      refine v_X4_copyFrom_42 (ks0 hq) (by rw [f.rr]; exact r1) (ks0 E.1) (by rw [f.rr]; exact E.2.1.1) (ks1 E.1) (ks1 hq) (by rw [f.rr]; exact r2) (by rw [f.rr]; exact E.2.1.2.1) (ks2 E.1) (ks2 hq) ⟨fun _ => ?_, fun z => absurd (Int32.le_refl _) z⟩
      exact l2 S 0 y (by omega) f d l (fun s p hs _ => absurd hs (by omega))
    | succ n ih =>
      intro h y hh f d l
      refine v_X4_copyFrom_42 (ks0 hq) (by rw [f.rr]; exact r1) (ks0 E.1) (by rw [f.rr]; exact E.2.1.1) (ks1 E.1) (ks1 hq) (by rw [f.rr]; exact r2) (by rw [f.rr]; exact E.2.1.2.1) (ks2 E.1) (ks2 hq) ⟨fun z => absurd z (nI_ge (b := 24) (by omega) (by decide)), fun _ => ⟨vp_in_nI (by omega) (by decide), vp_in_nI (by omega) (by decide), vp_in_nI (by omega) (by decide), vp_in_nI (by omega) (by decide), ?_⟩⟩
      rw [nI_1, nI_clamp (show h < 2 ^ 31 by omega)]
      have eo : ∀ b j, b ≠ q + 1 → b ≠ q + 2 → gi (ui (ui y (q + 1) h (gi y (p + 1) h)) (q + 2) h (gi (ui y (q + 1) h (gi y (p + 1) h)) (p + 2) h)) b j = gi y b j := fun b j c1 c2 => by rw [gi_ui, if_neg (fun z => c2 z.1), gi_ui, if_neg (fun z => c1 z.1)]
      refine ih (h + 1) _ (by omega) ((f.ui (by omega)).ui (by omega)) ?_ ?_
      · unfold Hd at d ⊢
        rw [eo q 0 (by omega) (by omega), eo q 1 (by omega) (by omega), eo q 2 (by omega) (by omega), eo q 3 (by omega) (by omega), eo q 4 (by omega) (by omega)]
        exact d
      · intro i hi
        rw [gi_ui, gi_ui, if_neg (show ¬ (q + 1 = q + 2 ∧ i = h) by omega), gi_ui, gi_ui]
        by_cases c : i = h
        · subst c
          rw [if_pos ⟨rfl, rfl⟩, if_pos ⟨rfl, rfl⟩, if_neg (by omega), f.2 (p + 1) i (by omega), f.2 (p + 2) i (by omega)]
          exact v5 i (by omega)
        · rw [if_neg (fun z => c z.2), if_neg (fun z => c z.2), gi_ui, if_neg (fun z => c z.2)]
          exact l i (by omega)
  refine v_X4_copyFrom_0 (ks0 E.1) (ks0 hq) ?_
  intro a1 e1 a2 e2 a3 e3
  have np : ¬ p = q := hne
  simp only [gi_ui, np, false_and, if_false] at e1 e2 e3
  refine l1 24 0 _ (by omega) (((((Frq.rf x q).ui (by omega)).ui (by omega)).ui (by omega)).ui (by omega) |>.ui (by omega)) ?_ (fun h hh => absurd hh (by omega))
  unfold Hd
  simp [gi_ui, np, e1, e2, e3, v0, v1, v2, v3, v4]

end
end
/-! 45.past.lean.txt -/
section
theorem sub518 (v : Nat) : nI (v + 518) - 518 = nI v := by
  have := pk_sub (a := v + 518) (b := 518) (by omega)
  rw [show v + 518 - 518 = v from Nat.add_sub_cancel v 518] at this
  exact this
/-- the landed one's past -/
def Hs (x : Cn) (C : Nat) (T : TT) (n : Nat) (H : Nat → TT) : Prop := gi x 0 5 = nI n ∧ n ≤ 10 ∧ ∀ j, j < n → ∃ q W S A N, gr x 58 j = some q ∧ SEA x q (H j) W C S A N ∧ ∀ c, c < C → H j (54 + c) = T (54 + c)
def push (H : Nat → TT) (n : Nat) (T : TT) : Nat → TT := fun j => if n = 10 then (if j = 9 then T else H (j + 1)) else (if j = n then T else H j)
def pn (n : Nat) : Nat := if n = 10 then 10 else n + 1
theorem HSr.hs {x : Cn} {T : TT} {C : Nat} (h : HSr x T C) : ∃ n, Hs x C T n (fun j i => gi x 724 (518 * j + i)) ∧ gi x 717 19 = nI n := by
  obtain ⟨n, n1, n2, n3, n4⟩ := h
  exact ⟨n, ⟨n3, n1, n4⟩, n2⟩
theorem CRf.past {x : Cn} (h : CRf x) : (∀ j, j < 10 → SRf x (177 + 54 * j)) ∧ (∀ i, i < 10 → ∃ j, j < 10 ∧ gr x 58 i = some (177 + 54 * j)) ∧ ∀ i j, i < 10 → j < 10 → gr x 58 i = gr x 58 j → i = j := h.2.2.2.2.2.2.2.2.2.2.2.2.2.2.2.2.2.2.2
/-- references change in the row of the past alone -/
theorem CRf.k58 {x y : Cn} (h : CRf x) (e : ∀ a k, a ≠ 58 → gr y a k = gr x a k) (h1 : ∀ i, i < 10 → ∃ j, j < 10 ∧ gr y 58 i = some (177 + 54 * j)) (h2 : ∀ i j, i < 10 → j < 10 → gr y 58 i = gr y 58 j → i = j) : CRf y := by
  have sr : ∀ q, Isea q → SRf x q → SRf y q := by
    intro q hq g
    have hl := hq.lt
    have c : q ≠ 58 ∧ q + 3 ≠ 58 ∧ q + 4 ≠ 58 := by
      rcases hq with rfl | rfl | rfl | ⟨i, hi, rfl⟩ <;> omega
    unfold SRf at g ⊢
    simp only [e q _ c.1, e (q + 3) _ c.2.1, e (q + 4) _ c.2.2]
    exact g
  obtain ⟨a1, a2, a3, a4, a5, a6, a7, a8, a9, a10, a11, a12, a13, a14, a15, a16, a17, a18, a19, a20, -, -⟩ := h
  refine ⟨?_, ?_, ?_, ?_, ?_, ?_, ?_, ?_, ?_, ?_, ?_, ?_, ?_, ?_, ?_, ?_, ?_, sr 60 (by unfold Isea; omega) a18, sr 118 (by unfold Isea; omega) a19, fun j hj => sr _ (Or.inr (Or.inr (Or.inr ⟨j, hj, rfl⟩))) (a20 j hj), h1, h2⟩
  all_goals simp only [e _ _ (show (0 : Nat) ≠ 58 by decide), e _ _ (show (56 : Nat) ≠ 58 by decide), e _ _ (show (59 : Nat) ≠ 58 by decide), e _ _ (show (114 : Nat) ≠ 58 by decide), e _ _ (show (117 : Nat) ≠ 58 by decide), e _ _ (show (175 : Nat) ≠ 58 by decide)]
  all_goals assumption
theorem Hs.mv {x y : Cn} {C n : Nat} {T T' : TT} {H : Nat → TT} (h : Hs x C T n H) (c : CRf x) (h5 : gi y 0 5 = gi x 0 5) (h1 : ∀ a k, 177 ≤ a → a < 717 → gi y a k = gi x a k) (h2 : ∀ a k, a = 58 ∨ (177 ≤ a ∧ a < 717) → gr y a k = gr x a k) (hT : ∀ c, c < C → T' (54 + c) = T (54 + c)) : Hs y C T' n H := by
  obtain ⟨g1, g2, g3⟩ := h
  refine ⟨h5.trans g1, g2, fun j hj => ?_⟩
  obtain ⟨q, W, S, A, N, q1, q2, q3⟩ := g3 j hj
  obtain ⟨i, hi, ei⟩ := c.past.2.1 j (by omega)
  have hq : q = 177 + 54 * i := Option.some.inj (q1.symm.trans ei)
  refine ⟨q, W, S, A, N, by rw [h2 58 j (Or.inl rfl)]; exact q1, q2.mv (fun a k z1 z2 => h2 a k (Or.inr (by omega))) (fun a k z1 z2 _ => h1 a k (by omega) (by omega)) (fun _ _ => rfl), fun c hc => by rw [hT c hc]; exact q3 c hc⟩
/-- ints and references that an act of the landed one may not touch -/
def CFr (x y : Cn) : Prop := ∀ a k, ¬ (2 ≤ a ∧ a < 56) → ¬ (59 ≤ a ∧ a < 175) → ¬ (177 ≤ a ∧ a < 717) → ¬ (a = 0 ∧ k = 5) → gi y a k = gi x a k
theorem CFr.rf (x : Cn) : CFr x x := fun _ _ _ _ _ _ => rfl
theorem CFr.tr {x y z : Cn} (h : CFr x y) (g : CFr y z) : CFr x z := fun a k a1 a2 a3 a4 => (g a k a1 a2 a3 a4).trans (h a k a1 a2 a3 a4)
/-- the same of the reference -/
def RFr (x y : Cn) : Prop := y.2 = x.2 ∧ ∀ a k, a ≠ 718 → a ≠ 719 → a ≠ 721 → a ≠ 722 → a ≠ 723 → a ≠ 724 → ¬ (a = 717 ∧ (k = 6 ∨ k = 7 ∨ k = 8 ∨ k = 9 ∨ k = 10 ∨ k = 13 ∨ k = 14 ∨ k = 18 ∨ k = 19)) → gi y a k = gi x a k
theorem RFr.rf (x : Cn) : RFr x x := ⟨rfl, fun _ _ _ _ _ _ _ _ _ => rfl⟩
theorem RFr.tr {x y z : Cn} (h : RFr x y) (g : RFr y z) : RFr x z := ⟨g.1.trans h.1, fun a k a1 a2 a3 a4 a5 a6 a7 => (g.2 a k a1 a2 a3 a4 a5 a6 a7).trans (h.2 a k a1 a2 a3 a4 a5 a6 a7)⟩
theorem RFr.u8 {x y : Cn} {k : Nat} {v : Int32} (h : RFr x y) : RFr x (ui y 718 k v) := ⟨h.1, fun a j a1 a2 a3 a4 a5 a6 a7 => by rw [gi_ui, if_neg (fun z => a1 z.1)]; exact h.2 a j a1 a2 a3 a4 a5 a6 a7⟩
theorem Rel.fin {x y z : Cn} {W C S A N n : Nat} {T' : TT} {H : Nat → TT} (R : Rel x) (nm : NMr x 56 (gi x 718) C) (f1 : CFr x y) (c : CRf y) (h : Hs y C (gi x 718) n H) (E : SEA y 2 T' W C S A N) (hN : ∀ c, c < C → T' (54 + c) = gi x 718 (54 + c)) (m : MRf y 718) (f2 : RFr y z) (h19 : gi z 717 19 = nI n) (h724 : ∀ j, j < n → ∀ i, i < 518 → gi z 724 (518 * j + i) = H j i) (hT : ∀ i, i < 518 → gi z 718 i = T' i) : Rel z := by
  obtain ⟨r1, r2, r3, r4, r5, -⟩ := R
  have hg : ∀ b k, gr z b k = gr y b k := fun b k => by unfold gr; rw [f2.1]
  have lo : ∀ a k, a < 717 → gi z a k = gi y a k := fun a k h => f2.2 a k (by omega) (by omega) (by omega) (by omega) (by omega) (by omega) (by omega)
  have hC : C ≤ 8 := E.2.2.2.2.2.2.2.1
  have e0 : ∀ a k, (a = 0 ∧ k ≠ 5) ∨ a = 1 ∨ a = 56 ∨ a = 57 ∨ a = 175 ∨ a = 176 → gi z a k = gi x a k := fun a k h => (lo a k (by omega)).trans (f1 a k (by omega) (by omega) (by omega) (by omega))
  have e7 : ∀ a k, (a = 717 ∧ (k = 5 ∨ k = 11 ∨ k = 12 ∨ k = 22)) ∨ a = 720 ∨ a = 725 → gi z a k = gi x a k := fun a k h => (f2.2 a k (by omega) (by omega) (by omega) (by omega) (by omega) (by omega) (by omega)).trans (f1 a k (by omega) (by omega) (by omega) (by omega))
  have hTz : ∀ c, c < C → gi z 718 (54 + c) = gi x 718 (54 + c) := fun c hc => (hT _ (by omega)).trans (hN c hc)
  refine ⟨c.keep f2.1, m.keep f2.1, ?_, ?_, ?_, W, C, S, A, N, ?_, ?_, n, h.2.1, h19, ?_, fun j hj => ?_⟩
  · exact r3
  · exact r4.keep (e0 _ _ (by omega)) (e7 _ _ (by omega)) (fun i => e0 _ _ (by omega)) (fun i => e7 _ _ (by omega))
  · exact r5.keep (e0 _ _ (by omega)) (e7 _ _ (by omega)) (fun i => e0 _ _ (by omega)) (fun i => e7 _ _ (by omega))
  · exact E.mv (fun a k _ _ => hg a k) (fun a k z1 z2 _ => lo a k (by omega)) hT
  · exact nm.keep (e0 _ _ (by omega)) (fun i => e0 _ _ (by omega)) hTz
  · exact (lo 0 5 (by omega)).trans h.1
  · obtain ⟨q, W2, S2, A2, N2, q1, q2, q3⟩ := h.2.2 j hj
    have hl := q2.1.lt
    exact ⟨q, W2, S2, A2, N2, by rw [hg]; exact q1, q2.mv (fun a k _ _ => hg a k) (fun a k z1 z2 _ => lo a k (by omega)) (fun i hi => h724 j hj i hi), fun c hc => by rw [h724 j hj _ (by omega), q3 c hc, hTz c hc]⟩
set_option maxHeartbeats 2000000 in
theorem v_X7_remember_0 {K : Sh} {x : Cn} {Q : Cn → Prop} {b0 : Nat} {b0_4 : Nat} {n_b0_4 : Nat} {b0_2 : Nat} (k_b0 : kk K b0 = some (7, 0)) (g_b0_4 : gr x b0 4 = some b0_4) (k_b0_4 : kk K b0_4 = some (22, n_b0_4)) (g_b0_2 : gr x b0 2 = some b0_2) (K0 : (¬ (gi x b0 5) = 10 → (vp_in (gi x b0 5) n_b0_4 ∧ (∃ c_3 : Nat, gr x b0_4 (((gi x b0 5) : Int32).toNatClampNeg) = some c_3 ∧ (kk K c_3 = some (4, 0) ∧ (mSV mX4_copyFrom [.ref c_3, .ref b0_2] K x (fun y_6 => Q (ui y_6 b0 5 ((gi y_6 b0 5) + 1)))))))) ∧ ((gi x b0 5) = 10 → (vp_in 0 n_b0_4 ∧ (∃ c_8 : Nat, gr x b0_4 ((0 : Int32).toNatClampNeg) = some c_8 ∧ (GV mX7_remember 18 [some (.ref b0), some (.ref c_8), some (.int 1)] [] K x Q))))) : mSV mX7_remember [.ref b0] K x Q := by
  refine s_V (by decide) (by simp [Value.category]) (Nat.le_of_ble_eq_true rfl) ?_
  show mGM mX7_remember 0 [some (.ref b0), none, none] [] (hp K x) (PV K Q)
  refine r_aload_n (pc := 0) dX7_remember_0 rfl ?_
  refine s_getI (pc := 1) dX7_remember_1 fl_X7_35 rfl k_b0 ?_
  refine r_bipush (pc := 4) (v := 10) dX7_remember_4 (by decide) ?_
  refine r_icmp_ne (pc := 6) (tgt := 62) dX7_remember_6 (by decide) (fun q => ?_) (fun q => ?_)
  · have K0 := K0.1 q
    refine r_aload_n (pc := 62) dX7_remember_62 rfl ?_
    refine s_getR (pc := 63) dX7_remember_63 fl_X7_31 rfl k_b0 g_b0_4 ?_
    refine r_aload_n (pc := 66) dX7_remember_66 rfl ?_
    refine s_getI (pc := 67) dX7_remember_67 fl_X7_35 rfl k_b0 ?_
    obtain ⟨i_2, K0⟩ := K0
    obtain ⟨c_3, g_4, K0⟩ := K0
    refine s_aald (pc := 70) dX7_remember_70 (by decide) rfl k_b0_4 i_2 g_4 ?_
    refine r_aload_n (pc := 71) dX7_remember_71 rfl ?_
    refine s_getR (pc := 72) dX7_remember_72 fl_X7_20 rfl k_b0 g_b0_2 ?_
    obtain ⟨e_5, K0⟩ := K0
    refine s_VV (pc := 75) mX4_copyFrom (ci := 4) (a := c_3) (As := [.ref b0_2]) dX7_remember_75 lk_X7_80 in_X4_copyFrom mo_X4_copyFrom ⟨by decide, rfl⟩ ⟨by decide, by decide⟩ (Nat.le_of_ble_eq_true rfl) e_5 (mSV_mono K0 (fun y_6 K0 => ?_))
    refine r_aload_n (pc := 78) dX7_remember_78 rfl ?_
    refine r_dup (pc := 79) dX7_remember_79 rfl ?_
    refine s_getI (pc := 80) dX7_remember_80 fl_X7_35 rfl k_b0 ?_
    refine r_iconst (pc := 83) (v := 1) dX7_remember_83 (by decide) ?_
    refine r_iadd (pc := 84) dX7_remember_84 ?_
    refine s_putI (pc := 85) dX7_remember_85 fl_X7_35 rfl rfl k_b0 ?_
    exact s_ret rfl dX7_remember_88 K0
  · have K0 := K0.2 q
    refine r_aload_n (pc := 9) dX7_remember_9 rfl ?_
    refine s_getR (pc := 10) dX7_remember_10 fl_X7_31 rfl k_b0 g_b0_4 ?_
    refine r_iconst (pc := 13) (v := 0) dX7_remember_13 (by decide) ?_
    obtain ⟨i_7, K0⟩ := K0
    obtain ⟨c_8, g_9, K0⟩ := K0
    refine s_aald (pc := 14) dX7_remember_14 (by decide) rfl k_b0_4 i_7 g_9 ?_
    refine r_astore_n (pc := 15) dX7_remember_15 (by decide) ?_
    refine r_iconst (pc := 16) (L := [some (.ref b0), some (.ref c_8), none]) (v := 1) dX7_remember_16 (by decide) ?_
    refine r_istore_n (pc := 17) dX7_remember_17 (by decide) ?_
    exact r_le (L' := [some (.ref b0), some (.ref c_8), some (.int 1)]) ⟨rfl, ⟨rfl, ⟨rfl, trivial⟩⟩⟩ K0
set_option maxHeartbeats 2000000 in
theorem v_X7_remember_18 {K : Sh} {x : Cn} {Q : Cn → Prop} {b0 : Nat} {b1 : Nat} {l2 : Int32} {b0_4 : Nat} {n_b0_4 : Nat} (k_b0 : kk K b0 = some (7, 0)) (g_b0_4 : gr x b0 4 = some b0_4) (k_b0_4 : kk K b0_4 = some (22, n_b0_4)) (k_b1 : kk K b1 = some (4, 0)) (K0 : (10 ≤ l2 → (vp_in 9 n_b0_4 ∧ (∀ r_3 : Int32, r_3 = gi (ur x b0_4 (9 : Int32).toNatClampNeg (some b1)) b0 5 → (gr (ur x b0_4 (9 : Int32).toNatClampNeg (some b1)) b0 4 = some b0_4 ∧ (∀ r_6 : Int32, r_6 = gi (ui (ur x b0_4 (9 : Int32).toNatClampNeg (some b1)) b0 5 (r_3 - 1)) b0 5 → (vp_in r_6 n_b0_4 ∧ (∃ c_9 : Nat, gr (ur x b0_4 (9 : Int32).toNatClampNeg (some b1)) b0_4 ((r_6 : Int32).toNatClampNeg) = some c_9 ∧ (∃ c_11 : Nat, gr (ur x b0_4 (9 : Int32).toNatClampNeg (some b1)) b0 2 = some c_11 ∧ (kk K c_9 = some (4, 0) ∧ (mSV mX4_copyFrom [.ref c_9, .ref c_11] K (ui (ur x b0_4 (9 : Int32).toNatClampNeg (some b1)) b0 5 (r_3 - 1)) (fun y_14 => Q (ui y_14 b0 5 ((gi y_14 b0 5) + 1))))))))))))) ∧ (¬ 10 ≤ l2 → (vp_in l2 n_b0_4 ∧ (∃ c_16 : Nat, gr x b0_4 ((l2 : Int32).toNatClampNeg) = some c_16 ∧ (kk K c_16 = some (4, 0) ∧ (vp_in (l2 - 1) n_b0_4 ∧ (GV mX7_remember 18 [some (.ref b0), some (.ref b1), some (.int (l2 + 1))] [] K (ur x b0_4 ((l2 - 1) : Int32).toNatClampNeg (some c_16)) Q))))))) : GV mX7_remember 18 [some (.ref b0), some (.ref b1), some (.int l2)] [] K x Q := by
  show mGM mX7_remember 18 [some (.ref b0), some (.ref b1), some (.int l2)] [] (hp K x) (PV K Q)
  refine r_iload_n (pc := 18) dX7_remember_18 rfl ?_
  refine r_bipush (pc := 19) (v := 10) dX7_remember_19 (by decide) ?_
  refine r_icmp_ge (pc := 21) (tgt := 44) dX7_remember_21 (by decide) (fun q => ?_) (fun q => ?_)
  · have K0 := K0.1 q
    refine r_aload_n (pc := 44) dX7_remember_44 rfl ?_
    refine s_getR (pc := 45) dX7_remember_45 fl_X7_31 rfl k_b0 g_b0_4 ?_
    refine r_bipush (pc := 48) (v := 9) dX7_remember_48 (by decide) ?_
    refine r_aload_n (pc := 50) dX7_remember_50 rfl ?_
    obtain ⟨i_2, K0⟩ := K0
    refine s_aast (pc := 51) dX7_remember_51 (by decide) (by decide) rfl k_b0_4 k_b1 i_2 ?_
    refine r_aload_n (pc := 52) dX7_remember_52 rfl ?_
    refine r_dup (pc := 53) dX7_remember_53 rfl ?_
    refine s_getI (pc := 54) dX7_remember_54 fl_X7_35 rfl k_b0 ?_
    obtain ⟨r_3, w_4⟩ : ∃ z : Int32, z = gi (ur x b0_4 (9 : Int32).toNatClampNeg (some b1)) b0 5 := ⟨_, rfl⟩
    rw [← w_4]
    have K0 := K0 r_3 w_4
    refine r_iconst (pc := 57) (v := 1) dX7_remember_57 (by decide) ?_
    refine r_isub (pc := 58) dX7_remember_58 ?_
    refine s_putI (pc := 59) dX7_remember_59 fl_X7_35 rfl rfl k_b0 ?_
    refine r_aload_n (pc := 62) dX7_remember_62 rfl ?_
    obtain ⟨g_5, K0⟩ := K0
    refine s_getR (pc := 63) dX7_remember_63 fl_X7_31 rfl k_b0 g_5 ?_
    refine r_aload_n (pc := 66) dX7_remember_66 rfl ?_
    refine s_getI (pc := 67) dX7_remember_67 fl_X7_35 rfl k_b0 ?_
    obtain ⟨r_6, w_7⟩ : ∃ z : Int32, z = gi (ui (ur x b0_4 (9 : Int32).toNatClampNeg (some b1)) b0 5 (r_3 - 1)) b0 5 := ⟨_, rfl⟩
    rw [← w_7]
    have K0 := K0 r_6 w_7
    obtain ⟨i_8, K0⟩ := K0
    obtain ⟨c_9, g_10, K0⟩ := K0
    refine s_aald (pc := 70) dX7_remember_70 (by decide) rfl k_b0_4 i_8 g_10 ?_
    refine r_aload_n (pc := 71) dX7_remember_71 rfl ?_
    obtain ⟨c_11, g_12, K0⟩ := K0
    refine s_getR (pc := 72) dX7_remember_72 fl_X7_20 rfl k_b0 g_12 ?_
    obtain ⟨e_13, K0⟩ := K0
    refine s_VV (pc := 75) mX4_copyFrom (ci := 4) (a := c_9) (As := [.ref c_11]) dX7_remember_75 lk_X7_80 in_X4_copyFrom mo_X4_copyFrom ⟨by decide, rfl⟩ ⟨by decide, by decide⟩ (Nat.le_of_ble_eq_true rfl) e_13 (mSV_mono K0 (fun y_14 K0 => ?_))
    refine r_aload_n (pc := 78) dX7_remember_78 rfl ?_
    refine r_dup (pc := 79) dX7_remember_79 rfl ?_
    refine s_getI (pc := 80) dX7_remember_80 fl_X7_35 rfl k_b0 ?_
    refine r_iconst (pc := 83) (v := 1) dX7_remember_83 (by decide) ?_
    refine r_iadd (pc := 84) dX7_remember_84 ?_
    refine s_putI (pc := 85) dX7_remember_85 fl_X7_35 rfl rfl k_b0 ?_
    exact s_ret rfl dX7_remember_88 K0
  · have K0 := K0.2 q
    refine r_aload_n (pc := 24) dX7_remember_24 rfl ?_
    refine s_getR (pc := 25) dX7_remember_25 fl_X7_31 rfl k_b0 g_b0_4 ?_
    refine r_iload_n (pc := 28) dX7_remember_28 rfl ?_
    refine r_iconst (pc := 29) (v := 1) dX7_remember_29 (by decide) ?_
    refine r_isub (pc := 30) dX7_remember_30 ?_
    refine r_aload_n (pc := 31) dX7_remember_31 rfl ?_
    refine s_getR (pc := 32) dX7_remember_32 fl_X7_31 rfl k_b0 g_b0_4 ?_
    refine r_iload_n (pc := 35) dX7_remember_35 rfl ?_
    obtain ⟨i_15, K0⟩ := K0
    obtain ⟨c_16, g_17, K0⟩ := K0
    refine s_aald (pc := 36) dX7_remember_36 (by decide) rfl k_b0_4 i_15 g_17 ?_
    obtain ⟨e_18, K0⟩ := K0
    obtain ⟨i_19, K0⟩ := K0
    refine s_aast (pc := 37) dX7_remember_37 (by decide) (by decide) rfl k_b0_4 e_18 i_19 ?_
    refine r_iinc (pc := 38) (v := l2 + 1) dX7_remember_38 rfl rfl (by decide) ?_
    refine r_goto (pc := 41) (L := [some (.ref b0), some (.ref b1), some (.int (l2 + 1))]) (tgt := 18) dX7_remember_41 (by decide) ?_
    exact r_le (L' := [some (.ref b0), some (.ref b1), some (.int (l2 + 1))]) ⟨rfl, ⟨rfl, ⟨rfl, trivial⟩⟩⟩ K0
section
theorem sp_X7_remember {x : Cn} {Q : Cn → Prop} {T : TT} {W C S A N n : Nat} {H : Nat → TT} (c : CRf x) (E : SEA x 2 T W C S A N) (h : Hs x C T n H) (k : ∀ y, CRf y → (∀ a j, ¬ (177 ≤ a ∧ a < 717) → ¬ (a = 0 ∧ j = 5) → gi y a j = gi x a j) → (∀ a j, a ≠ 58 → gr y a j = gr x a j) → Hs y C T (pn n) (push H n T) → Q y) : mSV mX7_remember [.ref 0] KW x Q := by
  obtain ⟨h1, h2, h3⟩ := h
  obtain ⟨p1, p2, p3⟩ := c.past
  have I2 : Isea 2 := Or.inl rfl
  refine v_X7_remember_0 k0 c.2.2.2.1 (show kk KW 58 = some (22, 10) by decide) c.2.1 ?_
  rw [h1, show (10 : Int32) = nI 10 by decide, nI_eq (by omega) (by decide)]
  refine ⟨fun z => ⟨vp_in_nI (by omega) (by decide), ?_⟩, fun z => ⟨v0 (k := 0) (by decide) rfl rfl, ?_⟩⟩
  · obtain ⟨i, hi, ei⟩ := p2 n (by omega)
    have Iq : Isea (177 + 54 * i) := Or.inr (Or.inr (Or.inr ⟨i, hi, rfl⟩))
    refine ⟨177 + 54 * i, by rw [nI_clamp (by omega)]; exact ei, ks0 Iq, ?_⟩
    refine sp_X4_copyFrom Iq (p1 i hi) E (by omega) (fun y f Ey => ?_)
    rw [f.2 0 5 (by omega), h1, nI_1]
    refine k _ (c.keep f.1) (fun a j a1 a2 => ?_) (fun a j _ => f.rr a j) ⟨?_, ?_, fun j hj => ?_⟩
    · rw [gi_ui, if_neg a2]
      exact f.2 a j (by omega)
    · unfold pn
      rw [if_neg z, gi_ui, if_pos ⟨rfl, rfl⟩]
    · unfold pn
      rw [if_neg z]
      omega
    · unfold pn at hj
      rw [if_neg z] at hj
      have ep : push H n T j = if j = n then T else H j := by unfold push; rw [if_neg z]
      rw [ep]
      have low : ∀ a k, 177 ≤ a → gi (ui y 0 5 (nI (n + 1))) a k = gi y a k := fun a k ha => by rw [gi_ui, if_neg (by omega)]
      by_cases cj : j = n
      · rw [if_pos cj, cj]
        exact ⟨177 + 54 * i, W, S, A, N, (f.rr 58 n).trans ei, Ey.mv (fun _ _ _ _ => rfl) (fun a k z1 _ _ => low a k (by omega)) (fun _ _ => rfl), fun _ _ => rfl⟩
      · rw [if_neg cj]
        obtain ⟨q, W2, S2, A2, N2, q1, q2, q3⟩ := h3 j (by omega)
        have hne : q ≠ 177 + 54 * i := fun e => cj (p3 j n (by omega) (by omega) (by rw [q1, ei, e]))
        obtain ⟨i2, hi2, ei2⟩ := p2 j (by omega)
        have hq2 : q = 177 + 54 * i2 := Option.some.inj (q1.symm.trans ei2)
        exact ⟨q, W2, S2, A2, N2, (f.rr 58 j).trans q1, (q2.off Iq hne f).mv (fun _ _ _ _ => rfl) (fun a k z1 _ _ => low a k (by omega)) (fun _ _ => rfl), q3⟩
  · subst z
    obtain ⟨i0, hi0, ei0⟩ := p2 0 (by omega)
    have Iq : Isea (177 + 54 * i0) := Or.inr (Or.inr (Or.inr ⟨i0, hi0, rfl⟩))
    refine ⟨177 + 54 * i0, ei0, ?_⟩
    have key : ∀ m i y, i + m = 10 → 1 ≤ i → y.1 = x.1 → (∀ a k, a ≠ 58 → gr y a k = gr x a k) → (∀ k, gr y 58 k = if k + 1 < i then gr x 58 (k + 1) else gr x 58 k) → GV mX7_remember 18 [some (.ref 0), some (.ref (177 + 54 * i0)), some (.int (nI i))] [] KW y Q := by
      intro m
      induction m with
      | zero =>
        intro i y hi hi1 g1 g2 g3
        have : i = 10 := by omega
        subst this
        have gi0 : ∀ a k, gi y a k = gi x a k := fun a k => by unfold gi; rw [g1]
        refine v_X7_remember_18 k0 (by rw [g2 0 4 (by decide)]; exact c.2.2.2.1) (show kk KW 58 = some (22, 10) by decide) (ks0 Iq) ⟨fun _ => ⟨v0 (k := 9) (by decide) rfl rfl, ?_⟩, fun z => absurd (Int32.le_refl _) z⟩
        intro r3 e3
        have e3' : r3 = nI 10 := by rw [e3, gi_ur, gi0]; exact h1
        refine ⟨by rw [gr_ur, if_neg (by omega), g2 0 4 (by decide)]; exact c.2.2.2.1, ?_⟩
        intro r6 e6
        have e6' : r6 = nI 9 := by rw [e6, gi_ui, if_pos ⟨rfl, rfl⟩, e3']; exact nI_pred 9
        rw [e6', e3', show (nI 10 - 1 : Int32) = nI 9 from nI_pred 9, show (nI 9).toNatClampNeg = 9 by decide, show ((9 : Int32)).toNatClampNeg = 9 by decide]
        have gn : ∀ k, gr (ur y 58 9 (some (177 + 54 * i0))) 58 k = if k = 9 then some (177 + 54 * i0) else if k < 9 then gr x 58 (k + 1) else gr x 58 k := by
          intro k
          rw [gr_ur]
          by_cases c9 : k = 9
          · rw [if_pos ⟨rfl, c9⟩, if_pos c9]
          · rw [if_neg (fun u => c9 u.2), if_neg c9, g3]
            by_cases c8 : k < 9
            · rw [if_pos (by omega), if_pos c8]
            · rw [if_neg (by omega), if_neg c8]
        have go : ∀ a k, a ≠ 58 → gr (ur y 58 9 (some (177 + 54 * i0))) a k = gr x a k := fun a k ha => by rw [gr_ur, if_neg (fun u => ha u.1)]; exact g2 a k ha
        have cw : CRf (ur y 58 9 (some (177 + 54 * i0))) := by
          refine c.k58 go (fun i hi => ?_) (fun i j hi hj e => ?_)
          · rw [gn]
            by_cases c9 : i = 9
            · rw [if_pos c9]; exact ⟨i0, hi0, rfl⟩
            · rw [if_neg c9, if_pos (by omega)]; exact p2 (i + 1) (by omega)
          · rw [gn, gn] at e
            by_cases c9 : i = 9 <;> by_cases d9 : j = 9
            · omega
            · rw [if_pos c9, if_neg d9, if_pos (by omega), ← ei0] at e
              have := p3 0 (j + 1) (by omega) (by omega) e
              omega
            · rw [if_neg c9, if_pos d9, if_pos (by omega), ← ei0] at e
              have := p3 (i + 1) 0 (by omega) (by omega) e
              omega
            · rw [if_neg c9, if_neg d9, if_pos (by omega), if_pos (by omega)] at e
              have := p3 (i + 1) (j + 1) (by omega) (by omega) e
              omega
        refine ⟨vp_in_nI (by omega) (by decide), 177 + 54 * i0, by rw [gn, if_pos rfl], 2, cw.2.1, ks0 Iq, ?_⟩
        have gx1 : ∀ a k, ¬ (a = 0 ∧ k = 5) → gi (ui (ur y 58 9 (some (177 + 54 * i0))) 0 5 (nI 9)) a k = gi x a k := fun a k ha => by rw [gi_ui, if_neg ha, gi_ur, gi0]
        have Ew : SEA (ui (ur y 58 9 (some (177 + 54 * i0))) 0 5 (nI 9)) 2 T W C S A N := E.mv (fun a k z1 z2 => go a k (by omega)) (fun a k z1 z2 _ => gx1 a k (by omega)) (fun _ _ => rfl)
        refine sp_X4_copyFrom Iq ((cw.past.1 i0 hi0).keep rfl) Ew (by omega) (fun v f Ey => ?_)
        rw [f.2 0 5 (by omega), gi_ui, if_pos ⟨rfl, rfl⟩, nI_1]
        have gv : ∀ a k, gr v a k = gr (ur y 58 9 (some (177 + 54 * i0))) a k := fun a k => f.rr a k
        refine k _ (cw.keep f.1) (fun a j a1 a2 => ?_) (fun a j ha => (gv a j).trans (go a j ha)) ⟨?_, ?_, fun j hj => ?_⟩
        · rw [gi_ui, if_neg a2, f.2 a j (by omega)]
          exact gx1 a j a2
        · rfl
        · exact Nat.le_refl _
        · have hj : j < 10 := hj
          have low : ∀ a k, 177 ≤ a → gi (ui v 0 5 (nI (9 + 1))) a k = gi v a k := fun a k ha => by rw [gi_ui, if_neg (by omega)]
          by_cases c9 : j = 9
          · subst c9
            exact ⟨177 + 54 * i0, W, S, A, N, (gv 58 9).trans (by rw [gn, if_pos rfl]), Ey.mv (fun _ _ _ _ => rfl) (fun a k z1 _ _ => low a k (by omega)) (fun _ _ => rfl), fun _ _ => rfl⟩
          · obtain ⟨q, W2, S2, A2, N2, q1, q2, q3⟩ := h3 (j + 1) (by omega)
            have hne : q ≠ 177 + 54 * i0 := fun e => by
              have := p3 (j + 1) 0 (by omega) (by omega) (by rw [q1, ei0, e])
              omega
            obtain ⟨i2, hi2, ei2⟩ := p2 (j + 1) (by omega)
            have hq2 : q = 177 + 54 * i2 := Option.some.inj (q1.symm.trans ei2)
            have ep : push H 10 T j = H (j + 1) := by unfold push; rw [if_pos rfl, if_neg c9]
            rw [ep]
            have q2' : SEA (ui (ur y 58 9 (some (177 + 54 * i0))) 0 5 (nI 9)) q (H (j + 1)) W2 C S2 A2 N2 := q2.mv (fun a k z1 z2 => go a k (by omega)) (fun a k z1 z2 _ => gx1 a k (by omega)) (fun _ _ => rfl)
            exact ⟨q, W2, S2, A2, N2, (gv 58 j).trans (by rw [gn, if_neg c9, if_pos (by omega)]; exact q1), (q2'.off Iq hne f).mv (fun _ _ _ _ => rfl) (fun a k z1 _ _ => low a k (by omega)) (fun _ _ => rfl), q3⟩
      | succ m ih =>
        intro i y hi hi1 g1 g2 g3
        obtain ⟨j, hj, ej⟩ := p2 i (by omega)
        refine v_X7_remember_18 k0 (by rw [g2 0 4 (by decide)]; exact c.2.2.2.1) (show kk KW 58 = some (22, 10) by decide) (ks0 Iq) ⟨fun z => absurd z (nI_ge (b := 10) (by omega) (by decide)), fun _ => ⟨vp_in_nI (by omega) (by decide), 177 + 54 * j, ?_, ks0 (Or.inr (Or.inr (Or.inr ⟨j, hj, rfl⟩))), ?_⟩⟩
        · rw [nI_clamp (by omega), g3, if_neg (by omega)]
          exact ej
        · obtain ⟨i', rfl⟩ : ∃ i', i = i' + 1 := ⟨i - 1, by omega⟩
          rw [nI_pred, nI_1, nI_clamp (by omega)]
          refine ⟨vp_in_nI (by omega) (by decide), ih (i' + 1 + 1) _ (by omega) (by omega) g1 (fun a k ha => by rw [gr_ur, if_neg (fun u => ha u.1)]; exact g2 a k ha) (fun k => ?_)⟩
          rw [gr_ur]
          by_cases ck : k = i'
          · rw [if_pos ⟨rfl, ck⟩, if_pos (by omega), ck]
            exact ej.symm
          · rw [if_neg (fun u => ck u.2), g3]
            by_cases cl : k + 1 < i' + 1
            · rw [if_pos cl, if_pos (by omega)]
            · rw [if_neg cl, if_neg (by omega)]
    exact key 9 1 x (by omega) (by omega) rfl (fun _ _ _ => rfl) (fun k => by rw [if_neg (by omega)])
end
set_option maxHeartbeats 2000000 in
theorem v_X8_keeps_0 {K : Sh} {x : Cn} {Q : Cn → Prop} {b0 : Nat}  (k_b0 : kk K b0 = some (8, 0)) (K0 : (¬ (gi x b0 19) = 10 → (GV mX8_keeps 54 [some (.ref b0), some (.int 0)] [] K x Q)) ∧ ((gi x b0 19) = 10 → (GV mX8_keeps 13 [some (.ref b0), some (.int 518)] [] K x Q))) : mSV mX8_keeps [.ref b0] K x Q := by
  refine s_V (by decide) (by simp [Value.category]) (Nat.le_of_ble_eq_true rfl) ?_
  show mGM mX8_keeps 0 [some (.ref b0), none] [] (hp K x) (PV K Q)
  refine r_aload_n (pc := 0) dX8_keeps_0 rfl ?_
  refine s_getI (pc := 1) dX8_keeps_1 fl_X8_262 rfl k_b0 ?_
  refine r_bipush (pc := 4) (v := 10) dX8_keeps_4 (by decide) ?_
  refine r_icmp_ne (pc := 6) (tgt := 52) dX8_keeps_6 (by decide) (fun q => ?_) (fun q => ?_)
  · have K0 := K0.1 q
    refine r_iconst (pc := 52) (v := 0) dX8_keeps_52 (by decide) ?_
    refine r_istore_n (pc := 53) dX8_keeps_53 (by decide) ?_
    exact r_le (L' := [some (.ref b0), some (.int 0)]) ⟨rfl, ⟨rfl, trivial⟩⟩ K0
  · have K0 := K0.2 q
    refine r_sipush (pc := 9) (v := 518) dX8_keeps_9 (by decide) ?_
    refine r_istore_n (pc := 12) dX8_keeps_12 (by decide) ?_
    exact r_le (L' := [some (.ref b0), some (.int 518)]) ⟨rfl, ⟨rfl, trivial⟩⟩ K0
set_option maxHeartbeats 2000000 in
theorem v_X8_keeps_13 {K : Sh} {x : Cn} {Q : Cn → Prop} {b0 : Nat} {l1 : Int32} {b0_20 : Nat} {n_b0_20 : Nat} (k_b0 : kk K b0 = some (8, 0)) (g_b0_20 : gr x b0 20 = some b0_20) (k_b0_20 : kk K b0_20 = some (20, n_b0_20)) (K0 : (5180 ≤ l1 → (GV mX8_keeps 54 [some (.ref b0), some (.int 0)] [] K (ui x b0 19 ((gi x b0 19) - 1)) Q)) ∧ (¬ 5180 ≤ l1 → (vp_in l1 n_b0_20 ∧ (vp_in (l1 - 518) n_b0_20 ∧ (GV mX8_keeps 13 [some (.ref b0), some (.int (l1 + 1))] [] K (ui x b0_20 ((l1 - 518) : Int32).toNatClampNeg (gi x b0_20 (l1 : Int32).toNatClampNeg)) Q))))) : GV mX8_keeps 13 [some (.ref b0), some (.int l1)] [] K x Q := by
  show mGM mX8_keeps 13 [some (.ref b0), some (.int l1)] [] (hp K x) (PV K Q)
  refine r_iload_n (pc := 13) dX8_keeps_13 rfl ?_
  refine r_sipush (pc := 14) (v := 5180) dX8_keeps_14 (by decide) ?_
  refine r_icmp_ge (pc := 17) (tgt := 42) dX8_keeps_17 (by decide) (fun q => ?_) (fun q => ?_)
  · have K0 := K0.1 q
    refine r_aload_n (pc := 42) dX8_keeps_42 rfl ?_
    refine r_dup (pc := 43) dX8_keeps_43 rfl ?_
    refine s_getI (pc := 44) dX8_keeps_44 fl_X8_262 rfl k_b0 ?_
    refine r_iconst (pc := 47) (v := 1) dX8_keeps_47 (by decide) ?_
    refine r_isub (pc := 48) dX8_keeps_48 ?_
    refine s_putI (pc := 49) dX8_keeps_49 fl_X8_262 rfl rfl k_b0 ?_
    refine r_iconst (pc := 52) (v := 0) dX8_keeps_52 (by decide) ?_
    refine r_istore_n (pc := 53) dX8_keeps_53 (by decide) ?_
    exact r_le (L' := [some (.ref b0), some (.int 0)]) ⟨rfl, ⟨rfl, trivial⟩⟩ K0
  · have K0 := K0.2 q
    refine r_aload_n (pc := 20) dX8_keeps_20 rfl ?_
    refine s_getR (pc := 21) dX8_keeps_21 fl_X8_36 rfl k_b0 g_b0_20 ?_
    refine r_iload_n (pc := 24) dX8_keeps_24 rfl ?_
    refine r_sipush (pc := 25) (v := 518) dX8_keeps_25 (by decide) ?_
    refine r_isub (pc := 28) dX8_keeps_28 ?_
    refine r_aload_n (pc := 29) dX8_keeps_29 rfl ?_
    refine s_getR (pc := 30) dX8_keeps_30 fl_X8_36 rfl k_b0 g_b0_20 ?_
    refine r_iload_n (pc := 33) dX8_keeps_33 rfl ?_
    obtain ⟨i_2, K0⟩ := K0
    refine s_iald (pc := 34) dX8_keeps_34 k_b0_20 i_2 ?_
    obtain ⟨i_3, K0⟩ := K0
    refine s_iast (pc := 35) dX8_keeps_35 k_b0_20 i_3 ?_
    refine r_iinc (pc := 36) (v := l1 + 1) dX8_keeps_36 rfl rfl (by decide) ?_
    refine r_goto (pc := 39) (L := [some (.ref b0), some (.int (l1 + 1))]) (tgt := 13) dX8_keeps_39 (by decide) ?_
    exact r_le (L' := [some (.ref b0), some (.int (l1 + 1))]) ⟨rfl, ⟨rfl, trivial⟩⟩ K0
set_option maxHeartbeats 2000000 in
theorem v_X8_keeps_54 {K : Sh} {x : Cn} {Q : Cn → Prop} {b0 : Nat} {l1 : Int32} {b0_20 : Nat} {b0_1 : Nat} {n_b0_1 : Nat} {n_b0_20 : Nat} (k_b0 : kk K b0 = some (8, 0)) (g_b0_20 : gr x b0 20 = some b0_20) (g_b0_1 : gr x b0 1 = some b0_1) (k_b0_1 : kk K b0_1 = some (20, n_b0_1)) (k_b0_20 : kk K b0_20 = some (20, n_b0_20)) (K0 : (518 ≤ l1 → (Q (ui x b0 19 ((gi x b0 19) + 1)))) ∧ (¬ 518 ≤ l1 → (vp_in l1 n_b0_1 ∧ (vp_in ((518 * (gi x b0 19)) + l1) n_b0_20 ∧ (GV mX8_keeps 54 [some (.ref b0), some (.int (l1 + 1))] [] K (ui x b0_20 (((518 * (gi x b0 19)) + l1) : Int32).toNatClampNeg (gi x b0_1 (l1 : Int32).toNatClampNeg)) Q))))) : GV mX8_keeps 54 [some (.ref b0), some (.int l1)] [] K x Q := by
  show mGM mX8_keeps 54 [some (.ref b0), some (.int l1)] [] (hp K x) (PV K Q)
  refine r_iload_n (pc := 54) dX8_keeps_54 rfl ?_
  refine r_sipush (pc := 55) (v := 518) dX8_keeps_55 (by decide) ?_
  refine r_icmp_ge (pc := 58) (tgt := 88) dX8_keeps_58 (by decide) (fun q => ?_) (fun q => ?_)
  · have K0 := K0.1 q
    refine r_aload_n (pc := 88) dX8_keeps_88 rfl ?_
    refine r_dup (pc := 89) dX8_keeps_89 rfl ?_
    refine s_getI (pc := 90) dX8_keeps_90 fl_X8_262 rfl k_b0 ?_
    refine r_iconst (pc := 93) (v := 1) dX8_keeps_93 (by decide) ?_
    refine r_iadd (pc := 94) dX8_keeps_94 ?_
    refine s_putI (pc := 95) dX8_keeps_95 fl_X8_262 rfl rfl k_b0 ?_
    exact s_ret rfl dX8_keeps_98 K0
  · have K0 := K0.2 q
    refine r_aload_n (pc := 61) dX8_keeps_61 rfl ?_
    refine s_getR (pc := 62) dX8_keeps_62 fl_X8_36 rfl k_b0 g_b0_20 ?_
    refine r_sipush (pc := 65) (v := 518) dX8_keeps_65 (by decide) ?_
    refine r_aload_n (pc := 68) dX8_keeps_68 rfl ?_
    refine s_getI (pc := 69) dX8_keeps_69 fl_X8_262 rfl k_b0 ?_
    refine r_imul (pc := 72) dX8_keeps_72 ?_
    refine r_iload_n (pc := 73) dX8_keeps_73 rfl ?_
    refine r_iadd (pc := 74) dX8_keeps_74 ?_
    refine r_aload_n (pc := 75) dX8_keeps_75 rfl ?_
    refine s_getR (pc := 76) dX8_keeps_76 fl_X8_9 rfl k_b0 g_b0_1 ?_
    refine r_iload_n (pc := 79) dX8_keeps_79 rfl ?_
    obtain ⟨i_2, K0⟩ := K0
    refine s_iald (pc := 80) dX8_keeps_80 k_b0_1 i_2 ?_
    obtain ⟨i_3, K0⟩ := K0
    refine s_iast (pc := 81) dX8_keeps_81 k_b0_20 i_3 ?_
    refine r_iinc (pc := 82) (v := l1 + 1) dX8_keeps_82 rfl rfl (by decide) ?_
    refine r_goto (pc := 85) (L := [some (.ref b0), some (.int (l1 + 1))]) (tgt := 54) dX8_keeps_85 (by decide) ?_
    exact r_le (L' := [some (.ref b0), some (.int (l1 + 1))]) ⟨rfl, ⟨rfl, trivial⟩⟩ K0
section
theorem sp_X8_keeps {x : Cn} {Q : Cn → Prop} {n : Nat} (M : MRf x 718) (hn : n ≤ 10) (h19 : gi x 717 19 = nI n) (k : ∀ y, RFr x y → (∀ a j, a ≠ 724 → ¬ (a = 717 ∧ j = 19) → gi y a j = gi x a j) → gi y 717 19 = nI (pn n) → (∀ j, j < pn n → ∀ i, i < 518 → gi y 724 (518 * j + i) = push (fun j i => gi x 724 (518 * j + i)) n (gi x 718) j i) → Q y) : mSV mX8_keeps [.ref 717] KW x Q := by
  have k724 : kk KW 724 = some (20, 5180) := by decide
  have k2 : ∀ m v y, m < 10 → gi y 717 19 = nI m → y.2 = x.2 → (∀ a j, a ≠ 724 → ¬ (a = 717 ∧ j = 19) → gi y a j = gi x a j) → v ≤ 518 → (∀ i, i < v → gi y 724 (518 * m + i) = gi x 718 i) → (∀ z, z.2 = x.2 → (∀ a j, a ≠ 724 → ¬ (a = 717 ∧ j = 19) → gi z a j = gi x a j) → gi z 717 19 = nI (m + 1) → (∀ i, i < 518 → gi z 724 (518 * m + i) = gi x 718 i) → (∀ i, i < 518 * m → gi z 724 i = gi y 724 i) → Q z) → GV mX8_keeps 54 [some (.ref 717), some (.int (nI v))] [] KW y Q := by
    intro m v y hm
    generalize hd : 518 - v = d
    induction d generalizing v y with
    | zero =>
      intro y1 y2 y3 hv y4 kq
      have : v = 518 := by omega
      subst this
      refine v_X8_keeps_54 km ((M.keep y2).2.2.2.2.2.2.2.1) ((M.keep y2).1) km1 k724 ⟨fun _ => ?_, fun z => absurd (Int32.le_refl _) z⟩
      rw [y1, nI_1]
      exact kq _ y2 (fun a j a1 a2 => by rw [gi_ui, if_neg a2]; exact y3 a j a1 a2) rfl (fun i hi => by rw [gi_ui, if_neg (by omega)]; exact y4 i hi) (fun i hi => by rw [gi_ui, if_neg (by omega)])
    | succ d ih =>
      intro y1 y2 y3 hv y4 kq
      refine v_X8_keeps_54 km ((M.keep y2).2.2.2.2.2.2.2.1) ((M.keep y2).1) km1 k724 ⟨fun z => absurd z (nI_ge (b := 518) (by omega) (by decide)), fun _ => ⟨vp_in_nI (by omega) (by decide), ?_⟩⟩
      rw [y1, show (518 : Int32) = nI 518 by decide, pk_mul, nI_add, nI_clamp (show v < 2 ^ 31 by omega), nI_clamp (show 518 * m + v < 2 ^ 31 by omega), nI_1]
      refine ⟨vp_in_nI (by omega) (by decide), ih (v + 1) _ (by omega) ?_ y2 (fun a j a1 a2 => by rw [gi_ui, if_neg (fun u => a1 u.1)]; exact y3 a j a1 a2) (by omega) (fun i hi => ?_) (fun z z1 z2 z3 z4 z5 => kq z z1 z2 z3 z4 (fun i hi => ?_))⟩
      · rw [gi_ui, if_neg (by omega)]; exact y1
      · rw [gi_ui]
        by_cases c : i = v
        · rw [c, if_pos ⟨rfl, rfl⟩]
          exact y3 718 v (by decide) (by omega)
        · rw [if_neg (by omega)]
          exact y4 i (by omega)
      · rw [z5 i hi, gi_ui, if_neg (by omega)]
  have fr : ∀ y, y.2 = x.2 → (∀ a j, a ≠ 724 → ¬ (a = 717 ∧ j = 19) → gi y a j = gi x a j) → RFr x y := fun y y1 y2 => ⟨y1, fun a j a1 a2 a3 a4 a5 a6 a7 => y2 a j a6 (fun u => a7 (by omega))⟩
  refine v_X8_keeps_0 km ?_
  rw [h19, show (10 : Int32) = nI 10 by decide, nI_eq (by omega) (by decide)]
  refine ⟨fun z => k2 n 0 x (by omega) h19 rfl (fun _ _ _ _ => rfl) (by omega) (fun i hi => absurd hi (by omega)) (fun y y1 y2 y3 y4 y5 => k y (fr y y1 y2) y2 ?_ (fun j hj i hi => ?_)), fun z => ?_⟩
  · unfold pn; rw [if_neg z]; exact y3
  · unfold pn at hj
    rw [if_neg z] at hj
    unfold push
    rw [if_neg z]
    by_cases c : j = n
    · rw [if_pos c, c]; exact y4 i hi
    · rw [if_neg c]; exact y5 _ (by omega)
  · subst z
    have k1 : ∀ d v y, v + d = 5180 → 518 ≤ v → y.2 = x.2 → (∀ a j, a ≠ 724 → gi y a j = gi x a j) → (∀ i, gi y 724 i = if i + 518 < v then gi x 724 (i + 518) else gi x 724 i) → GV mX8_keeps 13 [some (.ref 717), some (.int (nI v))] [] KW y Q := by
      intro d
      induction d with
      | zero =>
        intro v y hv h5 y1 y2 y3
        have : v = 5180 := by omega
        subst this
        refine v_X8_keeps_13 km ((M.keep y1).2.2.2.2.2.2.2.1) k724 ⟨fun _ => ?_, fun z => absurd (Int32.le_refl _) z⟩
        rw [y2 717 19 (by decide), h19, nI_pred]
        refine k2 9 0 _ (by omega) rfl y1 (fun a j a1 a2 => by rw [gi_ui, if_neg a2]; exact y2 a j a1) (by omega) (fun i hi => absurd hi (by omega)) (fun z z1 z2 z3 z4 z5 => k z (fr z z1 z2) z2 z3 (fun j hj i hi => ?_))
        have hj : j < 10 := hj
        unfold push
        rw [if_pos rfl]
        by_cases c : j = 9
        · rw [if_pos c, c]; exact z4 i hi
        · rw [if_neg c, z5 _ (by omega), gi_ui, if_neg (by omega), y3, if_pos (by omega)]
          congr 1
          omega
      | succ d ih =>
        intro v y hv h5 y1 y2 y3
        obtain ⟨v', rfl⟩ : ∃ v', v = v' + 518 := ⟨v - 518, by omega⟩
        refine v_X8_keeps_13 km ((M.keep y1).2.2.2.2.2.2.2.1) k724 ⟨fun z => absurd z (nI_ge (b := 5180) (by omega) (by decide)), fun _ => ⟨vp_in_nI (by omega) (by decide), ?_⟩⟩
        rw [sub518, nI_clamp (show v' < 2 ^ 31 by omega), nI_clamp (show v' + 518 < 2 ^ 31 by omega), nI_1]
        refine ⟨vp_in_nI (by omega) (by decide), ih (v' + 518 + 1) _ (by omega) (by omega) y1 (fun a j a1 => by rw [gi_ui, if_neg (fun u => a1 u.1)]; exact y2 a j a1) (fun i => ?_)⟩
        rw [gi_ui]
        by_cases c : i = v'
        · rw [if_pos ⟨rfl, c⟩, if_pos (by omega), c, y3, if_neg (by omega)]
        · rw [if_neg (fun u => c u.2), y3]
          by_cases c2 : i + 518 < v' + 518
          · rw [if_pos c2, if_pos (by omega)]
          · rw [if_neg c2, if_neg (by omega)]
    exact k1 (5180 - 518) 518 x (by omega) (by omega) rfl (fun _ _ _ => rfl) (fun i => by rw [if_neg (by omega)])
end
set_option maxHeartbeats 2000000 in
theorem v_X7_undo_0 {K : Sh} {x : Cn} {Q : Int32 → Cn → Prop} {b0 : Nat} {b0_2 : Nat} {b0_4 : Nat} {n_b0_4 : Nat} (k_b0 : kk K b0 = some (7, 0)) (g_b0_2 : gr x b0 2 = some b0_2) (g_b0_4 : gr x b0 4 = some b0_4) (k_b0_4 : kk K b0_4 = some (22, n_b0_4)) (k_b0_2 : kk K b0_2 = some (4, 0)) (K0 : (¬ (gi x b0 5) = 0 → (vp_in (gi (ui x b0 5 ((gi x b0 5) - 1)) b0 5) n_b0_4 ∧ (∃ c_3 : Nat, gr x b0_4 (((gi (ui x b0 5 ((gi x b0 5) - 1)) b0 5) : Int32).toNatClampNeg) = some c_3 ∧ (mSV mX4_copyFrom [.ref b0_2, .ref c_3] K (ui x b0 5 ((gi x b0 5) - 1)) (fun y_5 => Q (gi y_5 b0 5) y_5))))) ∧ ((gi x b0 5) = 0 → (Q (-1) x))) : mSI mX7_undo [.ref b0] K x Q := by
  refine s_I (by decide) (by simp [Value.category]) (Nat.le_of_ble_eq_true rfl) ?_
  show mGM mX7_undo 0 [some (.ref b0)] [] (hp K x) (PI K Q)
  refine r_aload_n (pc := 0) dX7_undo_0 rfl ?_
  refine s_getI (pc := 1) dX7_undo_1 fl_X7_35 rfl k_b0 ?_
  refine r_if_ne (pc := 4) (tgt := 9) dX7_undo_4 (by decide) (fun q => ?_) (fun q => ?_)
  · have K0 := K0.1 q
    refine r_aload_n (pc := 9) dX7_undo_9 rfl ?_
    refine r_dup (pc := 10) dX7_undo_10 rfl ?_
    refine s_getI (pc := 11) dX7_undo_11 fl_X7_35 rfl k_b0 ?_
    refine r_iconst (pc := 14) (v := 1) dX7_undo_14 (by decide) ?_
    refine r_isub (pc := 15) dX7_undo_15 ?_
    refine s_putI (pc := 16) dX7_undo_16 fl_X7_35 rfl rfl k_b0 ?_
    refine r_aload_n (pc := 19) dX7_undo_19 rfl ?_
    refine s_getR (pc := 20) dX7_undo_20 fl_X7_20 rfl k_b0 g_b0_2 ?_
    refine r_aload_n (pc := 23) dX7_undo_23 rfl ?_
    refine s_getR (pc := 24) dX7_undo_24 fl_X7_31 rfl k_b0 g_b0_4 ?_
    refine r_aload_n (pc := 27) dX7_undo_27 rfl ?_
    refine s_getI (pc := 28) dX7_undo_28 fl_X7_35 rfl k_b0 ?_
    obtain ⟨i_2, K0⟩ := K0
    obtain ⟨c_3, g_4, K0⟩ := K0
    refine s_aald (pc := 31) dX7_undo_31 (by decide) rfl k_b0_4 i_2 g_4 ?_
    refine s_VV (pc := 32) mX4_copyFrom (ci := 4) (a := b0_2) (As := [.ref c_3]) dX7_undo_32 lk_X7_80 in_X4_copyFrom mo_X4_copyFrom ⟨by decide, rfl⟩ ⟨by decide, by decide⟩ (Nat.le_of_ble_eq_true rfl) k_b0_2 (mSV_mono K0 (fun y_5 K0 => ?_))
    refine r_aload_n (pc := 35) dX7_undo_35 rfl ?_
    refine s_getI (pc := 36) dX7_undo_36 fl_X7_35 rfl k_b0 ?_
    exact s_iret rfl dX7_undo_39 K0
  · have K0 := K0.2 q
    refine r_iconst (pc := 7) (v := (-1)) dX7_undo_7 (by decide) ?_
    exact s_iret rfl dX7_undo_8 K0
set_option maxHeartbeats 2000000 in
theorem v_X8_undo_0 {K : Sh} {x : Cn} {Q : Int32 → Cn → Prop} {b0 : Nat}  (k_b0 : kk K b0 = some (8, 0)) (K0 : (¬ (gi x b0 19) = 0 → (GI mX8_undo 21 [some (.ref b0), some (.int 0)] [] K (ui x b0 19 ((gi x b0 19) - 1)) Q)) ∧ ((gi x b0 19) = 0 → (Q (-1) x))) : mSI mX8_undo [.ref b0] K x Q := by
  refine s_I (by decide) (by simp [Value.category]) (Nat.le_of_ble_eq_true rfl) ?_
  show mGM mX8_undo 0 [some (.ref b0), none] [] (hp K x) (PI K Q)
  refine r_aload_n (pc := 0) dX8_undo_0 rfl ?_
  refine s_getI (pc := 1) dX8_undo_1 fl_X8_262 rfl k_b0 ?_
  refine r_if_ne (pc := 4) (tgt := 9) dX8_undo_4 (by decide) (fun q => ?_) (fun q => ?_)
  · have K0 := K0.1 q
    refine r_aload_n (pc := 9) dX8_undo_9 rfl ?_
    refine r_dup (pc := 10) dX8_undo_10 rfl ?_
    refine s_getI (pc := 11) dX8_undo_11 fl_X8_262 rfl k_b0 ?_
    refine r_iconst (pc := 14) (v := 1) dX8_undo_14 (by decide) ?_
    refine r_isub (pc := 15) dX8_undo_15 ?_
    refine s_putI (pc := 16) dX8_undo_16 fl_X8_262 rfl rfl k_b0 ?_
    refine r_iconst (pc := 19) (v := 0) dX8_undo_19 (by decide) ?_
    refine r_istore_n (pc := 20) dX8_undo_20 (by decide) ?_
    exact r_le (L' := [some (.ref b0), some (.int 0)]) ⟨rfl, ⟨rfl, trivial⟩⟩ K0
  · have K0 := K0.2 q
    refine r_iconst (pc := 7) (v := (-1)) dX8_undo_7 (by decide) ?_
    exact s_iret rfl dX8_undo_8 K0
set_option maxHeartbeats 2000000 in
theorem v_X8_undo_21 {K : Sh} {x : Cn} {Q : Int32 → Cn → Prop} {b0 : Nat} {l1 : Int32} {b0_1 : Nat} {b0_20 : Nat} {n_b0_20 : Nat} {n_b0_1 : Nat} (k_b0 : kk K b0 = some (8, 0)) (g_b0_1 : gr x b0 1 = some b0_1) (g_b0_20 : gr x b0 20 = some b0_20) (k_b0_20 : kk K b0_20 = some (20, n_b0_20)) (k_b0_1 : kk K b0_1 = some (20, n_b0_1)) (K0 : (518 ≤ l1 → (Q (gi x b0 19) x)) ∧ (¬ 518 ≤ l1 → (vp_in ((518 * (gi x b0 19)) + l1) n_b0_20 ∧ (vp_in l1 n_b0_1 ∧ (GI mX8_undo 21 [some (.ref b0), some (.int (l1 + 1))] [] K (ui x b0_1 (l1 : Int32).toNatClampNeg (gi x b0_20 (((518 * (gi x b0 19)) + l1) : Int32).toNatClampNeg)) Q))))) : GI mX8_undo 21 [some (.ref b0), some (.int l1)] [] K x Q := by
  show mGM mX8_undo 21 [some (.ref b0), some (.int l1)] [] (hp K x) (PI K Q)
  refine r_iload_n (pc := 21) dX8_undo_21 rfl ?_
  refine r_sipush (pc := 22) (v := 518) dX8_undo_22 (by decide) ?_
  refine r_icmp_ge (pc := 25) (tgt := 55) dX8_undo_25 (by decide) (fun q => ?_) (fun q => ?_)
  · have K0 := K0.1 q
    refine r_aload_n (pc := 55) dX8_undo_55 rfl ?_
    refine s_getI (pc := 56) dX8_undo_56 fl_X8_262 rfl k_b0 ?_
    exact s_iret rfl dX8_undo_59 K0
  · have K0 := K0.2 q
    refine r_aload_n (pc := 28) dX8_undo_28 rfl ?_
    refine s_getR (pc := 29) dX8_undo_29 fl_X8_9 rfl k_b0 g_b0_1 ?_
    refine r_iload_n (pc := 32) dX8_undo_32 rfl ?_
    refine r_aload_n (pc := 33) dX8_undo_33 rfl ?_
    refine s_getR (pc := 34) dX8_undo_34 fl_X8_36 rfl k_b0 g_b0_20 ?_
    refine r_sipush (pc := 37) (v := 518) dX8_undo_37 (by decide) ?_
    refine r_aload_n (pc := 40) dX8_undo_40 rfl ?_
    refine s_getI (pc := 41) dX8_undo_41 fl_X8_262 rfl k_b0 ?_
    refine r_imul (pc := 44) dX8_undo_44 ?_
    refine r_iload_n (pc := 45) dX8_undo_45 rfl ?_
    refine r_iadd (pc := 46) dX8_undo_46 ?_
    obtain ⟨i_2, K0⟩ := K0
    refine s_iald (pc := 47) dX8_undo_47 k_b0_20 i_2 ?_
    obtain ⟨i_3, K0⟩ := K0
    refine s_iast (pc := 48) dX8_undo_48 k_b0_1 i_3 ?_
    refine r_iinc (pc := 49) (v := l1 + 1) dX8_undo_49 rfl rfl (by decide) ?_
    refine r_goto (pc := 52) (L := [some (.ref b0), some (.int (l1 + 1))]) (tgt := 21) dX8_undo_52 (by decide) ?_
    exact r_le (L' := [some (.ref b0), some (.int (l1 + 1))]) ⟨rfl, ⟨rfl, trivial⟩⟩ K0
theorem eq_undo : Both mX7_undo mX8_undo [] := by
  intro x R
  obtain ⟨W, C, S, A, N, E, nm, hs⟩ := R.sea
  obtain ⟨n, hh, h19⟩ := hs.hs
  obtain ⟨g1, g2, g3⟩ := id hh
  refine v_X7_undo_0 k0 R.1.2.1 R.1.2.2.2.1 (show kk KW 58 = some (22, 10) by decide) (ks0 E.1) ?_
  rw [g1, nI_z (by omega)]
  refine ⟨fun z => ?_, fun z => v_X8_undo_0 km ?_⟩
  · obtain ⟨m, rfl⟩ : ∃ m, n = m + 1 := ⟨n - 1, by omega⟩
    rw [nI_pred, gi_ui, if_pos ⟨rfl, rfl⟩, nI_clamp (by omega)]
    obtain ⟨q, W2, S2, A2, N2, q1, q2, q3⟩ := g3 m (by omega)
    obtain ⟨i, hi, ei⟩ := R.1.past.2.1 m (by omega)
    have hq : q = 177 + 54 * i := Option.some.inj (q1.symm.trans ei)
    refine ⟨vp_in_nI (by omega) (by decide), q, q1, ?_⟩
    have eo : ∀ a k, ¬ (a = 0 ∧ k = 5) → gi (ui x 0 5 (nI m)) a k = gi x a k := fun a k h => by rw [gi_ui, if_neg h]
    refine sp_X4_copyFrom E.1 (E.2.1.keep rfl) (q2.mv (y := ui x 0 5 (nI m)) (fun _ _ _ _ => rfl) (fun a k z1 z2 _ => eo a k (by omega)) (fun _ _ => rfl)) (by omega) (fun y f Ey => ?_)
    rw [f.2 0 5 (by omega), gi_ui, if_pos ⟨rfl, rfl⟩]
    have c2 : CRf y := R.1.keep f.1
    have m2 : MRf y 718 := R.2.1.keep f.1
    have eo2 : ∀ a k, ¬ (2 ≤ a ∧ a < 56) → ¬ (a = 0 ∧ k = 5) → gi y a k = gi x a k := fun a k h1 h2 => (f.2 a k (by omega)).trans (eo a k h2)
    have hh2 : Hs y C (gi x 718) m (fun j i => gi x 724 (518 * j + i)) := by
      refine ⟨(f.2 0 5 (by omega)).trans rfl, by omega, fun j hj => ?_⟩
      obtain ⟨q', W3, S3, A3, N3, p1, p2, p3⟩ := g3 j (by omega)
      obtain ⟨i', hi', ei'⟩ := R.1.past.2.1 j (by omega)
      have hq' : q' = 177 + 54 * i' := Option.some.inj (p1.symm.trans ei')
      exact ⟨q', W3, S3, A3, N3, (f.rr 58 j).trans p1, p2.mv (fun a k _ _ => f.rr a k) (fun a k z1 z2 _ => eo2 a k (by omega) (by omega)) (fun _ _ => rfl), p3⟩
    refine v_X8_undo_0 km ?_
    rw [eo2 717 19 (by omega) (by omega), h19, nI_z (by omega)]
    refine ⟨fun _ => ?_, fun z => absurd z (by omega)⟩
    rw [nI_pred]
    have key : ∀ d v w, v + d = 518 → w.2 = y.2 → gi w 717 19 = nI m → (∀ a k, a ≠ 718 → ¬ (a = 717 ∧ k = 19) → gi w a k = gi y a k) → (∀ i, i < v → gi w 718 i = gi x 724 (518 * m + i)) → GI mX8_undo 21 [some (.ref 717), some (.int (nI v))] [] KW w (fun r' z => nI m = r' ∧ Rel z) := by
      intro d
      induction d with
      | zero =>
        intro v w hv w1 w2 w3 w4
        have : v = 518 := by omega
        subst this
        have m3 := m2.keep w1
        refine v_X8_undo_21 km m3.1 m3.2.2.2.2.2.2.2.1 (show kk KW 724 = some (20, 5180) by decide) km1 ⟨fun _ => ?_, fun z => absurd (Int32.le_refl _) z⟩
        rw [w2]
        refine ⟨rfl, R.fin nm (y := y) (fun a k a1 a2 a3 a4 => eo2 a k a1 a4) c2 hh2 Ey q3 m2 ⟨w1, fun a k a1 a2 a3 a4 a5 a6 a7 => w3 a k a1 (fun u => a7 (by omega))⟩ w2 (fun j hj i hi => ?_) w4⟩
        rw [w3 724 _ (by decide) (by omega), eo2 724 _ (by omega) (by omega)]
      | succ d ih =>
        intro v w hv w1 w2 w3 w4
        have m3 := m2.keep w1
        refine v_X8_undo_21 km m3.1 m3.2.2.2.2.2.2.2.1 (show kk KW 724 = some (20, 5180) by decide) km1 ⟨fun z => absurd z (nI_ge (b := 518) (by omega) (by decide)), fun _ => ?_⟩
        rw [w2, show (518 : Int32) = nI 518 by decide, pk_mul, nI_add, nI_clamp (show v < 2 ^ 31 by omega), nI_clamp (show 518 * m + v < 2 ^ 31 by omega), nI_1]
        refine ⟨vp_in_nI (by omega) (by decide), vp_in_nI (by omega) (by decide), ih (v + 1) _ (by omega) w1 ?_ (fun a k a1 a2 => ?_) (fun i hi => ?_)⟩
        · rw [gi_ui, if_neg (by omega)]; exact w2
        · rw [gi_ui, if_neg (fun u => a1 u.1)]; exact w3 a k a1 a2
        · rw [gi_ui]
          by_cases c : i = v
          · rw [if_pos ⟨rfl, c⟩, c, w3 724 _ (by decide) (by omega), eo2 724 _ (by omega) (by omega)]
          · rw [if_neg (fun u => c u.2)]
            exact w4 i (by omega)
    exact key 518 0 _ (by omega) rfl rfl (fun a k a1 a2 => by rw [gi_ui, if_neg a2]) (fun i hi => absurd hi (by omega))
  · rw [h19, nI_z (by omega)]
    exact ⟨fun w => absurd z w, fun _ => ⟨rfl, R⟩⟩
end
/-! 46.acts.lean.txt -/
section
def uT (T : TT) (k : Nat) (v : Int32) : TT := fun i => if i = k then v else T i
theorem gi_718 (x : Cn) (k : Nat) (v : Int32) : gi (ui x 718 k v) 718 = uT (gi x 718) k v := by
  funext i
  rw [gi_ui]
  unfold uT
  by_cases c : i = k
  · rw [if_pos ⟨rfl, c⟩, if_pos c]
  · rw [if_neg (fun z => c z.2), if_neg c]
theorem uT_at (T : TT) (k : Nat) (v : Int32) : uT T k v k = v := if_pos rfl
theorem uT_ne (T : TT) {k i : Nat} (v : Int32) (h : i ≠ k) : uT T k v i = T i := if_neg h
theorem so_uT (T : TT) (s k s' k' : Nat) (v : Int32) (hk : k < 12) (hk' : k' < 12) : so (uT T (62 + 12 * s + k) v) s' k' = if s' = s ∧ k' = k then v else so T s' k' := by
  unfold so uT
  by_cases c : s' = s ∧ k' = k
  · rw [if_pos c, if_pos (by rw [c.1, c.2])]
  · rw [if_neg c, if_neg (by omega)]
/-- a series changes -/
theorem SEA.upS {x y : Cn} {q : Nat} {T T' : TT} {W C S A N s p : Nat} (E : SEA x q T W C S A N) (hs : s < S) (hp : gr x (q + 3) s = some p) (f : EQx x y p) (hT : ∀ i, i < 518 → ¬ (62 + 12 * s ≤ i ∧ i < 74 + 12 * s) → T' i = T i) (hS : SER y p T' s) (hw : Wse T' C W s) : SEA y q T' W C S A N := by
  obtain ⟨e1, e2, ⟨v0, v1, v2, v3, v4, v5, v6, v7⟩, w1, w2, w3, w4, w5, w6, w7, w8, w9, w10, w11, w12, w13, w14⟩ := E
  have hg : ∀ b k, gr y b k = gr x b k := fun b k => by unfold gr; rw [f.1]
  obtain ⟨r1, r2, r3, r4, r5, r6, r7, r8, r9⟩ := id e2
  obtain ⟨j, hj, ej⟩ := r6 s (by omega)
  have ep : p = q + 6 + j := Option.some.inj (hp.symm.trans ej)
  refine ⟨e1, e2.keep f.1, ⟨?_, ?_, ?_, ?_, ?_, ?_, ?_, ?_⟩, ?_⟩
  · rw [f.2 q 0 (by omega), hT 0 (by decide) (by omega)]; exact v0
  · rw [f.2 q 1 (by omega), hT 4 (by decide) (by omega)]; exact v1
  · rw [f.2 q 2 (by omega), hT 5 (by decide) (by omega)]; exact v2
  · rw [f.2 q 3 (by omega), hT 2 (by decide) (by omega)]; exact v3
  · rw [f.2 q 4 (by omega), hT 3 (by decide) (by omega)]; exact v4
  · intro h hh
    rw [f.2 (q + 1) h (by omega), f.2 (q + 2) h (by omega), hT _ (by omega) (by omega), hT _ (by omega) (by omega)]
    exact v5 h hh
  · intro s' p' hs' hp'
    rw [hg] at hp'
    by_cases c : s' = s
    · rw [c] at hp' ⊢
      have : p' = p := Option.some.inj (hp'.symm.trans hp)
      rw [this]
      exact hS
    · have hne : p' ≠ p := fun e => c (r7 s' s (by omega) (by omega) (by rw [hp', hp, e]))
      exact (v6 s' p' hs' hp').cg (fun k _ => f.2 p' k hne) (fun k hk => hT _ (by omega) (by omega))
  · intro a p' ha hp'
    rw [hg] at hp'
    obtain ⟨j', hj', ej'⟩ := r8 a (by omega)
    have ep' : p' = q + 30 + j' := Option.some.inj (hp'.symm.trans ej')
    exact (v7 a p' ha hp').cg (fun k _ => f.2 p' k (by omega)) (fun k hk => hT _ (by omega) (by omega))
  · refine ⟨by rw [hT 0 (by decide) (by omega)]; exact w1, w2, w3, by rw [hT 1 (by decide) (by omega)]; exact w4, w5, by rw [hT 2 (by decide) (by omega)]; exact w6, w7, by rw [hT 3 (by decide) (by omega)]; exact w8, w9, by rw [hT 4 (by decide) (by omega)]; exact w10, w11, fun h hh => by rw [hT _ (by omega) (by omega), hT _ (by omega) (by omega)]; exact w12 h hh, fun s' hs' => ?_, fun a ha => (w14 a ha).cg (fun k hk => hT _ (by omega) (by omega))⟩
    by_cases c : s' = s
    · rw [c]; exact hw
    · exact (w13 s' hs').cg (fun k hk => hT _ (by omega) (by omega))
/-! weeks go from one kind to another -/
def goT (T : TT) (s : Nat) (w : Int32) (k o : Nat) : TT := uT (uT T (62 + 12 * s + (7 + k)) (so T s (7 + k) &&& (w ^^^ (-1)))) (62 + 12 * s + (7 + o)) (so T s (7 + o) ||| w)
theorem so_goT (T : TT) (s : Nat) (w : Int32) {k o : Nat} (hk : k < 5) (ho : o < 5) {j : Nat} (hj : j < 12) : so (goT T s w k o) s j = if j = 7 + o then so T s (7 + o) ||| w else if j = 7 + k then so T s (7 + k) &&& (w ^^^ (-1)) else so T s j := by
  unfold goT
  rw [so_uT _ _ _ _ _ _ (by omega) hj, so_uT _ _ _ _ _ _ (by omega) hj]
  by_cases c : j = 7 + o
  · rw [if_pos ⟨rfl, c⟩, if_pos c]
  · rw [if_neg (fun z => c z.2), if_neg c]
    by_cases d : j = 7 + k
    · rw [if_pos ⟨rfl, d⟩, if_pos d]
    · rw [if_neg (fun z => d z.2), if_neg d]
theorem goT_off (T : TT) (s : Nat) (w : Int32) {k o : Nat} (hk : k < 5) (ho : o < 5) (i : Nat) (h : ¬ (62 + 12 * s ≤ i ∧ i < 74 + 12 * s)) : goT T s w k o i = T i := by
  unfold goT
  rw [uT_ne _ _ (by omega), uT_ne _ _ (by omega)]
theorem tb_all (T : TT) (s i : Nat) : tb (bas T s ||| so T s 11) i = true ↔ ∃ j, j < 5 ∧ tb (so T s (7 + j)) i = true := by
  rw [tb_or, tb_bas]
  simp only [Bool.or_eq_true]
  constructor
  · rintro ((((h | h) | h) | h) | h)
    · exact ⟨0, by decide, h⟩
    · exact ⟨1, by decide, h⟩
    · exact ⟨2, by decide, h⟩
    · exact ⟨3, by decide, h⟩
    · exact ⟨4, by decide, h⟩
  · rintro ⟨j, hj, h⟩
    have : j = 0 ∨ j = 1 ∨ j = 2 ∨ j = 3 ∨ j = 4 := by omega
    rcases this with rfl | rfl | rfl | rfl | rfl
    · exact Or.inl (Or.inl (Or.inl (Or.inl h)))
    · exact Or.inl (Or.inl (Or.inl (Or.inr h)))
    · exact Or.inl (Or.inl (Or.inr h))
    · exact Or.inl (Or.inr h)
    · exact Or.inr h
theorem tb_goT {T : TT} {s : Nat} {w : Int32} {k o i : Nat} (hk : k < 5) (ho : o < 5) (hi : i < 32) {j : Nat} (hj : j < 5) : tb (so (goT T s w k o) s (7 + j)) i = if j = o then (tb (so T s (7 + o)) i || tb w i) else if j = k then (tb (so T s (7 + k)) i && !tb w i) else tb (so T s (7 + j)) i := by
  rw [so_goT T s w hk ho (by omega)]
  by_cases c : j = o
  · rw [if_pos (by omega), if_pos c, tb_or]
  · rw [if_neg (by omega), if_neg c]
    by_cases d : j = k
    · rw [if_pos (by omega), if_pos d, tb_and, tb_not _ hi]
    · rw [if_neg (by omega), if_neg d]
theorem all_goT {T : TT} {s : Nat} {w : Int32} {k o : Nat} (hk : k < 5) (ho : o < 5) (hko : k ≠ o) (hw : ∀ i, i < 32 → tb w i = true → tb (so T s (7 + k)) i = true) : bas (goT T s w k o) s ||| so (goT T s w k o) s 11 = bas T s ||| so T s 11 := by
  apply tb_ext
  intro i hi
  rw [Bool.eq_iff_iff, tb_all, tb_all]
  constructor
  · rintro ⟨j, hj, h⟩
    rw [tb_goT hk ho hi hj] at h
    by_cases c : j = o
    · rw [if_pos c, Bool.or_eq_true] at h
      rcases h with h | h
      · exact ⟨o, ho, h⟩
      · exact ⟨k, hk, hw i hi h⟩
    · rw [if_neg c] at h
      by_cases d : j = k
      · rw [if_pos d, Bool.and_eq_true] at h
        exact ⟨k, hk, h.1⟩
      · rw [if_neg d] at h
        exact ⟨j, hj, h⟩
  · rintro ⟨j, hj, h⟩
    by_cases u : tb w i = true
    · exact ⟨o, ho, by rw [tb_goT hk ho hi ho, if_pos rfl, u, Bool.or_true]⟩
    · refine ⟨j, hj, ?_⟩
      rw [tb_goT hk ho hi hj]
      by_cases c : j = o
      · rw [if_pos c, ← c, h, Bool.true_or]
      · rw [if_neg c]
        by_cases d : j = k
        · rw [if_pos d, ← d, h, Bool.eq_false_iff.mpr u]; rfl
        · rw [if_neg d]; exact h
theorem Wse.go {T : TT} {C W s : Nat} {w : Int32} {k o : Nat} (g : Wse T C W s) (hk : k < 5) (ho : o < 5) (hko : k ≠ o) (hw : ∀ i, i < 32 → tb w i = true → tb (so T s (7 + k)) i = true) : Wse (goT T s w k o) C W s := by
  obtain ⟨g1, g2, g3, g4, g5, g6, g7, g8⟩ := g
  have lo : ∀ j, j < 7 → so (goT T s w k o) s j = so T s j := fun j hj => by rw [so_goT T s w hk ho (by omega), if_neg (by omega), if_neg (by omega)]
  have src : ∀ i j, j < 5 → i < 32 → tb (so (goT T s w k o) s (7 + j)) i = true → (tb w i = true ∧ j = o) ∨ (tb (so T s (7 + j)) i = true ∧ (j = k → ¬ tb w i = true)) := by
    intro i j hj hi h
    rw [tb_goT hk ho hi hj] at h
    by_cases c : j = o
    · rw [if_pos c, Bool.or_eq_true] at h
      rcases h with h | h
      · exact Or.inr ⟨by rw [c]; exact h, fun e => absurd (e.symm.trans c) hko⟩
      · exact Or.inl ⟨h, c⟩
    · rw [if_neg c] at h
      by_cases d : j = k
      · rw [if_pos d, Bool.and_eq_true, Bool.not_eq_true'] at h
        exact Or.inr ⟨by rw [d]; exact h.1, fun _ e => by rw [h.2] at e; cases e⟩
      · rw [if_neg d] at h
        exact Or.inr ⟨h, fun e => absurd e d⟩
  refine ⟨by rw [lo 0 (by decide)]; exact g1, by rw [lo 1 (by decide)]; exact g2, by rw [lo 2 (by decide)]; exact g3, by rw [lo 3 (by decide)]; exact g4, by rw [lo 4 (by decide)]; exact g5, by rw [lo 5 (by decide), lo 6 (by decide)]; exact g6, fun i hi a b ha hb h1 h2 => ?_, fun i a ha h => ?_⟩
  · rcases src i a ha hi h1 with ⟨u1, u2⟩ | ⟨u1, u2⟩ <;> rcases src i b hb hi h2 with ⟨u3, u4⟩ | ⟨u3, u4⟩
    · omega
    · have := g7 i hi k b hk hb (hw i hi u1) u3
      exact absurd u1 (u4 this.symm)
    · have := g7 i hi k a hk ha (hw i hi u3) u1
      exact absurd u3 (u2 this.symm)
    · exact g7 i hi a b ha hb u1 u3
  · by_cases hi : i < 32
    · rcases src i a ha hi h with ⟨u1, u2⟩ | ⟨u1, u2⟩
      · exact g8 i k hk (hw i hi u1)
      · exact g8 i a ha u1
    · rw [tb_ge _ (by omega)] at h
      cases h
/-! what class and reference show between their acts -/
def AC (x y : Cn) (W C S A N n : Nat) (T : TT) (H : Nat → TT) : Prop := CFr x y ∧ CRf y ∧ MRf y 718 ∧ Hs y C (gi x 718) n H ∧ SEA y 2 T W C S A N
def RS (z : Cn) (T : TT) (n : Nat) (H : Nat → TT) : Prop := MRf z 718 ∧ gi z 718 = T ∧ gi z 717 19 = nI n ∧ n ≤ 10 ∧ ∀ j, j < n → ∀ i, i < 518 → gi z 724 (518 * j + i) = H j i
theorem Rel.ac {x : Cn} (R : Rel x) : ∃ W C S A N n H, AC x x W C S A N n (gi x 718) H ∧ RS x (gi x 718) n H ∧ NMr x 56 (gi x 718) C := by
  obtain ⟨W, C, S, A, N, E, nm, hs⟩ := R.sea
  obtain ⟨n, hh, h19⟩ := hs.hs
  exact ⟨W, C, S, A, N, n, _, ⟨CFr.rf x, R.1, R.2.1, hh, E⟩, ⟨R.2.1, rfl, h19, hh.2.1, fun _ _ _ _ => rfl⟩, nm⟩
theorem AC.rs {x y : Cn} {W C S A N n m : Nat} {T T0 : TT} {H H0 : Nat → TT} (a : AC x y W C S A N n T H) (r : RS x T0 m H0) : RS y T0 m H0 := by
  have e : ∀ b k, 717 ≤ b → gi y b k = gi x b k := fun b k hb => a.1 b k (by omega) (by omega) (by omega) (by omega)
  exact ⟨a.2.2.1, by rw [show gi y 718 = gi x 718 from funext (fun k => e 718 k (by decide))]; exact r.2.1, by rw [e _ _ (by decide)]; exact r.2.2.1, r.2.2.2.1, fun j hj i hi => by rw [e _ _ (by decide)]; exact r.2.2.2.2 j hj i hi⟩
theorem AC.fin {x y z : Cn} {W C S A N n : Nat} {T : TT} {H : Nat → TT} (R : Rel x) (nm : NMr x 56 (gi x 718) C) (a : AC x y W C S A N n T H) (hT : ∀ c, c < C → T (54 + c) = gi x 718 (54 + c)) (f : RFr y z) (r : RS z T n H) : Rel z :=
  R.fin nm a.1 a.2.1 a.2.2.2.1 a.2.2.2.2 hT a.2.2.1 f r.2.2.1 r.2.2.2.2 (fun i _ => congrFun r.2.1 i)
/-- the landed one's season alone changes -/
theorem AC.up {x y z : Cn} {W C S A N W' S' A' N' n : Nat} {T T' : TT} {H : Nat → TT} (a : AC x y W C S A N n T H) (h1 : ∀ b k, ¬ (2 ≤ b ∧ b < 56) → gi z b k = gi y b k) (h2 : z.2 = y.2) (E : SEA z 2 T' W' C S' A' N') : AC x z W' C S' A' N' n T' H :=
  ⟨fun b k a1 a2 a3 a4 => (h1 b k a1).trans (a.1 b k a1 a2 a3 a4), a.2.1.keep h2, a.2.2.1.keep h2, a.2.2.2.1.mv a.2.1 (h1 0 5 (by omega)) (fun b k g1 g2 => h1 b k (by omega)) (fun b k _ => by unfold gr; rw [h2]) (fun _ _ => rfl), E⟩
theorem AC.e7 {x y z : Cn} {W C S A N n : Nat} {T : TT} {H : Nat → TT} (a : AC x y W C S A N n T H) (h : EQx y z 7) : AC x z W C S A N n T H := a.up (fun b k g => h.2 b k (by omega)) h.1 (a.2.2.2.2.eqx h (Or.inl rfl))
theorem AC.ser {x y z : Cn} {W C S A N n s p : Nat} {T T' : TT} {H : Nat → TT} (a : AC x y W C S A N n T H) (hs : s < S) (hp : gr y 5 s = some p) (f : EQx y z p) (hT : ∀ i, i < 518 → ¬ (62 + 12 * s ≤ i ∧ i < 74 + 12 * s) → T' i = T i) (hS : SER z p T' s) (hw : Wse T' C W s) : AC x z W C S A N n T' H := by
  have E := a.2.2.2.2
  have hS24 : S ≤ 24 := E.nums.2.2.2.2.2.2.1
  obtain ⟨j, hj, ej⟩ := E.2.1.2.2.2.2.2.1 s (by omega)
  have ep : p = 2 + 6 + j := Option.some.inj (hp.symm.trans ej)
  exact a.up (fun b k g => f.2 b k (by omega)) f.1 (E.upS hs hp f hT hS hw)
theorem AC.rem {x y : Cn} {Q : Cn → Prop} {W C S A N n : Nat} {T : TT} {H : Nat → TT} (a : AC x y W C S A N n T H) (hT : ∀ c, c < C → T (54 + c) = gi x 718 (54 + c)) (k : ∀ z, AC x z W C S A N (pn n) T (push H n T) → (∀ b j, 2 ≤ b → b < 56 → gi z b j = gi y b j) → (∀ b j, b ≠ 58 → gr z b j = gr y b j) → Q z) : mSV mX7_remember [.ref 0] KW y Q := by
  obtain ⟨a1, a2, a3, a4, a5⟩ := a
  have a4' : Hs y C T n H := ⟨a4.1, a4.2.1, fun j hj => by
    obtain ⟨q, W2, S2, A2, N2, q1, q2, q3⟩ := a4.2.2 j hj
    exact ⟨q, W2, S2, A2, N2, q1, q2, fun c hc => (q3 c hc).trans (hT c hc).symm⟩⟩
  refine sp_X7_remember a2 a5 a4' (fun z z1 z2 z3 z4 => k z ⟨fun b j b1 b2 b3 b4 => (z2 b j b3 b4).trans (a1 b j b1 b2 b3 b4), z1, ?_, ?_, a5.mv (fun b j g1 g2 => z3 b j (by omega)) (fun b j g1 g2 _ => z2 b j (by omega) (by omega)) (fun _ _ => rfl)⟩ (fun b j g1 g2 => z2 b j (by omega) (by omega)) z3)
  · unfold MRf at a3 ⊢
    simp only [z3 717 _ (by decide)]
    exact a3
  · exact ⟨z4.1, z4.2.1, fun j hj => by
      obtain ⟨q, W2, S2, A2, N2, q1, q2, q3⟩ := z4.2.2 j hj
      exact ⟨q, W2, S2, A2, N2, q1, q2, fun c hc => (q3 c hc).trans (hT c hc)⟩⟩
theorem RS.keeps {x : Cn} {Q : Cn → Prop} {n : Nat} {T : TT} {H : Nat → TT} (r : RS x T n H) (k : ∀ y, RFr x y → RS y T (pn n) (push H n T) → Q y) : mSV mX8_keeps [.ref 717] KW x Q := by
  obtain ⟨r1, r2, r3, r4, r5⟩ := r
  refine sp_X8_keeps r1 r4 r3 (fun y f y1 y2 y3 => k y f ⟨r1.keep f.1, ?_, y2, ?_, fun j hj i hi => ?_⟩)
  · rw [← r2]
    funext i
    exact y1 718 i (by decide) (by omega)
  · unfold pn
    by_cases c : n = 10
    · rw [if_pos c]; exact Nat.le_refl _
    · rw [if_neg c]; omega
  · rw [y3 j hj i hi, r2]
    unfold pn at hj
    unfold push
    by_cases c : n = 10
    · rw [if_pos c] at hj
      rw [if_pos c, if_pos c]
      by_cases d : j = 9
      · rw [if_pos d, if_pos d]
      · rw [if_neg d, if_neg d]
        exact r5 (j + 1) (by omega) i hi
    · rw [if_neg c] at hj
      rw [if_neg c, if_neg c]
      by_cases d : j = n
      · rw [if_pos d, if_pos d]
      · rw [if_neg d, if_neg d]
        exact r5 j (by omega) i hi
theorem RS.u8 {x : Cn} {n k : Nat} {T : TT} {H : Nat → TT} {v : Int32} (r : RS x T n H) : RS (ui x 718 k v) (uT T k v) n H := by
  obtain ⟨r1, r2, r3, r4, r5⟩ := r
  exact ⟨r1.keep rfl, by rw [gi_718, r2], by rw [gi_ui, if_neg (by omega)]; exact r3, r4, fun j hj i hi => by rw [gi_ui, if_neg (by omega)]; exact r5 j hj i hi⟩
set_option maxHeartbeats 2000000 in
theorem v_X8_lays_0 {K : Sh} {x : Cn} {Q : Cn → Prop} {b0 : Nat} {l1 : Int32} {l2 : Int32} {l3 : Int32} {b0_3 : Nat} {n_b0_3 : Nat} (k_b0 : kk K b0 = some (8, 0)) (g_b0_3 : gr x b0 3 = some b0_3) (k_b0_3 : kk K b0_3 = some (20, n_b0_3)) (K0 : vp_in ((62 + (12 * l1)) + l2) n_b0_3 ∧ (Q (ui x b0_3 (((62 + (12 * l1)) + l2) : Int32).toNatClampNeg l3))) : mSV mX8_lays [.ref b0, .int l1, .int l2, .int l3] K x Q := by
  refine s_V (by decide) (by simp [Value.category]) (Nat.le_of_ble_eq_true rfl) ?_
  show mGM mX8_lays 0 [some (.ref b0), some (.int l1), some (.int l2), some (.int l3)] [] (hp K x) (PV K Q)
  refine r_aload_n (pc := 0) dX8_lays_0 rfl ?_
  refine s_getR (pc := 1) dX8_lays_1 fl_X8_16 rfl k_b0 g_b0_3 ?_
  refine r_bipush (pc := 4) (v := 62) dX8_lays_4 (by decide) ?_
  refine r_bipush (pc := 6) (v := 12) dX8_lays_6 (by decide) ?_
  refine r_iload_n (pc := 8) dX8_lays_8 rfl ?_
  refine r_imul (pc := 9) dX8_lays_9 ?_
  refine r_iadd (pc := 10) dX8_lays_10 ?_
  refine r_iload_n (pc := 11) dX8_lays_11 rfl ?_
  refine r_iadd (pc := 12) dX8_lays_12 ?_
  refine r_iload_n (pc := 13) dX8_lays_13 rfl ?_
  obtain ⟨i_1, K0⟩ := K0
  refine s_iast (pc := 14) dX8_lays_14 k_b0_3 i_1 ?_
  exact s_ret rfl dX8_lays_15 K0
section
theorem sp_X8_lays {x : Cn} {Q : Cn → Prop} {t s k : Nat} {v : Int32} (M : MRf x t) (ht : kk KW t = some (20, 518)) (hs : s < 24) (hk : k < 12) (q : Q (ui x t (62 + 12 * s + k) v)) : mSV mX8_lays [.ref 717, .int (nI s), .int (nI k), .int v] KW x Q := by
  refine v_X8_lays_0 km M.2.2.1 ht ⟨iv1 hs k rfl hk, ?_⟩
  rw [ic1 hs k rfl hk]
  exact q
end
set_option maxHeartbeats 2000000 in
theorem v_X8_goes_0 {K : Sh} {x : Cn} {Q : Cn → Prop} {b0 : Nat} {l1 : Int32} {l2 : Int32} {l3 : Int32} {l4 : Int32} {b0_3 : Nat} {n_b0_3 : Nat} (k_b0 : kk K b0 = some (8, 0)) (g_b0_3 : gr x b0 3 = some b0_3) (k_b0_3 : kk K b0_3 = some (20, n_b0_3)) (K0 : (l24 l1 n_b0_3) ∧ ((l12 (7 + l3)) ∧ (mSV mX8_lays [.ref b0, .int l1, .int (7 + l3), .int ((so (gi x b0_3) (l1 : Int32).toNatClampNeg ((7 + l3) : Int32).toNatClampNeg) &&& (l2 ^^^ (-1)))] K x (fun y_3 => gr y_3 b0 3 = some b0_3 ∧ ((l12 (7 + l4)) ∧ (mSV mX8_lays [.ref b0, .int l1, .int (7 + l4), .int ((so (gi y_3 b0_3) (l1 : Int32).toNatClampNeg ((7 + l4) : Int32).toNatClampNeg) ||| l2)] K y_3 (fun y_6 => Q y_6))))))) : mSV mX8_goes [.ref b0, .int l1, .int l2, .int l3, .int l4] K x Q := by
  refine s_V (by decide) (by simp [Value.category]) (Nat.le_of_ble_eq_true rfl) ?_
  show mGM mX8_goes 0 [some (.ref b0), some (.int l1), some (.int l2), some (.int l3), some (.int l4)] [] (hp K x) (PV K Q)
  refine r_aload_n (pc := 0) dX8_goes_0 rfl ?_
  refine r_iload_n (pc := 1) dX8_goes_1 rfl ?_
  refine r_bipush (pc := 2) (v := 7) dX8_goes_2 (by decide) ?_
  refine r_iload_n (pc := 4) dX8_goes_4 rfl ?_
  refine r_iadd (pc := 5) dX8_goes_5 ?_
  refine r_aload_n (pc := 6) dX8_goes_6 rfl ?_
  refine r_iload_n (pc := 7) dX8_goes_7 rfl ?_
  refine r_bipush (pc := 8) (v := 7) dX8_goes_8 (by decide) ?_
  refine r_iload_n (pc := 10) dX8_goes_10 rfl ?_
  refine r_iadd (pc := 11) dX8_goes_11 ?_
  obtain ⟨p_1, K0⟩ := K0
  obtain ⟨p_2, K0⟩ := K0
  refine s_VI (pc := 12) mX8_one (ci := 8) (a := b0) (As := [.int l1, .int (7 + l3)]) dX8_goes_12 lk_X8_67 in_X8_one mo_X8_one ⟨by decide, rfl⟩ ⟨by decide, by decide⟩ (Nat.le_of_ble_eq_true rfl) k_b0 (sr_X8_one k_b0 g_b0_3 k_b0_3 p_1 p_2 ?_)
  refine r_iload_n (pc := 15) dX8_goes_15 rfl ?_
  refine r_iconst (pc := 16) (v := (-1)) dX8_goes_16 (by decide) ?_
  refine r_ixor (pc := 17) dX8_goes_17 ?_
  refine r_iand (pc := 18) dX8_goes_18 ?_
  refine s_VV (pc := 19) mX8_lays (ci := 8) (a := b0) (As := [.int l1, .int (7 + l3), .int ((so (gi x b0_3) (l1 : Int32).toNatClampNeg ((7 + l3) : Int32).toNatClampNeg) &&& (l2 ^^^ (-1)))]) dX8_goes_19 lk_X8_230 in_X8_lays mo_X8_lays ⟨by decide, rfl⟩ ⟨by decide, by decide⟩ (Nat.le_of_ble_eq_true rfl) k_b0 (mSV_mono K0 (fun y_3 K0 => ?_))
  refine r_aload_n (pc := 22) dX8_goes_22 rfl ?_
  refine r_iload_n (pc := 23) dX8_goes_23 rfl ?_
  refine r_bipush (pc := 24) (v := 7) dX8_goes_24 (by decide) ?_
  refine r_iload (pc := 26) dX8_goes_26 rfl ?_
  refine r_iadd (pc := 28) dX8_goes_28 ?_
  refine r_aload_n (pc := 29) dX8_goes_29 rfl ?_
  refine r_iload_n (pc := 30) dX8_goes_30 rfl ?_
  refine r_bipush (pc := 31) (v := 7) dX8_goes_31 (by decide) ?_
  refine r_iload (pc := 33) dX8_goes_33 rfl ?_
  refine r_iadd (pc := 35) dX8_goes_35 ?_
  obtain ⟨g_4, K0⟩ := K0
  obtain ⟨p_5, K0⟩ := K0
  refine s_VI (pc := 36) mX8_one (ci := 8) (a := b0) (As := [.int l1, .int (7 + l4)]) dX8_goes_36 lk_X8_67 in_X8_one mo_X8_one ⟨by decide, rfl⟩ ⟨by decide, by decide⟩ (Nat.le_of_ble_eq_true rfl) k_b0 (sr_X8_one k_b0 g_4 k_b0_3 p_1 p_5 ?_)
  refine r_iload_n (pc := 39) dX8_goes_39 rfl ?_
  refine r_ior (pc := 40) dX8_goes_40 ?_
  refine s_VV (pc := 41) mX8_lays (ci := 8) (a := b0) (As := [.int l1, .int (7 + l4), .int ((so (gi y_3 b0_3) (l1 : Int32).toNatClampNeg ((7 + l4) : Int32).toNatClampNeg) ||| l2)]) dX8_goes_41 lk_X8_230 in_X8_lays mo_X8_lays ⟨by decide, rfl⟩ ⟨by decide, by decide⟩ (Nat.le_of_ble_eq_true rfl) k_b0 (mSV_mono K0 (fun y_6 K0 => ?_))
  exact s_ret rfl dX8_goes_44 K0
section
theorem sp_X8_goes {x : Cn} {Q : Cn → Prop} {n s k o : Nat} {T : TT} {H : Nat → TT} {w : Int32} (r : RS x T n H) (hs : s < 24) (hk : k < 5) (ho : o < 5) (hko : k ≠ o) (q : ∀ y, RFr x y → RS y (goT T s w k o) n H → Q y) : mSV mX8_goes [.ref 717, .int (nI s), .int w, .int (nI k), .int (nI o)] KW x Q := by
  have M := r.1
  have e7 : ∀ j, (7 : Int32) + nI j = nI (7 + j) := fun j => by rw [show (7 : Int32) = nI 7 by decide, nI_add]
  have l7 : ∀ j, j < 5 → l12 (nI (7 + j)) := fun j hj => ⟨nI_pos' (by omega), nI_lt (b := 12) (by omega) (by decide)⟩
  refine v_X8_goes_0 km M.2.2.1 km1 ⟨l24_nI hs rfl, ?_⟩
  rw [e7, e7, nI_clamp (by omega), nI_clamp (by omega), nI_clamp (by omega), r.2.1]
  refine ⟨l7 k hk, sp_X8_lays M km1 hs (by omega) ⟨M.2.2.1, l7 o ho, ?_⟩⟩
  rw [gi_718, r.2.1, so_uT _ _ _ _ _ _ (by omega) (by omega), if_neg (by omega)]
  exact sp_X8_lays (M.keep rfl) km1 hs (by omega) (q _ (RFr.rf x).u8.u8 r.u8.u8)
theorem stt_tb {T : TT} {s w k : Nat} (hk : k < 5) (h : stt T s w = nI k) : tb (so T s (7 + k)) w = true := by
  unfold stt at h
  simp only [lpR] at h
  have hn : ∀ j : Nat, j < 5 → nI j = nI k → j = k := fun j hj e => (nI_eq (by omega) (by omega)).mp e
  by_cases c0 : tb (so T s (7 + 0)) w = true
  · rw [if_pos c0] at h
    rw [← hn 0 (by decide) h]; exact c0
  rw [if_neg c0] at h
  by_cases c1 : tb (so T s (7 + (0 + 1))) w = true
  · simp only [c1, if_true] at h
    rw [← hn 1 (by decide) h]; exact c1
  simp only [c1, if_false] at h
  by_cases c2 : tb (so T s (7 + (0 + 1 + 1))) w = true
  · simp only [c2, if_true] at h
    rw [← hn 2 (by decide) h]; exact c2
  simp only [c2, if_false] at h
  by_cases c3 : tb (so T s (7 + (0 + 1 + 1 + 1))) w = true
  · simp only [c3, if_true] at h
    rw [← hn 3 (by decide) h]; exact c3
  simp only [c3, if_false] at h
  by_cases c4 : tb (so T s (7 + (0 + 1 + 1 + 1 + 1))) w = true
  · simp only [c4, if_true] at h
    rw [← hn 4 (by decide) h]; exact c4
  simp only [c4, if_false] at h
  exact absurd (h ▸ nI_pos (n := k) (by omega)) (fun z => z (by decide))

end
end
/-! 47.acts1.lean.txt -/
section
abbrev wb (b : Int32) : Int32 := 1 <<< (b &&& 31)
theorem wb_in {T : TT} {s w k : Nat} (hw : w < 32) (h : tb (so T s (7 + k)) w = true) : ∀ i, i < 32 → tb (wb (nI w)) i = true → tb (so T s (7 + k)) i = true := fun i hi e => by
  rw [tb_one w hw i hi, decide_eq_true_eq] at e
  rw [e]; exact h
theorem an_dis {b v : Int32} (h : ∀ i, i < 32 → tb b i = true → ¬ tb v i = true) : v &&& (b ^^^ (-1)) = v := by
  apply tb_ext
  intro i hi
  rw [tb_and, tb_not _ hi]
  cases c : tb b i with
  | true => rw [Bool.eq_false_iff.mpr (h i hi c)]; rfl
  | false => simp
theorem goT_nm (T : TT) (s : Nat) (w : Int32) (k o c : Nat) (hc : c < 8) : goT T s w k o (54 + c) = T (54 + c) := by
  unfold goT
  rw [uT_ne _ _ (by omega), uT_ne _ _ (by omega)]
theorem SER.go {x y : Cn} {p s : Nat} {T : TT} {w : Int32} {k o : Nat} (h : SER x p T s) (hk : k < 5) (ho : o < 5) (hko : k ≠ o) (hw : ∀ i, i < 32 → tb w i = true → tb (so T s (7 + k)) i = true) (h7 : gi y p 7 = gi x p 7) (hj : ∀ j, j < 12 → j ≠ 7 → gi y p j = so (goT T s w k o) s j) : SER y p (goT T s w k o) s := ⟨fun j h1 h2 => hj j h1 h2, by rw [h7, h.2, all_goT hk ho hko hw]⟩
theorem AC.go {x y z : Cn} {W C S A N n s p : Nat} {T : TT} {H : Nat → TT} {w : Int32} {k o : Nat} (a : AC x y W C S A N n T H) (hs : s < S) (hp : gr y 5 s = some p) (f : EQx y z p) (hk : k < 5) (ho : o < 5) (hko : k ≠ o) (hw : ∀ i, i < 32 → tb w i = true → tb (so T s (7 + k)) i = true) (h7 : gi z p 7 = gi y p 7) (hj : ∀ j, j < 12 → j ≠ 7 → gi z p j = so (goT T s w k o) s j) : AC x z W C S A N n (goT T s w k o) H := by
  have E := a.2.2.2.2
  have hS := E.2.2.1.2.2.2.2.2.2.1 s p hs hp
  have w0 := E.2.2.2.2.2.2.2.2.2.2.2.2.2.2.2.1 s hs
  exact a.ser hs hp f (fun i _ h => goT_off T s w hk ho i h) (hS.go hk ho hko hw h7 hj) (w0.go hk ho hko hw)
set_option maxHeartbeats 2000000 in
theorem v_X7_miss_0 {K : Sh} {x : Cn} {Q : Int32 → Cn → Prop} {b0 : Nat} {l1 : Int32} {l2 : Int32} {b0_2 : Nat} {b0_2_7 : Nat} {n_b0_2_7 : Nat} (k_b0 : kk K b0 = some (7, 0)) (g_b0_2 : gr x b0 2 = some b0_2) (k_b0_2 : kk K b0_2 = some (4, 0)) (g_b0_2_7 : gr x b0_2 7 = some b0_2_7) (k_b0_2_7 : kk K b0_2_7 = some (23, n_b0_2_7)) (K0 : (¬ (0 ≤ l1 ∧ l1 < gi x b0_2 3) → (Q (-2) x)) ∧ ((0 ≤ l1 ∧ l1 < gi x b0_2 3) → (((0 ≤ l2 ∧ l2 < gi x b0_2 0) → (vp_in l1 n_b0_2_7 ∧ (∃ c_4 : Nat, gr x b0_2_7 ((l1 : Int32).toNatClampNeg) = some c_4 ∧ (kk K c_4 = some (5, 0) ∧ (mSI mX5_stateOf [.ref c_4, .int l2] K x (fun r_8 y_7 => (¬ r_8 = 0 → (Q (-6) y_7)) ∧ (r_8 = 0 → (gr y_7 b0 2 = some b0_2 ∧ (((gi y_7 b0_2 1) ≤ l2 → (mSV mX7_remember [.ref b0] K y_7 (fun y_12 => mSI mX5_missesLeft [.ref c_4] K (ui y_12 c_4 9 ((gi y_12 c_4 9) ||| (1 <<< (l2 &&& 31)))) (fun r_14 y_13 => Q r_14 y_13)))) ∧ (¬ (gi y_7 b0_2 1) ≤ l2 → (Q (-6) y_7))))))))))) ∧ (¬ (0 ≤ l2 ∧ l2 < gi x b0_2 0) → (Q (-2) x))))) : mSI mX7_miss [.ref b0, .int l1, .int l2] K x Q := by
  refine s_I (by decide) (by simp [Value.category]) (Nat.le_of_ble_eq_true rfl) ?_
  show mGM mX7_miss 0 [some (.ref b0), some (.int l1), some (.int l2), none] [] (hp K x) (PI K Q)
  refine r_aload_n (pc := 0) dX7_miss_0 rfl ?_
  refine r_iload_n (pc := 1) dX7_miss_1 rfl ?_
  refine s_VI (pc := 2) mX7_isSeries (ci := 7) (a := b0) (As := [.int l1]) dX7_miss_2 lk_X7_132 in_X7_isSeries mo_X7_isSeries ⟨by decide, rfl⟩ ⟨by decide, by decide⟩ (Nat.le_of_ble_eq_true rfl) k_b0 (sp_X7_isSeries k_b0 g_b0_2 k_b0_2 ?_)
  refine r_if_eq (pc := 5) (tgt := 16) dX7_miss_5 (by decide) (fun q => ?_) (fun q => ?_)
  · have q := (b2i_z _).mp q
    have K0 := K0.1 q
    refine r_bipush (pc := 16) (v := (-2)) dX7_miss_16 (by decide) ?_
    exact s_iret rfl dX7_miss_18 K0
  · have q := b2i_nz q
    have K0 := K0.2 q
    refine r_aload_n (pc := 8) dX7_miss_8 rfl ?_
    refine r_iload_n (pc := 9) dX7_miss_9 rfl ?_
    refine s_VI (pc := 10) mX7_isWeek (ci := 7) (a := b0) (As := [.int l2]) dX7_miss_10 lk_X7_167 in_X7_isWeek mo_X7_isWeek ⟨by decide, rfl⟩ ⟨by decide, by decide⟩ (Nat.le_of_ble_eq_true rfl) k_b0 (sp_X7_isWeek k_b0 g_b0_2 k_b0_2 ?_)
    refine r_if_ne (pc := 13) (tgt := 19) dX7_miss_13 (by decide) (fun q => ?_) (fun q => ?_)
    · have q := b2i_nz q
      have K0 := K0.1 q
      refine r_aload_n (pc := 19) dX7_miss_19 rfl ?_
      refine s_getR (pc := 20) dX7_miss_20 fl_X7_20 rfl k_b0 g_b0_2 ?_
      refine s_getR (pc := 23) dX7_miss_23 fl_X7_135 rfl k_b0_2 g_b0_2_7 ?_
      refine r_iload_n (pc := 26) dX7_miss_26 rfl ?_
      obtain ⟨i_3, K0⟩ := K0
      obtain ⟨c_4, g_5, K0⟩ := K0
      refine s_aald (pc := 27) dX7_miss_27 (by decide) rfl k_b0_2_7 i_3 g_5 ?_
      refine r_astore_n (pc := 28) dX7_miss_28 (by decide) ?_
      refine r_aload_n (pc := 29) (L := [some (.ref b0), some (.int l1), some (.int l2), some (.ref c_4)]) dX7_miss_29 rfl ?_
      refine r_iload_n (pc := 30) dX7_miss_30 rfl ?_
      obtain ⟨e_6, K0⟩ := K0
      refine s_VI (pc := 31) mX5_stateOf (ci := 5) (a := c_4) (As := [.int l2]) dX7_miss_31 lk_X7_170 in_X5_stateOf mo_X5_stateOf ⟨by decide, rfl⟩ ⟨by decide, by decide⟩ (Nat.le_of_ble_eq_true rfl) e_6 (mSI_mono K0 (fun r_8 y_7 K0 => ?_))
      refine r_if_ne (pc := 34) (tgt := 48) dX7_miss_34 (by decide) (fun q => ?_) (fun q => ?_)
      · have K0 := K0.1 q
        refine r_bipush (pc := 48) (v := (-6)) dX7_miss_48 (by decide) ?_
        exact s_iret rfl dX7_miss_50 K0
      · have K0 := K0.2 q
        refine r_iload_n (pc := 37) dX7_miss_37 rfl ?_
        refine r_aload_n (pc := 38) dX7_miss_38 rfl ?_
        obtain ⟨g_10, K0⟩ := K0
        refine s_getR (pc := 39) dX7_miss_39 fl_X7_20 rfl k_b0 g_10 ?_
        refine s_getI (pc := 42) dX7_miss_42 fl_X7_103 rfl k_b0_2 ?_
        refine r_icmp_ge (pc := 45) (tgt := 51) dX7_miss_45 (by decide) (fun q => ?_) (fun q => ?_)
        · have K0 := K0.1 q
          refine r_aload_n (pc := 51) dX7_miss_51 rfl ?_
          refine s_VV (pc := 52) mX7_remember (ci := 7) (a := b0) (As := []) dX7_miss_52 lk_X7_333 in_X7_remember mo_X7_remember ⟨by decide, rfl⟩ ⟨by decide, by decide⟩ (Nat.le_of_ble_eq_true rfl) k_b0 (mSV_mono K0 (fun y_12 K0 => ?_))
          refine r_aload_n (pc := 55) dX7_miss_55 rfl ?_
          refine r_dup (pc := 56) dX7_miss_56 rfl ?_
          refine s_getI (pc := 57) dX7_miss_57 fl_X7_266 rfl e_6 ?_
          refine r_iconst (pc := 60) (v := 1) dX7_miss_60 (by decide) ?_
          refine r_iload_n (pc := 61) dX7_miss_61 rfl ?_
          refine r_ishl (pc := 62) dX7_miss_62 ?_
          refine r_ior (pc := 63) dX7_miss_63 ?_
          refine s_putI (pc := 64) dX7_miss_64 fl_X7_266 rfl rfl e_6 ?_
          refine r_aload_n (pc := 67) dX7_miss_67 rfl ?_
          refine s_VI (pc := 68) mX5_missesLeft (ci := 5) (a := c_4) (As := []) dX7_miss_68 lk_X7_242 in_X5_missesLeft mo_X5_missesLeft ⟨by decide, rfl⟩ ⟨by decide, by decide⟩ (Nat.le_of_ble_eq_true rfl) e_6 (mSI_mono K0 (fun r_14 y_13 K0 => ?_))
          exact s_iret rfl dX7_miss_71 K0
        · have K0 := K0.2 q
          refine r_bipush (pc := 48) (v := (-6)) dX7_miss_48 (by decide) ?_
          exact s_iret rfl dX7_miss_50 K0
    · have q := (b2i_z _).mp q
      have K0 := K0.2 q
      refine r_bipush (pc := 16) (v := (-2)) dX7_miss_16 (by decide) ?_
      exact s_iret rfl dX7_miss_18 K0
set_option maxHeartbeats 2000000 in
theorem v_X8_miss_0 {K : Sh} {x : Cn} {Q : Int32 → Cn → Prop} {b0 : Nat} {l1 : Int32} {l2 : Int32} {b0_1 : Nat} {n_b0_1 : Nat} (k_b0 : kk K b0 = some (8, 0)) (g_b0_1 : gr x b0 1 = some b0_1) (k_b0_1 : kk K b0_1 = some (20, n_b0_1)) (K0 : vp_in 2 n_b0_1 ∧ ((¬ (0 ≤ l1 ∧ l1 ≤ gi x b0_1 2 - 1) → (Q (-2) x)) ∧ ((0 ≤ l1 ∧ l1 ≤ gi x b0_1 2 - 1) → (vp_in 0 n_b0_1 ∧ (((0 ≤ l2 ∧ l2 ≤ gi x b0_1 0 - 1) → (mSI mX8_stateOf [.ref b0, .int l1, .int l2] K x (fun r_6 y_5 => (¬ r_6 = 0 → (Q (-6) y_5)) ∧ (r_6 = 0 → (gr y_5 b0 1 = some b0_1 ∧ (vp_in 4 n_b0_1 ∧ (((gi y_5 b0_1 4 ≤ l2) → (mSV mX8_keeps [.ref b0] K y_5 (fun y_11 => mSV mX8_goes [.ref b0, .int l1, .int (1 <<< (l2 &&& 31)), .int 0, .int 2] K y_11 (fun y_12 => mSI mX8_spareOf [.ref b0, .int l1] K y_12 (fun r_14 y_13 => Q r_14 y_13))))) ∧ (¬ (gi y_5 b0_1 4 ≤ l2) → (Q (-6) y_5))))))))) ∧ (¬ (0 ≤ l2 ∧ l2 ≤ gi x b0_1 0 - 1) → (Q (-2) x))))))) : mSI mX8_miss [.ref b0, .int l1, .int l2] K x Q := by
  refine s_I (by decide) (by simp [Value.category]) (Nat.le_of_ble_eq_true rfl) ?_
  show mGM mX8_miss 0 [some (.ref b0), some (.int l1), some (.int l2)] [] (hp K x) (PI K Q)
  refine r_aload_n (pc := 0) dX8_miss_0 rfl ?_
  refine r_iload_n (pc := 1) dX8_miss_1 rfl ?_
  obtain ⟨i_1, K0⟩ := K0
  refine s_VI (pc := 2) mX8_isSeries (ci := 8) (a := b0) (As := [.int l1]) dX8_miss_2 lk_X8_273 in_X8_isSeries mo_X8_isSeries ⟨by decide, rfl⟩ ⟨by decide, by decide⟩ (Nat.le_of_ble_eq_true rfl) k_b0 (sp_X8_isSeries k_b0 g_b0_1 k_b0_1 i_1 ?_)
  refine r_if_eq (pc := 5) (tgt := 16) dX8_miss_5 (by decide) (fun q => ?_) (fun q => ?_)
  · have q := (b2i_z _).mp q
    have K0 := K0.1 q
    refine r_bipush (pc := 16) (v := (-2)) dX8_miss_16 (by decide) ?_
    exact s_iret rfl dX8_miss_18 K0
  · have q := b2i_nz q
    have K0 := K0.2 q
    refine r_aload_n (pc := 8) dX8_miss_8 rfl ?_
    refine r_iload_n (pc := 9) dX8_miss_9 rfl ?_
    obtain ⟨i_3, K0⟩ := K0
    refine s_VI (pc := 10) mX8_isWeek (ci := 8) (a := b0) (As := [.int l2]) dX8_miss_10 lk_X8_57 in_X8_isWeek mo_X8_isWeek ⟨by decide, rfl⟩ ⟨by decide, by decide⟩ (Nat.le_of_ble_eq_true rfl) k_b0 (sp_X8_isWeek k_b0 g_b0_1 k_b0_1 i_3 ?_)
    refine r_if_ne (pc := 13) (tgt := 19) dX8_miss_13 (by decide) (fun q => ?_) (fun q => ?_)
    · have q := b2i_nz q
      have K0 := K0.1 q
      refine r_aload_n (pc := 19) dX8_miss_19 rfl ?_
      refine r_iload_n (pc := 20) dX8_miss_20 rfl ?_
      refine r_iload_n (pc := 21) dX8_miss_21 rfl ?_
      refine s_VI (pc := 22) mX8_stateOf (ci := 8) (a := b0) (As := [.int l1, .int l2]) dX8_miss_22 lk_X8_278 in_X8_stateOf mo_X8_stateOf ⟨by decide, rfl⟩ ⟨by decide, by decide⟩ (Nat.le_of_ble_eq_true rfl) k_b0 (mSI_mono K0 (fun r_6 y_5 K0 => ?_))
      refine r_if_ne (pc := 25) (tgt := 36) dX8_miss_25 (by decide) (fun q => ?_) (fun q => ?_)
      · have K0 := K0.1 q
        refine r_bipush (pc := 36) (v := (-6)) dX8_miss_36 (by decide) ?_
        exact s_iret rfl dX8_miss_38 K0
      · have K0 := K0.2 q
        refine r_aload_n (pc := 28) dX8_miss_28 rfl ?_
        refine r_iload_n (pc := 29) dX8_miss_29 rfl ?_
        obtain ⟨g_8, K0⟩ := K0
        obtain ⟨i_9, K0⟩ := K0
        refine s_VI (pc := 30) mX8_isComing (ci := 8) (a := b0) (As := [.int l2]) dX8_miss_30 lk_X8_363 in_X8_isComing mo_X8_isComing ⟨by decide, rfl⟩ ⟨by decide, by decide⟩ (Nat.le_of_ble_eq_true rfl) k_b0 (sp_X8_isComing k_b0 g_8 k_b0_1 i_9 ?_)
        refine r_if_ne (pc := 33) (tgt := 39) dX8_miss_33 (by decide) (fun q => ?_) (fun q => ?_)
        · have q := b2i_nz q
          have K0 := K0.1 q
          refine r_aload_n (pc := 39) dX8_miss_39 rfl ?_
          refine s_VV (pc := 40) mX8_keeps (ci := 8) (a := b0) (As := []) dX8_miss_40 lk_X8_366 in_X8_keeps mo_X8_keeps ⟨by decide, rfl⟩ ⟨by decide, by decide⟩ (Nat.le_of_ble_eq_true rfl) k_b0 (mSV_mono K0 (fun y_11 K0 => ?_))
          refine r_aload_n (pc := 43) dX8_miss_43 rfl ?_
          refine r_iload_n (pc := 44) dX8_miss_44 rfl ?_
          refine r_iconst (pc := 45) (v := 1) dX8_miss_45 (by decide) ?_
          refine r_iload_n (pc := 46) dX8_miss_46 rfl ?_
          refine r_ishl (pc := 47) dX8_miss_47 ?_
          refine r_iconst (pc := 48) (v := 0) dX8_miss_48 (by decide) ?_
          refine r_iconst (pc := 49) (v := 2) dX8_miss_49 (by decide) ?_
          refine s_VV (pc := 50) mX8_goes (ci := 8) (a := b0) (As := [.int l1, .int (1 <<< (l2 &&& 31)), .int 0, .int 2]) dX8_miss_50 lk_X8_369 in_X8_goes mo_X8_goes ⟨by decide, rfl⟩ ⟨by decide, by decide⟩ (Nat.le_of_ble_eq_true rfl) k_b0 (mSV_mono K0 (fun y_12 K0 => ?_))
          refine r_aload_n (pc := 53) dX8_miss_53 rfl ?_
          refine r_iload_n (pc := 54) dX8_miss_54 rfl ?_
          refine s_VI (pc := 55) mX8_spareOf (ci := 8) (a := b0) (As := [.int l1]) dX8_miss_55 lk_X8_308 in_X8_spareOf mo_X8_spareOf ⟨by decide, rfl⟩ ⟨by decide, by decide⟩ (Nat.le_of_ble_eq_true rfl) k_b0 (mSI_mono K0 (fun r_14 y_13 K0 => ?_))
          exact s_iret rfl dX8_miss_58 K0
        · have q := (b2i_z _).mp q
          have K0 := K0.2 q
          refine r_bipush (pc := 36) (v := (-6)) dX8_miss_36 (by decide) ?_
          exact s_iret rfl dX8_miss_38 K0
    · have q := (b2i_z _).mp q
      have K0 := K0.2 q
      refine r_bipush (pc := 16) (v := (-2)) dX8_miss_16 (by decide) ?_
      exact s_iret rfl dX8_miss_18 K0
section
variable {y : Cn} {Q : Int32 → Cn → Prop} {T : TT} {W C S A N n : Nat} {H : Nat → TT}
theorem sq_X8_miss {a b : Int32} (r : RS y T n H) (F : WF T W C S A N) (k1 : ¬ ((0 ≤ a ∧ a < nI S) ∧ (0 ≤ b ∧ b < nI W)) → Q (-2) y) (k2 : (0 ≤ a ∧ a < nI S) → (0 ≤ b ∧ b < nI W) → ¬ (stt T a.toNatClampNeg b.toNatClampNeg = 0 ∧ nI N ≤ b) → Q (-6) y) (k3 : (0 ≤ a ∧ a < nI S) → (0 ≤ b ∧ b < nI W) → stt T a.toNatClampNeg b.toNatClampNeg = 0 → nI N ≤ b → ∀ z, RFr y z → RS z (goT T a.toNatClampNeg (wb b) 0 2) (pn n) (push H n T) → Q (sprT (goT T a.toNatClampNeg (wb b) 0 2) a.toNatClampNeg) z) : mSI mX8_miss [.ref 717, .int a, .int b] KW y Q := by
  have hS : S ≤ 24 := F.2.2.2.2.2.2.1
  have hW : W ≤ 30 := F.2.2.1
  have M := r.1
  refine v_X8_miss_0 km M.1 km1 ⟨v0 (k := 2) (by decide) rfl rfl, ?_⟩
  rw [r.2.1, F.2.2.2.2.2.1, F.1, inN' (by omega), inN' (by omega)]
  refine ⟨fun z => k1 (fun u => z u.1), fun z1 => ⟨v0 (k := 0) (by decide) rfl rfl, fun z2 => ?_, fun z => k1 (fun u => z u.2)⟩⟩
  have k2 := k2 z1 z2
  have k3 := k3 z1 z2
  obtain ⟨s, hs, rfl⟩ := inN (by omega) z1
  obtain ⟨w, hw, rfl⟩ := inN (by omega) z2
  rw [nI_clamp (by omega), nI_clamp (by omega)] at k2
  rw [nI_clamp (by omega), nI_clamp (by omega)] at k3
  refine sp_X8_stateOf (by omega) (by omega) M km1 ?_
  rw [r.2.1, F.2.2.2.2.2.2.2.2.2.1]
  refine ⟨fun u => k2 (fun v => u v.1), fun u => ⟨M.1, v0 (k := 4) (by decide) rfl rfl, fun u2 => ?_, fun u2 => k2 (fun v => u2 v.2)⟩⟩
  refine r.keeps (fun z f1 r1 => sp_X8_goes (k := 0) (o := 2) r1 (by omega) (by decide) (by decide) (by decide) (fun v f2 r2 => ?_))
  refine sp_X8_spareOf r2.1 km1 (by omega) ?_
  rw [r2.2.1]
  exact k3 u u2 v (f1.tr f2) r2
end
set_option maxHeartbeats 2000000 in
theorem v_X7_excuse_0 {K : Sh} {x : Cn} {Q : Int32 → Cn → Prop} {b0 : Nat} {l1 : Int32} {l2 : Int32} {b0_2 : Nat} {b0_2_7 : Nat} {n_b0_2_7 : Nat} (k_b0 : kk K b0 = some (7, 0)) (g_b0_2 : gr x b0 2 = some b0_2) (k_b0_2 : kk K b0_2 = some (4, 0)) (g_b0_2_7 : gr x b0_2 7 = some b0_2_7) (k_b0_2_7 : kk K b0_2_7 = some (23, n_b0_2_7)) (K0 : (¬ (0 ≤ l1 ∧ l1 < gi x b0_2 3) → (Q (-2) x)) ∧ ((0 ≤ l1 ∧ l1 < gi x b0_2 3) → (((0 ≤ l2 ∧ l2 < gi x b0_2 0) → (vp_in l1 n_b0_2_7 ∧ (∃ c_4 : Nat, gr x b0_2_7 ((l1 : Int32).toNatClampNeg) = some c_4 ∧ (kk K c_4 = some (5, 0) ∧ (mSI mX5_stateOf [.ref c_4, .int l2] K x (fun r_8 y_7 => (r_8 = 2 → (mSV mX7_remember [.ref b0] K y_7 (fun y_10 => ∀ r_11 : Int32, r_11 = gi (ui y_10 c_4 9 ((gi y_10 c_4 9) &&& ((1 <<< (l2 &&& 31)) ^^^ (-1)))) c_4 10 → (Q (nI (cpt (gi (ui (ui y_10 c_4 9 ((gi y_10 c_4 9) &&& ((1 <<< (l2 &&& 31)) ^^^ (-1)))) c_4 10 (r_11 ||| (1 <<< (l2 &&& 31)))) c_4 8 ||| gi (ui (ui y_10 c_4 9 ((gi y_10 c_4 9) &&& ((1 <<< (l2 &&& 31)) ^^^ (-1)))) c_4 10 (r_11 ||| (1 <<< (l2 &&& 31)))) c_4 10))) (ui (ui y_10 c_4 9 ((gi y_10 c_4 9) &&& ((1 <<< (l2 &&& 31)) ^^^ (-1)))) c_4 10 (r_11 ||| (1 <<< (l2 &&& 31)))))))) ∧ (¬ r_8 = 2 → ((r_8 = 0 → (mSV mX7_remember [.ref b0] K y_7 (fun y_14 => ∀ r_15 : Int32, r_15 = gi (ui y_14 c_4 9 ((gi y_14 c_4 9) &&& ((1 <<< (l2 &&& 31)) ^^^ (-1)))) c_4 10 → (Q (nI (cpt (gi (ui (ui y_14 c_4 9 ((gi y_14 c_4 9) &&& ((1 <<< (l2 &&& 31)) ^^^ (-1)))) c_4 10 (r_15 ||| (1 <<< (l2 &&& 31)))) c_4 8 ||| gi (ui (ui y_14 c_4 9 ((gi y_14 c_4 9) &&& ((1 <<< (l2 &&& 31)) ^^^ (-1)))) c_4 10 (r_15 ||| (1 <<< (l2 &&& 31)))) c_4 10))) (ui (ui y_14 c_4 9 ((gi y_14 c_4 9) &&& ((1 <<< (l2 &&& 31)) ^^^ (-1)))) c_4 10 (r_15 ||| (1 <<< (l2 &&& 31)))))))) ∧ (¬ r_8 = 0 → (Q (-6) y_7)))))))))) ∧ (¬ (0 ≤ l2 ∧ l2 < gi x b0_2 0) → (Q (-2) x))))) : mSI mX7_excuse [.ref b0, .int l1, .int l2] K x Q := by
  refine s_I (by decide) (by simp [Value.category]) (Nat.le_of_ble_eq_true rfl) ?_
  show mGM mX7_excuse 0 [some (.ref b0), some (.int l1), some (.int l2), none, none] [] (hp K x) (PI K Q)
  refine r_aload_n (pc := 0) dX7_excuse_0 rfl ?_
  refine r_iload_n (pc := 1) dX7_excuse_1 rfl ?_
  refine s_VI (pc := 2) mX7_isSeries (ci := 7) (a := b0) (As := [.int l1]) dX7_excuse_2 lk_X7_132 in_X7_isSeries mo_X7_isSeries ⟨by decide, rfl⟩ ⟨by decide, by decide⟩ (Nat.le_of_ble_eq_true rfl) k_b0 (sp_X7_isSeries k_b0 g_b0_2 k_b0_2 ?_)
  refine r_if_eq (pc := 5) (tgt := 16) dX7_excuse_5 (by decide) (fun q => ?_) (fun q => ?_)
  · have q := (b2i_z _).mp q
    have K0 := K0.1 q
    refine r_bipush (pc := 16) (v := (-2)) dX7_excuse_16 (by decide) ?_
    exact s_iret rfl dX7_excuse_18 K0
  · have q := b2i_nz q
    have K0 := K0.2 q
    refine r_aload_n (pc := 8) dX7_excuse_8 rfl ?_
    refine r_iload_n (pc := 9) dX7_excuse_9 rfl ?_
    refine s_VI (pc := 10) mX7_isWeek (ci := 7) (a := b0) (As := [.int l2]) dX7_excuse_10 lk_X7_167 in_X7_isWeek mo_X7_isWeek ⟨by decide, rfl⟩ ⟨by decide, by decide⟩ (Nat.le_of_ble_eq_true rfl) k_b0 (sp_X7_isWeek k_b0 g_b0_2 k_b0_2 ?_)
    refine r_if_ne (pc := 13) (tgt := 19) dX7_excuse_13 (by decide) (fun q => ?_) (fun q => ?_)
    · have q := b2i_nz q
      have K0 := K0.1 q
      refine r_aload_n (pc := 19) dX7_excuse_19 rfl ?_
      refine s_getR (pc := 20) dX7_excuse_20 fl_X7_20 rfl k_b0 g_b0_2 ?_
      refine s_getR (pc := 23) dX7_excuse_23 fl_X7_135 rfl k_b0_2 g_b0_2_7 ?_
      refine r_iload_n (pc := 26) dX7_excuse_26 rfl ?_
      obtain ⟨i_3, K0⟩ := K0
      obtain ⟨c_4, g_5, K0⟩ := K0
      refine s_aald (pc := 27) dX7_excuse_27 (by decide) rfl k_b0_2_7 i_3 g_5 ?_
      refine r_astore_n (pc := 28) dX7_excuse_28 (by decide) ?_
      refine r_aload_n (pc := 29) (L := [some (.ref b0), some (.int l1), some (.int l2), some (.ref c_4), none]) dX7_excuse_29 rfl ?_
      refine r_iload_n (pc := 30) dX7_excuse_30 rfl ?_
      obtain ⟨e_6, K0⟩ := K0
      refine s_VI (pc := 31) mX5_stateOf (ci := 5) (a := c_4) (As := [.int l2]) dX7_excuse_31 lk_X7_170 in_X5_stateOf mo_X5_stateOf ⟨by decide, rfl⟩ ⟨by decide, by decide⟩ (Nat.le_of_ble_eq_true rfl) e_6 (mSI_mono K0 (fun r_8 y_7 K0 => ?_))
      refine r_istore (pc := 34) dX7_excuse_34 (by decide) ?_
      refine r_iload (pc := 36) (L := [some (.ref b0), some (.int l1), some (.int l2), some (.ref c_4), some (.int r_8)]) dX7_excuse_36 rfl ?_
      refine r_iconst (pc := 38) (v := 2) dX7_excuse_38 (by decide) ?_
      refine r_icmp_eq (pc := 39) (tgt := 50) dX7_excuse_39 (by decide) (fun q => ?_) (fun q => ?_)
      · have K0 := K0.1 q
        refine r_aload_n (pc := 50) dX7_excuse_50 rfl ?_
        refine s_VV (pc := 51) mX7_remember (ci := 7) (a := b0) (As := []) dX7_excuse_51 lk_X7_333 in_X7_remember mo_X7_remember ⟨by decide, rfl⟩ ⟨by decide, by decide⟩ (Nat.le_of_ble_eq_true rfl) k_b0 (mSV_mono K0 (fun y_10 K0 => ?_))
        refine r_aload_n (pc := 54) dX7_excuse_54 rfl ?_
        refine r_dup (pc := 55) dX7_excuse_55 rfl ?_
        refine s_getI (pc := 56) dX7_excuse_56 fl_X7_266 rfl e_6 ?_
        refine r_iconst (pc := 59) (v := 1) dX7_excuse_59 (by decide) ?_
        refine r_iload_n (pc := 60) dX7_excuse_60 rfl ?_
        refine r_ishl (pc := 61) dX7_excuse_61 ?_
        refine r_iconst (pc := 62) (v := (-1)) dX7_excuse_62 (by decide) ?_
        refine r_ixor (pc := 63) dX7_excuse_63 ?_
        refine r_iand (pc := 64) dX7_excuse_64 ?_
        refine s_putI (pc := 65) dX7_excuse_65 fl_X7_266 rfl rfl e_6 ?_
        refine r_aload_n (pc := 68) dX7_excuse_68 rfl ?_
        refine r_dup (pc := 69) dX7_excuse_69 rfl ?_
        refine s_getI (pc := 70) dX7_excuse_70 fl_X7_336 rfl e_6 ?_
        obtain ⟨r_11, w_12⟩ : ∃ z : Int32, z = gi (ui y_10 c_4 9 ((gi y_10 c_4 9) &&& ((1 <<< (l2 &&& 31)) ^^^ (-1)))) c_4 10 := ⟨_, rfl⟩
        rw [← w_12]
        have K0 := K0 r_11 w_12
        refine r_iconst (pc := 73) (v := 1) dX7_excuse_73 (by decide) ?_
        refine r_iload_n (pc := 74) dX7_excuse_74 rfl ?_
        refine r_ishl (pc := 75) dX7_excuse_75 ?_
        refine r_ior (pc := 76) dX7_excuse_76 ?_
        refine s_putI (pc := 77) dX7_excuse_77 fl_X7_336 rfl rfl e_6 ?_
        refine r_aload_n (pc := 80) dX7_excuse_80 rfl ?_
        refine s_VI (pc := 81) mX5_good (ci := 5) (a := c_4) (As := []) dX7_excuse_81 lk_X7_233 in_X5_good mo_X5_good ⟨by decide, rfl⟩ ⟨by decide, by decide⟩ (Nat.le_of_ble_eq_true rfl) e_6 (sp_X5_good e_6 ?_)
        exact s_iret rfl dX7_excuse_84 K0
      · have K0 := K0.2 q
        refine r_iload (pc := 42) dX7_excuse_42 rfl ?_
        refine r_if_eq (pc := 44) (tgt := 50) dX7_excuse_44 (by decide) (fun q => ?_) (fun q => ?_)
        · have K0 := K0.1 q
          refine r_aload_n (pc := 50) dX7_excuse_50 rfl ?_
          refine s_VV (pc := 51) mX7_remember (ci := 7) (a := b0) (As := []) dX7_excuse_51 lk_X7_333 in_X7_remember mo_X7_remember ⟨by decide, rfl⟩ ⟨by decide, by decide⟩ (Nat.le_of_ble_eq_true rfl) k_b0 (mSV_mono K0 (fun y_14 K0 => ?_))
          refine r_aload_n (pc := 54) dX7_excuse_54 rfl ?_
          refine r_dup (pc := 55) dX7_excuse_55 rfl ?_
          refine s_getI (pc := 56) dX7_excuse_56 fl_X7_266 rfl e_6 ?_
          refine r_iconst (pc := 59) (v := 1) dX7_excuse_59 (by decide) ?_
          refine r_iload_n (pc := 60) dX7_excuse_60 rfl ?_
          refine r_ishl (pc := 61) dX7_excuse_61 ?_
          refine r_iconst (pc := 62) (v := (-1)) dX7_excuse_62 (by decide) ?_
          refine r_ixor (pc := 63) dX7_excuse_63 ?_
          refine r_iand (pc := 64) dX7_excuse_64 ?_
          refine s_putI (pc := 65) dX7_excuse_65 fl_X7_266 rfl rfl e_6 ?_
          refine r_aload_n (pc := 68) dX7_excuse_68 rfl ?_
          refine r_dup (pc := 69) dX7_excuse_69 rfl ?_
          refine s_getI (pc := 70) dX7_excuse_70 fl_X7_336 rfl e_6 ?_
          obtain ⟨r_15, w_16⟩ : ∃ z : Int32, z = gi (ui y_14 c_4 9 ((gi y_14 c_4 9) &&& ((1 <<< (l2 &&& 31)) ^^^ (-1)))) c_4 10 := ⟨_, rfl⟩
          rw [← w_16]
          have K0 := K0 r_15 w_16
          refine r_iconst (pc := 73) (v := 1) dX7_excuse_73 (by decide) ?_
          refine r_iload_n (pc := 74) dX7_excuse_74 rfl ?_
          refine r_ishl (pc := 75) dX7_excuse_75 ?_
          refine r_ior (pc := 76) dX7_excuse_76 ?_
          refine s_putI (pc := 77) dX7_excuse_77 fl_X7_336 rfl rfl e_6 ?_
          refine r_aload_n (pc := 80) dX7_excuse_80 rfl ?_
          refine s_VI (pc := 81) mX5_good (ci := 5) (a := c_4) (As := []) dX7_excuse_81 lk_X7_233 in_X5_good mo_X5_good ⟨by decide, rfl⟩ ⟨by decide, by decide⟩ (Nat.le_of_ble_eq_true rfl) e_6 (sp_X5_good e_6 ?_)
          exact s_iret rfl dX7_excuse_84 K0
        · have K0 := K0.2 q
          refine r_bipush (pc := 47) (v := (-6)) dX7_excuse_47 (by decide) ?_
          exact s_iret rfl dX7_excuse_49 K0
    · have q := (b2i_z _).mp q
      have K0 := K0.2 q
      refine r_bipush (pc := 16) (v := (-2)) dX7_excuse_16 (by decide) ?_
      exact s_iret rfl dX7_excuse_18 K0
set_option maxHeartbeats 2000000 in
theorem v_X8_excuse_0 {K : Sh} {x : Cn} {Q : Int32 → Cn → Prop} {b0 : Nat} {l1 : Int32} {l2 : Int32} {b0_1 : Nat} {n_b0_1 : Nat} (k_b0 : kk K b0 = some (8, 0)) (g_b0_1 : gr x b0 1 = some b0_1) (k_b0_1 : kk K b0_1 = some (20, n_b0_1)) (K0 : vp_in 2 n_b0_1 ∧ ((¬ (0 ≤ l1 ∧ l1 ≤ gi x b0_1 2 - 1) → (Q (-2) x)) ∧ ((0 ≤ l1 ∧ l1 ≤ gi x b0_1 2 - 1) → (vp_in 0 n_b0_1 ∧ (((0 ≤ l2 ∧ l2 ≤ gi x b0_1 0 - 1) → (mSI mX8_stateOf [.ref b0, .int l1, .int l2] K x (fun r_6 y_5 => (r_6 = 0 → (mSV mX8_keeps [.ref b0] K y_5 (fun y_8 => mSV mX8_goes [.ref b0, .int l1, .int (1 <<< (l2 &&& 31)), .int r_6, .int 3] K y_8 (fun y_9 => ∃ c_10 : Nat, gr y_9 b0 3 = some c_10 ∧ (∃ n_13 : Nat, kk K c_10 = some (20, n_13) ∧ ((l24 l1 n_13) ∧ (Q (nI (cpt (so (gi y_9 c_10) (l1 : Int32).toNatClampNeg 8 ||| so (gi y_9 c_10) (l1 : Int32).toNatClampNeg 10))) y_9))))))) ∧ (¬ r_6 = 0 → ((r_6 = 2 → (mSV mX8_keeps [.ref b0] K y_5 (fun y_16 => mSV mX8_goes [.ref b0, .int l1, .int (1 <<< (l2 &&& 31)), .int r_6, .int 3] K y_16 (fun y_17 => ∃ c_18 : Nat, gr y_17 b0 3 = some c_18 ∧ (∃ n_21 : Nat, kk K c_18 = some (20, n_21) ∧ ((l24 l1 n_21) ∧ (Q (nI (cpt (so (gi y_17 c_18) (l1 : Int32).toNatClampNeg 8 ||| so (gi y_17 c_18) (l1 : Int32).toNatClampNeg 10))) y_17))))))) ∧ (¬ r_6 = 2 → (Q (-6) y_5))))))) ∧ (¬ (0 ≤ l2 ∧ l2 ≤ gi x b0_1 0 - 1) → (Q (-2) x))))))) : mSI mX8_excuse [.ref b0, .int l1, .int l2] K x Q := by
  refine s_I (by decide) (by simp [Value.category]) (Nat.le_of_ble_eq_true rfl) ?_
  show mGM mX8_excuse 0 [some (.ref b0), some (.int l1), some (.int l2), none] [] (hp K x) (PI K Q)
  refine r_aload_n (pc := 0) dX8_excuse_0 rfl ?_
  refine r_iload_n (pc := 1) dX8_excuse_1 rfl ?_
  obtain ⟨i_1, K0⟩ := K0
  refine s_VI (pc := 2) mX8_isSeries (ci := 8) (a := b0) (As := [.int l1]) dX8_excuse_2 lk_X8_273 in_X8_isSeries mo_X8_isSeries ⟨by decide, rfl⟩ ⟨by decide, by decide⟩ (Nat.le_of_ble_eq_true rfl) k_b0 (sp_X8_isSeries k_b0 g_b0_1 k_b0_1 i_1 ?_)
  refine r_if_eq (pc := 5) (tgt := 16) dX8_excuse_5 (by decide) (fun q => ?_) (fun q => ?_)
  · have q := (b2i_z _).mp q
    have K0 := K0.1 q
    refine r_bipush (pc := 16) (v := (-2)) dX8_excuse_16 (by decide) ?_
    exact s_iret rfl dX8_excuse_18 K0
  · have q := b2i_nz q
    have K0 := K0.2 q
    refine r_aload_n (pc := 8) dX8_excuse_8 rfl ?_
    refine r_iload_n (pc := 9) dX8_excuse_9 rfl ?_
    obtain ⟨i_3, K0⟩ := K0
    refine s_VI (pc := 10) mX8_isWeek (ci := 8) (a := b0) (As := [.int l2]) dX8_excuse_10 lk_X8_57 in_X8_isWeek mo_X8_isWeek ⟨by decide, rfl⟩ ⟨by decide, by decide⟩ (Nat.le_of_ble_eq_true rfl) k_b0 (sp_X8_isWeek k_b0 g_b0_1 k_b0_1 i_3 ?_)
    refine r_if_ne (pc := 13) (tgt := 19) dX8_excuse_13 (by decide) (fun q => ?_) (fun q => ?_)
    · have q := b2i_nz q
      have K0 := K0.1 q
      refine r_aload_n (pc := 19) dX8_excuse_19 rfl ?_
      refine r_iload_n (pc := 20) dX8_excuse_20 rfl ?_
      refine r_iload_n (pc := 21) dX8_excuse_21 rfl ?_
      refine s_VI (pc := 22) mX8_stateOf (ci := 8) (a := b0) (As := [.int l1, .int l2]) dX8_excuse_22 lk_X8_278 in_X8_stateOf mo_X8_stateOf ⟨by decide, rfl⟩ ⟨by decide, by decide⟩ (Nat.le_of_ble_eq_true rfl) k_b0 (mSI_mono K0 (fun r_6 y_5 K0 => ?_))
      refine r_istore_n (pc := 25) dX8_excuse_25 (by decide) ?_
      refine r_iload_n (pc := 26) (L := [some (.ref b0), some (.int l1), some (.int l2), some (.int r_6)]) dX8_excuse_26 rfl ?_
      refine r_if_eq (pc := 27) (tgt := 38) dX8_excuse_27 (by decide) (fun q => ?_) (fun q => ?_)
      · have K0 := K0.1 q
        refine r_aload_n (pc := 38) dX8_excuse_38 rfl ?_
        refine s_VV (pc := 39) mX8_keeps (ci := 8) (a := b0) (As := []) dX8_excuse_39 lk_X8_366 in_X8_keeps mo_X8_keeps ⟨by decide, rfl⟩ ⟨by decide, by decide⟩ (Nat.le_of_ble_eq_true rfl) k_b0 (mSV_mono K0 (fun y_8 K0 => ?_))
        refine r_aload_n (pc := 42) dX8_excuse_42 rfl ?_
        refine r_iload_n (pc := 43) dX8_excuse_43 rfl ?_
        refine r_iconst (pc := 44) (v := 1) dX8_excuse_44 (by decide) ?_
        refine r_iload_n (pc := 45) dX8_excuse_45 rfl ?_
        refine r_ishl (pc := 46) dX8_excuse_46 ?_
        refine r_iload_n (pc := 47) dX8_excuse_47 rfl ?_
        refine r_iconst (pc := 48) (v := 3) dX8_excuse_48 (by decide) ?_
        refine s_VV (pc := 49) mX8_goes (ci := 8) (a := b0) (As := [.int l1, .int (1 <<< (l2 &&& 31)), .int r_6, .int 3]) dX8_excuse_49 lk_X8_369 in_X8_goes mo_X8_goes ⟨by decide, rfl⟩ ⟨by decide, by decide⟩ (Nat.le_of_ble_eq_true rfl) k_b0 (mSV_mono K0 (fun y_9 K0 => ?_))
        refine r_aload_n (pc := 52) dX8_excuse_52 rfl ?_
        refine r_iload_n (pc := 53) dX8_excuse_53 rfl ?_
        obtain ⟨c_10, g_11, K0⟩ := K0
        obtain ⟨n_13, e_12, K0⟩ := K0
        obtain ⟨p_14, K0⟩ := K0
        refine s_VI (pc := 54) mX8_goodOf (ci := 8) (a := b0) (As := [.int l1]) dX8_excuse_54 lk_X8_299 in_X8_goodOf mo_X8_goodOf ⟨by decide, rfl⟩ ⟨by decide, by decide⟩ (Nat.le_of_ble_eq_true rfl) k_b0 (sr_X8_goodOf k_b0 g_11 e_12 p_14 ?_)
        exact s_iret rfl dX8_excuse_57 K0
      · have K0 := K0.2 q
        refine r_iload_n (pc := 30) dX8_excuse_30 rfl ?_
        refine r_iconst (pc := 31) (v := 2) dX8_excuse_31 (by decide) ?_
        refine r_icmp_eq (pc := 32) (tgt := 38) dX8_excuse_32 (by decide) (fun q => ?_) (fun q => ?_)
        · have K0 := K0.1 q
          refine r_aload_n (pc := 38) dX8_excuse_38 rfl ?_
          refine s_VV (pc := 39) mX8_keeps (ci := 8) (a := b0) (As := []) dX8_excuse_39 lk_X8_366 in_X8_keeps mo_X8_keeps ⟨by decide, rfl⟩ ⟨by decide, by decide⟩ (Nat.le_of_ble_eq_true rfl) k_b0 (mSV_mono K0 (fun y_16 K0 => ?_))
          refine r_aload_n (pc := 42) dX8_excuse_42 rfl ?_
          refine r_iload_n (pc := 43) dX8_excuse_43 rfl ?_
          refine r_iconst (pc := 44) (v := 1) dX8_excuse_44 (by decide) ?_
          refine r_iload_n (pc := 45) dX8_excuse_45 rfl ?_
          refine r_ishl (pc := 46) dX8_excuse_46 ?_
          refine r_iload_n (pc := 47) dX8_excuse_47 rfl ?_
          refine r_iconst (pc := 48) (v := 3) dX8_excuse_48 (by decide) ?_
          refine s_VV (pc := 49) mX8_goes (ci := 8) (a := b0) (As := [.int l1, .int (1 <<< (l2 &&& 31)), .int r_6, .int 3]) dX8_excuse_49 lk_X8_369 in_X8_goes mo_X8_goes ⟨by decide, rfl⟩ ⟨by decide, by decide⟩ (Nat.le_of_ble_eq_true rfl) k_b0 (mSV_mono K0 (fun y_17 K0 => ?_))
          refine r_aload_n (pc := 52) dX8_excuse_52 rfl ?_
          refine r_iload_n (pc := 53) dX8_excuse_53 rfl ?_
          obtain ⟨c_18, g_19, K0⟩ := K0
          obtain ⟨n_21, e_20, K0⟩ := K0
          obtain ⟨p_22, K0⟩ := K0
          refine s_VI (pc := 54) mX8_goodOf (ci := 8) (a := b0) (As := [.int l1]) dX8_excuse_54 lk_X8_299 in_X8_goodOf mo_X8_goodOf ⟨by decide, rfl⟩ ⟨by decide, by decide⟩ (Nat.le_of_ble_eq_true rfl) k_b0 (sr_X8_goodOf k_b0 g_19 e_20 p_22 ?_)
          exact s_iret rfl dX8_excuse_57 K0
        · have K0 := K0.2 q
          refine r_bipush (pc := 35) (v := (-6)) dX8_excuse_35 (by decide) ?_
          exact s_iret rfl dX8_excuse_37 K0
    · have q := (b2i_z _).mp q
      have K0 := K0.2 q
      refine r_bipush (pc := 16) (v := (-2)) dX8_excuse_16 (by decide) ?_
      exact s_iret rfl dX8_excuse_18 K0
section
variable {y : Cn} {Q : Int32 → Cn → Prop} {T : TT} {W C S A N n : Nat} {H : Nat → TT}
theorem sq_X8_excuse {a b : Int32} (r : RS y T n H) (F : WF T W C S A N) (k1 : ¬ ((0 ≤ a ∧ a < nI S) ∧ (0 ≤ b ∧ b < nI W)) → Q (-2) y) (k2 : (0 ≤ a ∧ a < nI S) → (0 ≤ b ∧ b < nI W) → ¬ stt T a.toNatClampNeg b.toNatClampNeg = 0 → ¬ stt T a.toNatClampNeg b.toNatClampNeg = 2 → Q (-6) y) (k3 : (0 ≤ a ∧ a < nI S) → (0 ≤ b ∧ b < nI W) → ∀ k, k = 0 ∨ k = 2 → stt T a.toNatClampNeg b.toNatClampNeg = nI k → ∀ z, RFr y z → RS z (goT T a.toNatClampNeg (wb b) k 3) (pn n) (push H n T) → Q (nI (cpt (so (goT T a.toNatClampNeg (wb b) k 3) a.toNatClampNeg 8 ||| so (goT T a.toNatClampNeg (wb b) k 3) a.toNatClampNeg 10))) z) : mSI mX8_excuse [.ref 717, .int a, .int b] KW y Q := by
  have hS : S ≤ 24 := F.2.2.2.2.2.2.1
  have hW : W ≤ 30 := F.2.2.1
  have M := r.1
  refine v_X8_excuse_0 km M.1 km1 ⟨v0 (k := 2) (by decide) rfl rfl, ?_⟩
  rw [r.2.1, F.2.2.2.2.2.1, F.1, inN' (by omega), inN' (by omega)]
  refine ⟨fun z => k1 (fun u => z u.1), fun z1 => ⟨v0 (k := 0) (by decide) rfl rfl, fun z2 => ?_, fun z => k1 (fun u => z u.2)⟩⟩
  have k2 := k2 z1 z2
  have k3 := k3 z1 z2
  obtain ⟨s, hs, rfl⟩ := inN (by omega) z1
  obtain ⟨w, hw, rfl⟩ := inN (by omega) z2
  rw [nI_clamp (by omega), nI_clamp (by omega)] at k2
  rw [nI_clamp (by omega), nI_clamp (by omega)] at k3
  refine sp_X8_stateOf (by omega) (by omega) M km1 ?_
  rw [r.2.1]
  have go : ∀ k, k = 0 ∨ k = 2 → stt T s w = nI k → mSV mX8_keeps [.ref 717] KW y (fun y_8 => mSV mX8_goes [.ref 717, .int (nI s), .int (1 <<< (nI w &&& 31)), .int (stt T s w), .int 3] KW y_8 (fun y_9 => ∃ c_10, gr y_9 717 3 = some c_10 ∧ (∃ n_13, kk KW c_10 = some (20, n_13) ∧ ((l24 (nI s) n_13) ∧ (Q (nI (cpt (so (gi y_9 c_10) (nI s).toNatClampNeg 8 ||| so (gi y_9 c_10) (nI s).toNatClampNeg 10))) y_9))))) := by
    intro k hk e
    rw [e]
    refine r.keeps (fun z f1 r1 => sp_X8_goes (o := 3) r1 (by omega) (by omega) (by decide) (by omega) (fun v f2 r2 => ⟨718, r2.1.2.2.1, 518, km1, l24_nI (by omega) rfl, ?_⟩))
    rw [r2.2.1, nI_clamp (by omega)]
    exact k3 k hk e v (f1.tr f2) r2
  exact ⟨fun u => go 0 (Or.inl rfl) u, fun u => ⟨fun u2 => go 2 (Or.inr rfl) u2, fun u2 => k2 u u2⟩⟩
end
set_option maxHeartbeats 2000000 in
theorem v_X7_fly_0 {K : Sh} {x : Cn} {Q : Int32 → Cn → Prop} {b0 : Nat} {l1 : Int32} {l2 : Int32} {b0_2 : Nat} {b0_2_7 : Nat} {n_b0_2_7 : Nat} (k_b0 : kk K b0 = some (7, 0)) (g_b0_2 : gr x b0 2 = some b0_2) (k_b0_2 : kk K b0_2 = some (4, 0)) (g_b0_2_7 : gr x b0_2 7 = some b0_2_7) (k_b0_2_7 : kk K b0_2_7 = some (23, n_b0_2_7)) (K0 : (¬ (0 ≤ l1 ∧ l1 < gi x b0_2 3) → (Q (-2) x)) ∧ ((0 ≤ l1 ∧ l1 < gi x b0_2 3) → (((0 ≤ l2 ∧ l2 < gi x b0_2 0) → (vp_in l1 n_b0_2_7 ∧ (∃ c_4 : Nat, gr x b0_2_7 ((l1 : Int32).toNatClampNeg) = some c_4 ∧ (kk K c_4 = some (5, 0) ∧ (mSI mX5_stateOf [.ref c_4, .int l2] K x (fun r_8 y_7 => (r_8 = 2 → (gr y_7 b0 2 = some b0_2 ∧ (((gi y_7 b0_2 1) ≤ l2 → (mSV mX7_remember [.ref b0] K y_7 (fun y_12 => ∀ r_13 : Int32, r_13 = gi (ui y_12 c_4 9 ((gi y_12 c_4 9) &&& ((1 <<< (l2 &&& 31)) ^^^ (-1)))) c_4 10 → (Q r_8 (ui (ui y_12 c_4 9 ((gi y_12 c_4 9) &&& ((1 <<< (l2 &&& 31)) ^^^ (-1)))) c_4 10 (r_13 &&& ((1 <<< (l2 &&& 31)) ^^^ (-1)))))))) ∧ (¬ (gi y_7 b0_2 1) ≤ l2 → (Q (-6) y_7))))) ∧ (¬ r_8 = 2 → ((¬ r_8 = 3 → (Q (-6) y_7)) ∧ (r_8 = 3 → (gr y_7 b0 2 = some b0_2 ∧ (((gi y_7 b0_2 1) ≤ l2 → (mSV mX7_remember [.ref b0] K y_7 (fun y_18 => ∀ r_19 : Int32, r_19 = gi (ui y_18 c_4 9 ((gi y_18 c_4 9) &&& ((1 <<< (l2 &&& 31)) ^^^ (-1)))) c_4 10 → (Q r_8 (ui (ui y_18 c_4 9 ((gi y_18 c_4 9) &&& ((1 <<< (l2 &&& 31)) ^^^ (-1)))) c_4 10 (r_19 &&& ((1 <<< (l2 &&& 31)) ^^^ (-1)))))))) ∧ (¬ (gi y_7 b0_2 1) ≤ l2 → (Q (-6) y_7))))))))))))) ∧ (¬ (0 ≤ l2 ∧ l2 < gi x b0_2 0) → (Q (-2) x))))) : mSI mX7_fly [.ref b0, .int l1, .int l2] K x Q := by
  refine s_I (by decide) (by simp [Value.category]) (Nat.le_of_ble_eq_true rfl) ?_
  show mGM mX7_fly 0 [some (.ref b0), some (.int l1), some (.int l2), none, none] [] (hp K x) (PI K Q)
  refine r_aload_n (pc := 0) dX7_fly_0 rfl ?_
  refine r_iload_n (pc := 1) dX7_fly_1 rfl ?_
  refine s_VI (pc := 2) mX7_isSeries (ci := 7) (a := b0) (As := [.int l1]) dX7_fly_2 lk_X7_132 in_X7_isSeries mo_X7_isSeries ⟨by decide, rfl⟩ ⟨by decide, by decide⟩ (Nat.le_of_ble_eq_true rfl) k_b0 (sp_X7_isSeries k_b0 g_b0_2 k_b0_2 ?_)
  refine r_if_eq (pc := 5) (tgt := 16) dX7_fly_5 (by decide) (fun q => ?_) (fun q => ?_)
  · have q := (b2i_z _).mp q
    have K0 := K0.1 q
    refine r_bipush (pc := 16) (v := (-2)) dX7_fly_16 (by decide) ?_
    exact s_iret rfl dX7_fly_18 K0
  · have q := b2i_nz q
    have K0 := K0.2 q
    refine r_aload_n (pc := 8) dX7_fly_8 rfl ?_
    refine r_iload_n (pc := 9) dX7_fly_9 rfl ?_
    refine s_VI (pc := 10) mX7_isWeek (ci := 7) (a := b0) (As := [.int l2]) dX7_fly_10 lk_X7_167 in_X7_isWeek mo_X7_isWeek ⟨by decide, rfl⟩ ⟨by decide, by decide⟩ (Nat.le_of_ble_eq_true rfl) k_b0 (sp_X7_isWeek k_b0 g_b0_2 k_b0_2 ?_)
    refine r_if_ne (pc := 13) (tgt := 19) dX7_fly_13 (by decide) (fun q => ?_) (fun q => ?_)
    · have q := b2i_nz q
      have K0 := K0.1 q
      refine r_aload_n (pc := 19) dX7_fly_19 rfl ?_
      refine s_getR (pc := 20) dX7_fly_20 fl_X7_20 rfl k_b0 g_b0_2 ?_
      refine s_getR (pc := 23) dX7_fly_23 fl_X7_135 rfl k_b0_2 g_b0_2_7 ?_
      refine r_iload_n (pc := 26) dX7_fly_26 rfl ?_
      obtain ⟨i_3, K0⟩ := K0
      obtain ⟨c_4, g_5, K0⟩ := K0
      refine s_aald (pc := 27) dX7_fly_27 (by decide) rfl k_b0_2_7 i_3 g_5 ?_
      refine r_astore_n (pc := 28) dX7_fly_28 (by decide) ?_
      refine r_aload_n (pc := 29) (L := [some (.ref b0), some (.int l1), some (.int l2), some (.ref c_4), none]) dX7_fly_29 rfl ?_
      refine r_iload_n (pc := 30) dX7_fly_30 rfl ?_
      obtain ⟨e_6, K0⟩ := K0
      refine s_VI (pc := 31) mX5_stateOf (ci := 5) (a := c_4) (As := [.int l2]) dX7_fly_31 lk_X7_170 in_X5_stateOf mo_X5_stateOf ⟨by decide, rfl⟩ ⟨by decide, by decide⟩ (Nat.le_of_ble_eq_true rfl) e_6 (mSI_mono K0 (fun r_8 y_7 K0 => ?_))
      refine r_istore (pc := 34) dX7_fly_34 (by decide) ?_
      refine r_iload (pc := 36) (L := [some (.ref b0), some (.int l1), some (.int l2), some (.ref c_4), some (.int r_8)]) dX7_fly_36 rfl ?_
      refine r_iconst (pc := 38) (v := 2) dX7_fly_38 (by decide) ?_
      refine r_icmp_eq (pc := 39) (tgt := 48) dX7_fly_39 (by decide) (fun q => ?_) (fun q => ?_)
      · have K0 := K0.1 q
        refine r_iload_n (pc := 48) dX7_fly_48 rfl ?_
        refine r_aload_n (pc := 49) dX7_fly_49 rfl ?_
        obtain ⟨g_10, K0⟩ := K0
        refine s_getR (pc := 50) dX7_fly_50 fl_X7_20 rfl k_b0 g_10 ?_
        refine s_getI (pc := 53) dX7_fly_53 fl_X7_103 rfl k_b0_2 ?_
        refine r_icmp_ge (pc := 56) (tgt := 62) dX7_fly_56 (by decide) (fun q => ?_) (fun q => ?_)
        · have K0 := K0.1 q
          refine r_aload_n (pc := 62) dX7_fly_62 rfl ?_
          refine s_VV (pc := 63) mX7_remember (ci := 7) (a := b0) (As := []) dX7_fly_63 lk_X7_333 in_X7_remember mo_X7_remember ⟨by decide, rfl⟩ ⟨by decide, by decide⟩ (Nat.le_of_ble_eq_true rfl) k_b0 (mSV_mono K0 (fun y_12 K0 => ?_))
          refine r_aload_n (pc := 66) dX7_fly_66 rfl ?_
          refine r_dup (pc := 67) dX7_fly_67 rfl ?_
          refine s_getI (pc := 68) dX7_fly_68 fl_X7_266 rfl e_6 ?_
          refine r_iconst (pc := 71) (v := 1) dX7_fly_71 (by decide) ?_
          refine r_iload_n (pc := 72) dX7_fly_72 rfl ?_
          refine r_ishl (pc := 73) dX7_fly_73 ?_
          refine r_iconst (pc := 74) (v := (-1)) dX7_fly_74 (by decide) ?_
          refine r_ixor (pc := 75) dX7_fly_75 ?_
          refine r_iand (pc := 76) dX7_fly_76 ?_
          refine s_putI (pc := 77) dX7_fly_77 fl_X7_266 rfl rfl e_6 ?_
          refine r_aload_n (pc := 80) dX7_fly_80 rfl ?_
          refine r_dup (pc := 81) dX7_fly_81 rfl ?_
          refine s_getI (pc := 82) dX7_fly_82 fl_X7_336 rfl e_6 ?_
          obtain ⟨r_13, w_14⟩ : ∃ z : Int32, z = gi (ui y_12 c_4 9 ((gi y_12 c_4 9) &&& ((1 <<< (l2 &&& 31)) ^^^ (-1)))) c_4 10 := ⟨_, rfl⟩
          rw [← w_14]
          have K0 := K0 r_13 w_14
          refine r_iconst (pc := 85) (v := 1) dX7_fly_85 (by decide) ?_
          refine r_iload_n (pc := 86) dX7_fly_86 rfl ?_
          refine r_ishl (pc := 87) dX7_fly_87 ?_
          refine r_iconst (pc := 88) (v := (-1)) dX7_fly_88 (by decide) ?_
          refine r_ixor (pc := 89) dX7_fly_89 ?_
          refine r_iand (pc := 90) dX7_fly_90 ?_
          refine s_putI (pc := 91) dX7_fly_91 fl_X7_336 rfl rfl e_6 ?_
          refine r_iload (pc := 94) dX7_fly_94 rfl ?_
          exact s_iret rfl dX7_fly_96 K0
        · have K0 := K0.2 q
          refine r_bipush (pc := 59) (v := (-6)) dX7_fly_59 (by decide) ?_
          exact s_iret rfl dX7_fly_61 K0
      · have K0 := K0.2 q
        refine r_iload (pc := 42) dX7_fly_42 rfl ?_
        refine r_iconst (pc := 44) (v := 3) dX7_fly_44 (by decide) ?_
        refine r_icmp_ne (pc := 45) (tgt := 59) dX7_fly_45 (by decide) (fun q => ?_) (fun q => ?_)
        · have K0 := K0.1 q
          refine r_bipush (pc := 59) (v := (-6)) dX7_fly_59 (by decide) ?_
          exact s_iret rfl dX7_fly_61 K0
        · have K0 := K0.2 q
          refine r_iload_n (pc := 48) dX7_fly_48 rfl ?_
          refine r_aload_n (pc := 49) dX7_fly_49 rfl ?_
          obtain ⟨g_16, K0⟩ := K0
          refine s_getR (pc := 50) dX7_fly_50 fl_X7_20 rfl k_b0 g_16 ?_
          refine s_getI (pc := 53) dX7_fly_53 fl_X7_103 rfl k_b0_2 ?_
          refine r_icmp_ge (pc := 56) (tgt := 62) dX7_fly_56 (by decide) (fun q => ?_) (fun q => ?_)
          · have K0 := K0.1 q
            refine r_aload_n (pc := 62) dX7_fly_62 rfl ?_
            refine s_VV (pc := 63) mX7_remember (ci := 7) (a := b0) (As := []) dX7_fly_63 lk_X7_333 in_X7_remember mo_X7_remember ⟨by decide, rfl⟩ ⟨by decide, by decide⟩ (Nat.le_of_ble_eq_true rfl) k_b0 (mSV_mono K0 (fun y_18 K0 => ?_))
            refine r_aload_n (pc := 66) dX7_fly_66 rfl ?_
            refine r_dup (pc := 67) dX7_fly_67 rfl ?_
            refine s_getI (pc := 68) dX7_fly_68 fl_X7_266 rfl e_6 ?_
            refine r_iconst (pc := 71) (v := 1) dX7_fly_71 (by decide) ?_
            refine r_iload_n (pc := 72) dX7_fly_72 rfl ?_
            refine r_ishl (pc := 73) dX7_fly_73 ?_
            refine r_iconst (pc := 74) (v := (-1)) dX7_fly_74 (by decide) ?_
            refine r_ixor (pc := 75) dX7_fly_75 ?_
            refine r_iand (pc := 76) dX7_fly_76 ?_
            refine s_putI (pc := 77) dX7_fly_77 fl_X7_266 rfl rfl e_6 ?_
            refine r_aload_n (pc := 80) dX7_fly_80 rfl ?_
            refine r_dup (pc := 81) dX7_fly_81 rfl ?_
            refine s_getI (pc := 82) dX7_fly_82 fl_X7_336 rfl e_6 ?_
            obtain ⟨r_19, w_20⟩ : ∃ z : Int32, z = gi (ui y_18 c_4 9 ((gi y_18 c_4 9) &&& ((1 <<< (l2 &&& 31)) ^^^ (-1)))) c_4 10 := ⟨_, rfl⟩
            rw [← w_20]
            have K0 := K0 r_19 w_20
            refine r_iconst (pc := 85) (v := 1) dX7_fly_85 (by decide) ?_
            refine r_iload_n (pc := 86) dX7_fly_86 rfl ?_
            refine r_ishl (pc := 87) dX7_fly_87 ?_
            refine r_iconst (pc := 88) (v := (-1)) dX7_fly_88 (by decide) ?_
            refine r_ixor (pc := 89) dX7_fly_89 ?_
            refine r_iand (pc := 90) dX7_fly_90 ?_
            refine s_putI (pc := 91) dX7_fly_91 fl_X7_336 rfl rfl e_6 ?_
            refine r_iload (pc := 94) dX7_fly_94 rfl ?_
            exact s_iret rfl dX7_fly_96 K0
          · have K0 := K0.2 q
            refine r_bipush (pc := 59) (v := (-6)) dX7_fly_59 (by decide) ?_
            exact s_iret rfl dX7_fly_61 K0
    · have q := (b2i_z _).mp q
      have K0 := K0.2 q
      refine r_bipush (pc := 16) (v := (-2)) dX7_fly_16 (by decide) ?_
      exact s_iret rfl dX7_fly_18 K0
set_option maxHeartbeats 2000000 in
theorem v_X8_fly_0 {K : Sh} {x : Cn} {Q : Int32 → Cn → Prop} {b0 : Nat} {l1 : Int32} {l2 : Int32} {b0_1 : Nat} {n_b0_1 : Nat} (k_b0 : kk K b0 = some (8, 0)) (g_b0_1 : gr x b0 1 = some b0_1) (k_b0_1 : kk K b0_1 = some (20, n_b0_1)) (K0 : vp_in 2 n_b0_1 ∧ ((¬ (0 ≤ l1 ∧ l1 ≤ gi x b0_1 2 - 1) → (Q (-2) x)) ∧ ((0 ≤ l1 ∧ l1 ≤ gi x b0_1 2 - 1) → (vp_in 0 n_b0_1 ∧ (((0 ≤ l2 ∧ l2 ≤ gi x b0_1 0 - 1) → (mSI mX8_stateOf [.ref b0, .int l1, .int l2] K x (fun r_6 y_5 => (r_6 = 2 → (gr y_5 b0 1 = some b0_1 ∧ (vp_in 4 n_b0_1 ∧ (((gi y_5 b0_1 4 ≤ l2) → (mSV mX8_keeps [.ref b0] K y_5 (fun y_11 => mSV mX8_goes [.ref b0, .int l1, .int (1 <<< (l2 &&& 31)), .int r_6, .int 0] K y_11 (fun y_12 => Q r_6 y_12)))) ∧ (¬ (gi y_5 b0_1 4 ≤ l2) → (Q (-6) y_5)))))) ∧ (¬ r_6 = 2 → ((¬ r_6 = 3 → (Q (-6) y_5)) ∧ (r_6 = 3 → (gr y_5 b0 1 = some b0_1 ∧ (vp_in 4 n_b0_1 ∧ (((gi y_5 b0_1 4 ≤ l2) → (mSV mX8_keeps [.ref b0] K y_5 (fun y_17 => mSV mX8_goes [.ref b0, .int l1, .int (1 <<< (l2 &&& 31)), .int r_6, .int 0] K y_17 (fun y_18 => Q r_6 y_18)))) ∧ (¬ (gi y_5 b0_1 4 ≤ l2) → (Q (-6) y_5))))))))))) ∧ (¬ (0 ≤ l2 ∧ l2 ≤ gi x b0_1 0 - 1) → (Q (-2) x))))))) : mSI mX8_fly [.ref b0, .int l1, .int l2] K x Q := by
  refine s_I (by decide) (by simp [Value.category]) (Nat.le_of_ble_eq_true rfl) ?_
  show mGM mX8_fly 0 [some (.ref b0), some (.int l1), some (.int l2), none] [] (hp K x) (PI K Q)
  refine r_aload_n (pc := 0) dX8_fly_0 rfl ?_
  refine r_iload_n (pc := 1) dX8_fly_1 rfl ?_
  obtain ⟨i_1, K0⟩ := K0
  refine s_VI (pc := 2) mX8_isSeries (ci := 8) (a := b0) (As := [.int l1]) dX8_fly_2 lk_X8_273 in_X8_isSeries mo_X8_isSeries ⟨by decide, rfl⟩ ⟨by decide, by decide⟩ (Nat.le_of_ble_eq_true rfl) k_b0 (sp_X8_isSeries k_b0 g_b0_1 k_b0_1 i_1 ?_)
  refine r_if_eq (pc := 5) (tgt := 16) dX8_fly_5 (by decide) (fun q => ?_) (fun q => ?_)
  · have q := (b2i_z _).mp q
    have K0 := K0.1 q
    refine r_bipush (pc := 16) (v := (-2)) dX8_fly_16 (by decide) ?_
    exact s_iret rfl dX8_fly_18 K0
  · have q := b2i_nz q
    have K0 := K0.2 q
    refine r_aload_n (pc := 8) dX8_fly_8 rfl ?_
    refine r_iload_n (pc := 9) dX8_fly_9 rfl ?_
    obtain ⟨i_3, K0⟩ := K0
    refine s_VI (pc := 10) mX8_isWeek (ci := 8) (a := b0) (As := [.int l2]) dX8_fly_10 lk_X8_57 in_X8_isWeek mo_X8_isWeek ⟨by decide, rfl⟩ ⟨by decide, by decide⟩ (Nat.le_of_ble_eq_true rfl) k_b0 (sp_X8_isWeek k_b0 g_b0_1 k_b0_1 i_3 ?_)
    refine r_if_ne (pc := 13) (tgt := 19) dX8_fly_13 (by decide) (fun q => ?_) (fun q => ?_)
    · have q := b2i_nz q
      have K0 := K0.1 q
      refine r_aload_n (pc := 19) dX8_fly_19 rfl ?_
      refine r_iload_n (pc := 20) dX8_fly_20 rfl ?_
      refine r_iload_n (pc := 21) dX8_fly_21 rfl ?_
      refine s_VI (pc := 22) mX8_stateOf (ci := 8) (a := b0) (As := [.int l1, .int l2]) dX8_fly_22 lk_X8_278 in_X8_stateOf mo_X8_stateOf ⟨by decide, rfl⟩ ⟨by decide, by decide⟩ (Nat.le_of_ble_eq_true rfl) k_b0 (mSI_mono K0 (fun r_6 y_5 K0 => ?_))
      refine r_istore_n (pc := 25) dX8_fly_25 (by decide) ?_
      refine r_iload_n (pc := 26) (L := [some (.ref b0), some (.int l1), some (.int l2), some (.int r_6)]) dX8_fly_26 rfl ?_
      refine r_iconst (pc := 27) (v := 2) dX8_fly_27 (by decide) ?_
      refine r_icmp_eq (pc := 28) (tgt := 36) dX8_fly_28 (by decide) (fun q => ?_) (fun q => ?_)
      · have K0 := K0.1 q
        refine r_aload_n (pc := 36) dX8_fly_36 rfl ?_
        refine r_iload_n (pc := 37) dX8_fly_37 rfl ?_
        obtain ⟨g_8, K0⟩ := K0
        obtain ⟨i_9, K0⟩ := K0
        refine s_VI (pc := 38) mX8_isComing (ci := 8) (a := b0) (As := [.int l2]) dX8_fly_38 lk_X8_363 in_X8_isComing mo_X8_isComing ⟨by decide, rfl⟩ ⟨by decide, by decide⟩ (Nat.le_of_ble_eq_true rfl) k_b0 (sp_X8_isComing k_b0 g_8 k_b0_1 i_9 ?_)
        refine r_if_ne (pc := 41) (tgt := 47) dX8_fly_41 (by decide) (fun q => ?_) (fun q => ?_)
        · have q := b2i_nz q
          have K0 := K0.1 q
          refine r_aload_n (pc := 47) dX8_fly_47 rfl ?_
          refine s_VV (pc := 48) mX8_keeps (ci := 8) (a := b0) (As := []) dX8_fly_48 lk_X8_366 in_X8_keeps mo_X8_keeps ⟨by decide, rfl⟩ ⟨by decide, by decide⟩ (Nat.le_of_ble_eq_true rfl) k_b0 (mSV_mono K0 (fun y_11 K0 => ?_))
          refine r_aload_n (pc := 51) dX8_fly_51 rfl ?_
          refine r_iload_n (pc := 52) dX8_fly_52 rfl ?_
          refine r_iconst (pc := 53) (v := 1) dX8_fly_53 (by decide) ?_
          refine r_iload_n (pc := 54) dX8_fly_54 rfl ?_
          refine r_ishl (pc := 55) dX8_fly_55 ?_
          refine r_iload_n (pc := 56) dX8_fly_56 rfl ?_
          refine r_iconst (pc := 57) (v := 0) dX8_fly_57 (by decide) ?_
          refine s_VV (pc := 58) mX8_goes (ci := 8) (a := b0) (As := [.int l1, .int (1 <<< (l2 &&& 31)), .int r_6, .int 0]) dX8_fly_58 lk_X8_369 in_X8_goes mo_X8_goes ⟨by decide, rfl⟩ ⟨by decide, by decide⟩ (Nat.le_of_ble_eq_true rfl) k_b0 (mSV_mono K0 (fun y_12 K0 => ?_))
          refine r_iload_n (pc := 61) dX8_fly_61 rfl ?_
          exact s_iret rfl dX8_fly_62 K0
        · have q := (b2i_z _).mp q
          have K0 := K0.2 q
          refine r_bipush (pc := 44) (v := (-6)) dX8_fly_44 (by decide) ?_
          exact s_iret rfl dX8_fly_46 K0
      · have K0 := K0.2 q
        refine r_iload_n (pc := 31) dX8_fly_31 rfl ?_
        refine r_iconst (pc := 32) (v := 3) dX8_fly_32 (by decide) ?_
        refine r_icmp_ne (pc := 33) (tgt := 44) dX8_fly_33 (by decide) (fun q => ?_) (fun q => ?_)
        · have K0 := K0.1 q
          refine r_bipush (pc := 44) (v := (-6)) dX8_fly_44 (by decide) ?_
          exact s_iret rfl dX8_fly_46 K0
        · have K0 := K0.2 q
          refine r_aload_n (pc := 36) dX8_fly_36 rfl ?_
          refine r_iload_n (pc := 37) dX8_fly_37 rfl ?_
          obtain ⟨g_14, K0⟩ := K0
          obtain ⟨i_15, K0⟩ := K0
          refine s_VI (pc := 38) mX8_isComing (ci := 8) (a := b0) (As := [.int l2]) dX8_fly_38 lk_X8_363 in_X8_isComing mo_X8_isComing ⟨by decide, rfl⟩ ⟨by decide, by decide⟩ (Nat.le_of_ble_eq_true rfl) k_b0 (sp_X8_isComing k_b0 g_14 k_b0_1 i_15 ?_)
          refine r_if_ne (pc := 41) (tgt := 47) dX8_fly_41 (by decide) (fun q => ?_) (fun q => ?_)
          · have q := b2i_nz q
            have K0 := K0.1 q
            refine r_aload_n (pc := 47) dX8_fly_47 rfl ?_
            refine s_VV (pc := 48) mX8_keeps (ci := 8) (a := b0) (As := []) dX8_fly_48 lk_X8_366 in_X8_keeps mo_X8_keeps ⟨by decide, rfl⟩ ⟨by decide, by decide⟩ (Nat.le_of_ble_eq_true rfl) k_b0 (mSV_mono K0 (fun y_17 K0 => ?_))
            refine r_aload_n (pc := 51) dX8_fly_51 rfl ?_
            refine r_iload_n (pc := 52) dX8_fly_52 rfl ?_
            refine r_iconst (pc := 53) (v := 1) dX8_fly_53 (by decide) ?_
            refine r_iload_n (pc := 54) dX8_fly_54 rfl ?_
            refine r_ishl (pc := 55) dX8_fly_55 ?_
            refine r_iload_n (pc := 56) dX8_fly_56 rfl ?_
            refine r_iconst (pc := 57) (v := 0) dX8_fly_57 (by decide) ?_
            refine s_VV (pc := 58) mX8_goes (ci := 8) (a := b0) (As := [.int l1, .int (1 <<< (l2 &&& 31)), .int r_6, .int 0]) dX8_fly_58 lk_X8_369 in_X8_goes mo_X8_goes ⟨by decide, rfl⟩ ⟨by decide, by decide⟩ (Nat.le_of_ble_eq_true rfl) k_b0 (mSV_mono K0 (fun y_18 K0 => ?_))
            refine r_iload_n (pc := 61) dX8_fly_61 rfl ?_
            exact s_iret rfl dX8_fly_62 K0
          · have q := (b2i_z _).mp q
            have K0 := K0.2 q
            refine r_bipush (pc := 44) (v := (-6)) dX8_fly_44 (by decide) ?_
            exact s_iret rfl dX8_fly_46 K0
    · have q := (b2i_z _).mp q
      have K0 := K0.2 q
      refine r_bipush (pc := 16) (v := (-2)) dX8_fly_16 (by decide) ?_
      exact s_iret rfl dX8_fly_18 K0
section
variable {y : Cn} {Q : Int32 → Cn → Prop} {T : TT} {W C S A N n : Nat} {H : Nat → TT}
theorem sq_X8_fly {a b : Int32} (r : RS y T n H) (F : WF T W C S A N) (k1 : ¬ ((0 ≤ a ∧ a < nI S) ∧ (0 ≤ b ∧ b < nI W)) → Q (-2) y) (k2 : (0 ≤ a ∧ a < nI S) → (0 ≤ b ∧ b < nI W) → ¬ ((stt T a.toNatClampNeg b.toNatClampNeg = 2 ∨ stt T a.toNatClampNeg b.toNatClampNeg = 3) ∧ nI N ≤ b) → Q (-6) y) (k3 : (0 ≤ a ∧ a < nI S) → (0 ≤ b ∧ b < nI W) → ∀ k, k = 2 ∨ k = 3 → stt T a.toNatClampNeg b.toNatClampNeg = nI k → nI N ≤ b → ∀ z, RFr y z → RS z (goT T a.toNatClampNeg (wb b) k 0) (pn n) (push H n T) → Q (nI k) z) : mSI mX8_fly [.ref 717, .int a, .int b] KW y Q := by
  have hS : S ≤ 24 := F.2.2.2.2.2.2.1
  have hW : W ≤ 30 := F.2.2.1
  have M := r.1
  refine v_X8_fly_0 km M.1 km1 ⟨v0 (k := 2) (by decide) rfl rfl, ?_⟩
  rw [r.2.1, F.2.2.2.2.2.1, F.1, inN' (by omega), inN' (by omega)]
  refine ⟨fun z => k1 (fun u => z u.1), fun z1 => ⟨v0 (k := 0) (by decide) rfl rfl, fun z2 => ?_, fun z => k1 (fun u => z u.2)⟩⟩
  have k2 := k2 z1 z2
  have k3 := k3 z1 z2
  obtain ⟨s, hs, rfl⟩ := inN (by omega) z1
  obtain ⟨w, hw, rfl⟩ := inN (by omega) z2
  rw [nI_clamp (by omega), nI_clamp (by omega)] at k2
  rw [nI_clamp (by omega), nI_clamp (by omega)] at k3
  refine sp_X8_stateOf (by omega) (by omega) M km1 ?_
  rw [r.2.1, F.2.2.2.2.2.2.2.2.2.1]
  have go : ∀ k, k = 2 ∨ k = 3 → stt T s w = nI k → nI N ≤ nI w → mSV mX8_keeps [.ref 717] KW y (fun y_8 => mSV mX8_goes [.ref 717, .int (nI s), .int (1 <<< (nI w &&& 31)), .int (stt T s w), .int 0] KW y_8 (fun y_9 => Q (stt T s w) y_9)) := by
    intro k hk e e2
    rw [e]
    exact r.keeps (fun z f1 r1 => sp_X8_goes (o := 0) r1 (by omega) (by omega) (by decide) (by omega) (fun v f2 r2 => k3 k hk e e2 v (f1.tr f2) r2))
  refine ⟨fun u => ⟨M.1, v0 (k := 4) (by decide) rfl rfl, fun u2 => go 2 (Or.inl rfl) u u2, fun u2 => k2 (fun v => u2 v.2)⟩, fun u => ⟨fun u2 => k2 (fun v => v.1.elim u u2), fun u2 => ⟨M.1, v0 (k := 4) (by decide) rfl rfl, fun u3 => go 3 (Or.inr rfl) u2 u3, fun u3 => k2 (fun v => u3 v.2)⟩⟩⟩
/-- open weeks from one on -/
def opf (T : TT) (W s w : Nat) : Int32 := if W ≤ w then 0 else so T s 7 &&& f_span (nI w) (nI W - 1)
end
set_option maxHeartbeats 2000000 in
theorem v_X8_openFrom_0 {K : Sh} {x : Cn} {Q : Int32 → Cn → Prop} {b0 : Nat} {l1 : Int32} {l2 : Int32} {b0_1 : Nat} {n_b0_1 : Nat} {b0_3 : Nat} {n_b0_3 : Nat} (k_b0 : kk K b0 = some (8, 0)) (g_b0_1 : gr x b0 1 = some b0_1) (k_b0_1 : kk K b0_1 = some (20, n_b0_1)) (g_b0_3 : gr x b0 3 = some b0_3) (k_b0_3 : kk K b0_3 = some (20, n_b0_3)) (K0 : vp_in 0 n_b0_1 ∧ (((gi x b0_1 0) ≤ l2 → (Q 0 x)) ∧ (¬ (gi x b0_1 0) ≤ l2 → ((l24 l1 n_b0_3) ∧ (Q ((so (gi x b0_3) (l1 : Int32).toNatClampNeg 7) &&& (f_span l2 ((gi x b0_1 0) - 1))) x))))) : mSI mX8_openFrom [.ref b0, .int l1, .int l2] K x Q := by
  refine s_I (by decide) (by simp [Value.category]) (Nat.le_of_ble_eq_true rfl) ?_
  show mGM mX8_openFrom 0 [some (.ref b0), some (.int l1), some (.int l2)] [] (hp K x) (PI K Q)
  refine r_iload_n (pc := 0) dX8_openFrom_0 rfl ?_
  refine r_aload_n (pc := 1) dX8_openFrom_1 rfl ?_
  refine s_getR (pc := 2) dX8_openFrom_2 fl_X8_9 rfl k_b0 g_b0_1 ?_
  refine r_iconst (pc := 5) (v := 0) dX8_openFrom_5 (by decide) ?_
  obtain ⟨i_1, K0⟩ := K0
  refine s_iald (pc := 6) dX8_openFrom_6 k_b0_1 i_1 ?_
  refine r_icmp_ge (pc := 7) (tgt := 33) dX8_openFrom_7 (by decide) (fun q => ?_) (fun q => ?_)
  · have K0 := K0.1 q
    refine r_iconst (pc := 33) (v := 0) dX8_openFrom_33 (by decide) ?_
    exact s_iret rfl dX8_openFrom_34 K0
  · have K0 := K0.2 q
    refine r_aload_n (pc := 10) dX8_openFrom_10 rfl ?_
    refine r_iload_n (pc := 11) dX8_openFrom_11 rfl ?_
    refine r_bipush (pc := 12) (v := 7) dX8_openFrom_12 (by decide) ?_
    obtain ⟨p_3, K0⟩ := K0
    refine s_VI (pc := 14) mX8_one (ci := 8) (a := b0) (As := [.int l1, .int 7]) dX8_openFrom_14 lk_X8_67 in_X8_one mo_X8_one ⟨by decide, rfl⟩ ⟨by decide, by decide⟩ (Nat.le_of_ble_eq_true rfl) k_b0 (sr_X8_one k_b0 g_b0_3 k_b0_3 p_3 ⟨by decide, by decide⟩ ?_)
    refine r_iload_n (pc := 17) dX8_openFrom_17 rfl ?_
    refine r_aload_n (pc := 18) dX8_openFrom_18 rfl ?_
    refine s_getR (pc := 19) dX8_openFrom_19 fl_X8_9 rfl k_b0 g_b0_1 ?_
    refine r_iconst (pc := 22) (v := 0) dX8_openFrom_22 (by decide) ?_
    refine s_iald (pc := 23) dX8_openFrom_23 k_b0_1 i_1 ?_
    refine r_iconst (pc := 24) (v := 1) dX8_openFrom_24 (by decide) ?_
    refine r_isub (pc := 25) dX8_openFrom_25 ?_
    refine s_SI (pc := 26) mX8_span (As := [.int l2, .int ((gi x b0_1 0) - 1)]) dX8_openFrom_26 lk_X8_79 st_X8_span mo_X8_span ⟨by decide, by decide⟩ (Nat.le_of_ble_eq_true rfl) (sp_X8_span  ?_)
    refine r_iand (pc := 29) dX8_openFrom_29 ?_
    refine r_goto (pc := 30) (tgt := 34) dX8_openFrom_30 (by decide) ?_
    exact s_iret rfl dX8_openFrom_34 K0
section
variable {y : Cn} {Q : Int32 → Cn → Prop} {T : TT} {W C S A N n : Nat} {H : Nat → TT}
theorem sp_X8_openFrom {s w : Nat} (r : RS y T n H) (F : WF T W C S A N) (hs : s < 24) (hw : w < 100) (k : Q (opf T W s w) y) : mSI mX8_openFrom [.ref 717, .int (nI s), .int (nI w)] KW y Q := by
  have hW : W ≤ 30 := F.2.2.1
  have M := r.1
  refine v_X8_openFrom_0 km M.1 km1 M.2.2.1 km1 ⟨v0 (k := 0) (by decide) rfl rfl, ?_⟩
  rw [r.2.1, F.1, nI_leI (by omega) (by omega), nI_clamp (by omega)]
  unfold opf at k
  exact ⟨fun z => by rwa [if_pos z] at k, fun z => ⟨l24_nI hs rfl, by rwa [if_neg z] at k⟩⟩
theorem opf_eq {s w : Nat} (g : Wse T C W s) (hW : W ≤ 30) (hw : w < 100) : opf T W s w = so T s 7 &&& f_bf (nI w) := by
  have g8 := g.2.2.2.2.2.2.2
  unfold opf
  by_cases c : W ≤ w
  · rw [if_pos c]
    by_cases d : w ≤ 30
    · apply tb_ext
      intro i hi
      rw [tb_0, tb_and, tb_bf0 w (by omega) i hi]
      cases e : tb (so T s 7) i with
      | false => rfl
      | true =>
        have := g8 i 0 (by decide) e
        rw [decide_eq_false (by omega)]; rfl
    · unfold f_bf
      rw [if_neg (show ¬ nI w ≤ 30 from nI_ge (a := 30) (b := w) (by omega) (by omega))]
      exact (Int32.and_zero).symm
  · rw [if_neg c]
    apply tb_ext
    intro i hi
    rw [tb_and, tb_and, tb_bf0 w (by omega) i hi, tb_fn hW (by omega) hi (by omega)]
    cases e : tb (so T s 7) i with
    | false => rfl
    | true =>
      have := g8 i 0 (by decide) e
      rw [Bool.true_and, Bool.true_and]
      apply decide_eq_decide.mpr
      omega
end
set_option maxHeartbeats 2000000 in
theorem v_X7_back_0 {K : Sh} {x : Cn} {Q : Int32 → Cn → Prop} {b0 : Nat} {l1 : Int32} {l2 : Int32} {b0_2 : Nat} {b0_2_7 : Nat} {n_b0_2_7 : Nat} (k_b0 : kk K b0 = some (7, 0)) (g_b0_2 : gr x b0 2 = some b0_2) (k_b0_2 : kk K b0_2 = some (4, 0)) (g_b0_2_7 : gr x b0_2 7 = some b0_2_7) (k_b0_2_7 : kk K b0_2_7 = some (23, n_b0_2_7)) (K0 : (¬ (0 ≤ l1 ∧ l1 < gi x b0_2 3) → (Q (-2) x)) ∧ ((0 ≤ l1 ∧ l1 < gi x b0_2 3) → (((0 ≤ l2 ∧ l2 < gi x b0_2 0) → ((((gi x b0_2 1) + 4) ≤ l2 → (vp_in l1 n_b0_2_7 ∧ (∃ c_5 : Nat, gr x b0_2_7 ((l1 : Int32).toNatClampNeg) = some c_5 ∧ (kk K c_5 = some (5, 0) ∧ ((((f_open x c_5) &&& (f_bf l2)) = 0 → (Q (nI (cpt ((f_open x c_5) &&& (f_bf l2)))) x)) ∧ (¬ ((f_open x c_5) &&& (f_bf l2)) = 0 → (mSV mX7_remember [.ref b0] K x (fun y_9 => Q (nI (cpt ((f_open x c_5) &&& (f_bf l2)))) (ui y_9 c_5 11 ((gi y_9 c_5 11) ||| ((f_open x c_5) &&& (f_bf l2)))))))))))) ∧ (¬ ((gi x b0_2 1) + 4) ≤ l2 → (Q (-6) x)))) ∧ (¬ (0 ≤ l2 ∧ l2 < gi x b0_2 0) → (Q (-2) x))))) : mSI mX7_back [.ref b0, .int l1, .int l2] K x Q := by
  refine s_I (by decide) (by simp [Value.category]) (Nat.le_of_ble_eq_true rfl) ?_
  show mGM mX7_back 0 [some (.ref b0), some (.int l1), some (.int l2), none, none] [] (hp K x) (PI K Q)
  refine r_aload_n (pc := 0) dX7_back_0 rfl ?_
  refine r_iload_n (pc := 1) dX7_back_1 rfl ?_
  refine s_VI (pc := 2) mX7_isSeries (ci := 7) (a := b0) (As := [.int l1]) dX7_back_2 lk_X7_132 in_X7_isSeries mo_X7_isSeries ⟨by decide, rfl⟩ ⟨by decide, by decide⟩ (Nat.le_of_ble_eq_true rfl) k_b0 (sp_X7_isSeries k_b0 g_b0_2 k_b0_2 ?_)
  refine r_if_eq (pc := 5) (tgt := 16) dX7_back_5 (by decide) (fun q => ?_) (fun q => ?_)
  · have q := (b2i_z _).mp q
    have K0 := K0.1 q
    refine r_bipush (pc := 16) (v := (-2)) dX7_back_16 (by decide) ?_
    exact s_iret rfl dX7_back_18 K0
  · have q := b2i_nz q
    have K0 := K0.2 q
    refine r_aload_n (pc := 8) dX7_back_8 rfl ?_
    refine r_iload_n (pc := 9) dX7_back_9 rfl ?_
    refine s_VI (pc := 10) mX7_isWeek (ci := 7) (a := b0) (As := [.int l2]) dX7_back_10 lk_X7_167 in_X7_isWeek mo_X7_isWeek ⟨by decide, rfl⟩ ⟨by decide, by decide⟩ (Nat.le_of_ble_eq_true rfl) k_b0 (sp_X7_isWeek k_b0 g_b0_2 k_b0_2 ?_)
    refine r_if_ne (pc := 13) (tgt := 19) dX7_back_13 (by decide) (fun q => ?_) (fun q => ?_)
    · have q := b2i_nz q
      have K0 := K0.1 q
      refine r_iload_n (pc := 19) dX7_back_19 rfl ?_
      refine r_aload_n (pc := 20) dX7_back_20 rfl ?_
      refine s_getR (pc := 21) dX7_back_21 fl_X7_20 rfl k_b0 g_b0_2 ?_
      refine s_getI (pc := 24) dX7_back_24 fl_X7_103 rfl k_b0_2 ?_
      refine r_iconst (pc := 27) (v := 4) dX7_back_27 (by decide) ?_
      refine r_iadd (pc := 28) dX7_back_28 ?_
      refine r_icmp_ge (pc := 29) (tgt := 35) dX7_back_29 (by decide) (fun q => ?_) (fun q => ?_)
      · have K0 := K0.1 q
        refine r_aload_n (pc := 35) dX7_back_35 rfl ?_
        refine s_getR (pc := 36) dX7_back_36 fl_X7_20 rfl k_b0 g_b0_2 ?_
        refine s_getR (pc := 39) dX7_back_39 fl_X7_135 rfl k_b0_2 g_b0_2_7 ?_
        refine r_iload_n (pc := 42) dX7_back_42 rfl ?_
        obtain ⟨i_4, K0⟩ := K0
        obtain ⟨c_5, g_6, K0⟩ := K0
        refine s_aald (pc := 43) dX7_back_43 (by decide) rfl k_b0_2_7 i_4 g_6 ?_
        refine r_astore_n (pc := 44) dX7_back_44 (by decide) ?_
        refine r_aload_n (pc := 45) (L := [some (.ref b0), some (.int l1), some (.int l2), some (.ref c_5), none]) dX7_back_45 rfl ?_
        obtain ⟨e_7, K0⟩ := K0
        refine s_VI (pc := 46) mX5_openBits (ci := 5) (a := c_5) (As := []) dX7_back_46 lk_X7_339 in_X5_openBits mo_X5_openBits ⟨by decide, rfl⟩ ⟨by decide, by decide⟩ (Nat.le_of_ble_eq_true rfl) e_7 (sp_X5_openBits e_7 ?_)
        refine r_iload_n (pc := 49) dX7_back_49 rfl ?_
        refine s_SI (pc := 50) mX7_bitsFrom (As := [.int l2]) dX7_back_50 lk_X7_342 st_X7_bitsFrom mo_X7_bitsFrom ⟨by decide, by decide⟩ (Nat.le_of_ble_eq_true rfl) (sp_X7_bitsFrom  ?_)
        refine r_iand (pc := 53) dX7_back_53 ?_
        refine r_istore (pc := 54) dX7_back_54 (by decide) ?_
        refine r_iload (pc := 56) (L := [some (.ref b0), some (.int l1), some (.int l2), some (.ref c_5), some (.int ((f_open x c_5) &&& (f_bf l2)))]) dX7_back_56 rfl ?_
        refine r_if_eq (pc := 58) (tgt := 76) dX7_back_58 (by decide) (fun q => ?_) (fun q => ?_)
        · have K0 := K0.1 q
          refine r_iload (pc := 76) dX7_back_76 rfl ?_
          refine s_SI (pc := 78) mJ6_bitCount_0f7a4 (As := [.int ((f_open x c_5) &&& (f_bf l2))]) dX7_back_78 lk_X7_255 st_J6_bitCount_0f7a4 mo_J6_bitCount_0f7a4 ⟨by decide, by decide⟩ (Nat.le_of_ble_eq_true rfl) (sp_bc  ?_)
          exact s_iret rfl dX7_back_81 K0
        · have K0 := K0.2 q
          refine r_aload_n (pc := 61) dX7_back_61 rfl ?_
          refine s_VV (pc := 62) mX7_remember (ci := 7) (a := b0) (As := []) dX7_back_62 lk_X7_333 in_X7_remember mo_X7_remember ⟨by decide, rfl⟩ ⟨by decide, by decide⟩ (Nat.le_of_ble_eq_true rfl) k_b0 (mSV_mono K0 (fun y_9 K0 => ?_))
          refine r_aload_n (pc := 65) dX7_back_65 rfl ?_
          refine r_dup (pc := 66) dX7_back_66 rfl ?_
          refine s_getI (pc := 67) dX7_back_67 fl_X7_345 rfl e_7 ?_
          refine r_iload (pc := 70) dX7_back_70 rfl ?_
          refine r_ior (pc := 72) dX7_back_72 ?_
          refine s_putI (pc := 73) dX7_back_73 fl_X7_345 rfl rfl e_7 ?_
          refine r_iload (pc := 76) dX7_back_76 rfl ?_
          refine s_SI (pc := 78) mJ6_bitCount_0f7a4 (As := [.int ((f_open x c_5) &&& (f_bf l2))]) dX7_back_78 lk_X7_255 st_J6_bitCount_0f7a4 mo_J6_bitCount_0f7a4 ⟨by decide, by decide⟩ (Nat.le_of_ble_eq_true rfl) (sp_bc  ?_)
          exact s_iret rfl dX7_back_81 K0
      · have K0 := K0.2 q
        refine r_bipush (pc := 32) (v := (-6)) dX7_back_32 (by decide) ?_
        exact s_iret rfl dX7_back_34 K0
    · have q := (b2i_z _).mp q
      have K0 := K0.2 q
      refine r_bipush (pc := 16) (v := (-2)) dX7_back_16 (by decide) ?_
      exact s_iret rfl dX7_back_18 K0
set_option maxHeartbeats 2000000 in
theorem v_X8_back_0 {K : Sh} {x : Cn} {Q : Int32 → Cn → Prop} {b0 : Nat} {l1 : Int32} {l2 : Int32} {b0_1 : Nat} {n_b0_1 : Nat} (k_b0 : kk K b0 = some (8, 0)) (g_b0_1 : gr x b0 1 = some b0_1) (k_b0_1 : kk K b0_1 = some (20, n_b0_1)) (K0 : vp_in 2 n_b0_1 ∧ ((¬ (0 ≤ l1 ∧ l1 ≤ gi x b0_1 2 - 1) → (Q (-2) x)) ∧ ((0 ≤ l1 ∧ l1 ≤ gi x b0_1 2 - 1) → (vp_in 0 n_b0_1 ∧ (((0 ≤ l2 ∧ l2 ≤ gi x b0_1 0 - 1) → (vp_in 4 n_b0_1 ∧ ((((gi x b0_1 4) + 4) ≤ l2 → (mSI mX8_openFrom [.ref b0, .int l1, .int l2] K x (fun r_8 y_7 => (¬ r_8 = 0 → (mSV mX8_keeps [.ref b0] K y_7 (fun y_10 => mSV mX8_goes [.ref b0, .int l1, .int r_8, .int 0, .int 4] K y_10 (fun y_11 => Q (nI (cpt r_8)) y_11)))) ∧ (r_8 = 0 → (Q 0 y_7))))) ∧ (¬ ((gi x b0_1 4) + 4) ≤ l2 → (Q (-6) x))))) ∧ (¬ (0 ≤ l2 ∧ l2 ≤ gi x b0_1 0 - 1) → (Q (-2) x))))))) : mSI mX8_back [.ref b0, .int l1, .int l2] K x Q := by
  refine s_I (by decide) (by simp [Value.category]) (Nat.le_of_ble_eq_true rfl) ?_
  show mGM mX8_back 0 [some (.ref b0), some (.int l1), some (.int l2), none] [] (hp K x) (PI K Q)
  refine r_aload_n (pc := 0) dX8_back_0 rfl ?_
  refine r_iload_n (pc := 1) dX8_back_1 rfl ?_
  obtain ⟨i_1, K0⟩ := K0
  refine s_VI (pc := 2) mX8_isSeries (ci := 8) (a := b0) (As := [.int l1]) dX8_back_2 lk_X8_273 in_X8_isSeries mo_X8_isSeries ⟨by decide, rfl⟩ ⟨by decide, by decide⟩ (Nat.le_of_ble_eq_true rfl) k_b0 (sp_X8_isSeries k_b0 g_b0_1 k_b0_1 i_1 ?_)
  refine r_if_eq (pc := 5) (tgt := 16) dX8_back_5 (by decide) (fun q => ?_) (fun q => ?_)
  · have q := (b2i_z _).mp q
    have K0 := K0.1 q
    refine r_bipush (pc := 16) (v := (-2)) dX8_back_16 (by decide) ?_
    exact s_iret rfl dX8_back_18 K0
  · have q := b2i_nz q
    have K0 := K0.2 q
    refine r_aload_n (pc := 8) dX8_back_8 rfl ?_
    refine r_iload_n (pc := 9) dX8_back_9 rfl ?_
    obtain ⟨i_3, K0⟩ := K0
    refine s_VI (pc := 10) mX8_isWeek (ci := 8) (a := b0) (As := [.int l2]) dX8_back_10 lk_X8_57 in_X8_isWeek mo_X8_isWeek ⟨by decide, rfl⟩ ⟨by decide, by decide⟩ (Nat.le_of_ble_eq_true rfl) k_b0 (sp_X8_isWeek k_b0 g_b0_1 k_b0_1 i_3 ?_)
    refine r_if_ne (pc := 13) (tgt := 19) dX8_back_13 (by decide) (fun q => ?_) (fun q => ?_)
    · have q := b2i_nz q
      have K0 := K0.1 q
      refine r_iload_n (pc := 19) dX8_back_19 rfl ?_
      refine r_aload_n (pc := 20) dX8_back_20 rfl ?_
      refine s_getR (pc := 21) dX8_back_21 fl_X8_9 rfl k_b0 g_b0_1 ?_
      refine r_iconst (pc := 24) (v := 4) dX8_back_24 (by decide) ?_
      obtain ⟨i_5, K0⟩ := K0
      refine s_iald (pc := 25) dX8_back_25 k_b0_1 i_5 ?_
      refine r_iconst (pc := 26) (v := 4) dX8_back_26 (by decide) ?_
      refine r_iadd (pc := 27) dX8_back_27 ?_
      refine r_icmp_ge (pc := 28) (tgt := 34) dX8_back_28 (by decide) (fun q => ?_) (fun q => ?_)
      · have K0 := K0.1 q
        refine r_aload_n (pc := 34) dX8_back_34 rfl ?_
        refine r_iload_n (pc := 35) dX8_back_35 rfl ?_
        refine r_iload_n (pc := 36) dX8_back_36 rfl ?_
        refine s_VI (pc := 37) mX8_openFrom (ci := 8) (a := b0) (As := [.int l1, .int l2]) dX8_back_37 lk_X8_373 in_X8_openFrom mo_X8_openFrom ⟨by decide, rfl⟩ ⟨by decide, by decide⟩ (Nat.le_of_ble_eq_true rfl) k_b0 (mSI_mono K0 (fun r_8 y_7 K0 => ?_))
        refine r_istore_n (pc := 40) dX8_back_40 (by decide) ?_
        refine r_iload_n (pc := 41) (L := [some (.ref b0), some (.int l1), some (.int l2), some (.int r_8)]) dX8_back_41 rfl ?_
        refine r_if_ne (pc := 42) (tgt := 47) dX8_back_42 (by decide) (fun q => ?_) (fun q => ?_)
        · have K0 := K0.1 q
          refine r_aload_n (pc := 47) dX8_back_47 rfl ?_
          refine s_VV (pc := 48) mX8_keeps (ci := 8) (a := b0) (As := []) dX8_back_48 lk_X8_366 in_X8_keeps mo_X8_keeps ⟨by decide, rfl⟩ ⟨by decide, by decide⟩ (Nat.le_of_ble_eq_true rfl) k_b0 (mSV_mono K0 (fun y_10 K0 => ?_))
          refine r_aload_n (pc := 51) dX8_back_51 rfl ?_
          refine r_iload_n (pc := 52) dX8_back_52 rfl ?_
          refine r_iload_n (pc := 53) dX8_back_53 rfl ?_
          refine r_iconst (pc := 54) (v := 0) dX8_back_54 (by decide) ?_
          refine r_iconst (pc := 55) (v := 4) dX8_back_55 (by decide) ?_
          refine s_VV (pc := 56) mX8_goes (ci := 8) (a := b0) (As := [.int l1, .int r_8, .int 0, .int 4]) dX8_back_56 lk_X8_369 in_X8_goes mo_X8_goes ⟨by decide, rfl⟩ ⟨by decide, by decide⟩ (Nat.le_of_ble_eq_true rfl) k_b0 (mSV_mono K0 (fun y_11 K0 => ?_))
          refine r_iload_n (pc := 59) dX8_back_59 rfl ?_
          refine s_SI (pc := 60) mX8_bits (As := [.int r_8]) dX8_back_60 lk_X8_296 st_X8_bits mo_X8_bits ⟨by decide, by decide⟩ (Nat.le_of_ble_eq_true rfl) (sp_X8_bits  ?_)
          exact s_iret rfl dX8_back_63 K0
        · have K0 := K0.2 q
          refine r_iconst (pc := 45) (v := 0) dX8_back_45 (by decide) ?_
          exact s_iret rfl dX8_back_46 K0
      · have K0 := K0.2 q
        refine r_bipush (pc := 31) (v := (-6)) dX8_back_31 (by decide) ?_
        exact s_iret rfl dX8_back_33 K0
    · have q := (b2i_z _).mp q
      have K0 := K0.2 q
      refine r_bipush (pc := 16) (v := (-2)) dX8_back_16 (by decide) ?_
      exact s_iret rfl dX8_back_18 K0
section
variable {y : Cn} {Q : Int32 → Cn → Prop} {T : TT} {W C S A N n : Nat} {H : Nat → TT}
theorem sq_X8_back {a b : Int32} (r : RS y T n H) (F : WF T W C S A N) (k1 : ¬ ((0 ≤ a ∧ a < nI S) ∧ (0 ≤ b ∧ b < nI W)) → Q (-2) y) (k2 : (0 ≤ a ∧ a < nI S) → (0 ≤ b ∧ b < nI W) → ¬ nI N + 4 ≤ b → Q (-6) y) (k3 : (0 ≤ a ∧ a < nI S) → (0 ≤ b ∧ b < nI W) → nI N + 4 ≤ b → opf T W a.toNatClampNeg b.toNatClampNeg = 0 → Q 0 y) (k4 : (0 ≤ a ∧ a < nI S) → (0 ≤ b ∧ b < nI W) → nI N + 4 ≤ b → ¬ opf T W a.toNatClampNeg b.toNatClampNeg = 0 → ∀ z, RFr y z → RS z (goT T a.toNatClampNeg (opf T W a.toNatClampNeg b.toNatClampNeg) 0 4) (pn n) (push H n T) → Q (nI (cpt (opf T W a.toNatClampNeg b.toNatClampNeg))) z) : mSI mX8_back [.ref 717, .int a, .int b] KW y Q := by
  have hS : S ≤ 24 := F.2.2.2.2.2.2.1
  have hW : W ≤ 30 := F.2.2.1
  have M := r.1
  refine v_X8_back_0 km M.1 km1 ⟨v0 (k := 2) (by decide) rfl rfl, ?_⟩
  rw [r.2.1, F.2.2.2.2.2.1, F.1, inN' (by omega), inN' (by omega), F.2.2.2.2.2.2.2.2.2.1]
  refine ⟨fun z => k1 (fun u => z u.1), fun z1 => ⟨v0 (k := 0) (by decide) rfl rfl, fun z2 => ⟨v0 (k := 4) (by decide) rfl rfl, fun u => ?_, fun u => k2 z1 z2 u⟩, fun z => k1 (fun u => z u.2)⟩⟩
  have k3 := k3 z1 z2 u
  have k4 := k4 z1 z2 u
  obtain ⟨s, hs, rfl⟩ := inN (by omega) z1
  obtain ⟨w, hw, rfl⟩ := inN (by omega) z2
  rw [nI_clamp (by omega), nI_clamp (by omega)] at k3
  rw [nI_clamp (by omega), nI_clamp (by omega)] at k4
  refine sp_X8_openFrom r F (by omega) (by omega) ⟨fun v => ?_, fun v => k3 v⟩
  exact r.keeps (fun z f1 r1 => sp_X8_goes (k := 0) (o := 4) r1 (by omega) (by decide) (by decide) (by decide) (fun z2 f2 r2 => k4 v z2 (f1.tr f2) r2))
end
set_option maxHeartbeats 2000000 in
theorem v_X7_retime_0 {K : Sh} {x : Cn} {Q : Int32 → Cn → Prop} {b0 : Nat} {l1 : Int32} {l2 : Int32} {b0_2 : Nat} (k_b0 : kk K b0 = some (7, 0)) (g_b0_2 : gr x b0 2 = some b0_2) (k_b0_2 : kk K b0_2 = some (4, 0)) (K0 : (¬ (0 ≤ l1 ∧ l1 < gi x b0_2 3) → (Q (-2) x)) ∧ ((0 ≤ l1 ∧ l1 < gi x b0_2 3) → (((0 < gi x b0_2 0 ∧ 0 ≤ l2 ∧ l2 < 24) → (mSI mX7_canRetime [.ref b0, .int l1, .int l2] K x (fun r_4 y_3 => (¬ r_4 = 0 → (mSV mX7_remember [.ref b0] K y_3 (fun y_6 => gr y_6 b0 2 = some b0_2 ∧ (∃ c_8 : Nat, gr y_6 b0_2 7 = some c_8 ∧ (∃ n_11 : Nat, kk K c_8 = some (23, n_11) ∧ (vp_in l1 n_11 ∧ (∃ c_13 : Nat, gr y_6 c_8 ((l1 : Int32).toNatClampNeg) = some c_13 ∧ (kk K c_13 = some (5, 0) ∧ (Q (gi y_6 c_13 2) (ui y_6 c_13 2 l2)))))))))) ∧ (r_4 = 0 → (Q (-6) y_3))))) ∧ (¬ (0 < gi x b0_2 0 ∧ 0 ≤ l2 ∧ l2 < 24) → (Q (-2) x))))) : mSI mX7_retime [.ref b0, .int l1, .int l2] K x Q := by
  refine s_I (by decide) (by simp [Value.category]) (Nat.le_of_ble_eq_true rfl) ?_
  show mGM mX7_retime 0 [some (.ref b0), some (.int l1), some (.int l2), none] [] (hp K x) (PI K Q)
  refine r_aload_n (pc := 0) dX7_retime_0 rfl ?_
  refine r_iload_n (pc := 1) dX7_retime_1 rfl ?_
  refine s_VI (pc := 2) mX7_isSeries (ci := 7) (a := b0) (As := [.int l1]) dX7_retime_2 lk_X7_132 in_X7_isSeries mo_X7_isSeries ⟨by decide, rfl⟩ ⟨by decide, by decide⟩ (Nat.le_of_ble_eq_true rfl) k_b0 (sp_X7_isSeries k_b0 g_b0_2 k_b0_2 ?_)
  refine r_if_eq (pc := 5) (tgt := 16) dX7_retime_5 (by decide) (fun q => ?_) (fun q => ?_)
  · have q := (b2i_z _).mp q
    have K0 := K0.1 q
    refine r_bipush (pc := 16) (v := (-2)) dX7_retime_16 (by decide) ?_
    exact s_iret rfl dX7_retime_18 K0
  · have q := b2i_nz q
    have K0 := K0.2 q
    refine r_aload_n (pc := 8) dX7_retime_8 rfl ?_
    refine r_iload_n (pc := 9) dX7_retime_9 rfl ?_
    refine s_VI (pc := 10) mX7_isHour (ci := 7) (a := b0) (As := [.int l2]) dX7_retime_10 lk_X7_195 in_X7_isHour mo_X7_isHour ⟨by decide, rfl⟩ ⟨by decide, by decide⟩ (Nat.le_of_ble_eq_true rfl) k_b0 (sp_X7_isHour k_b0 g_b0_2 k_b0_2 ?_)
    refine r_if_ne (pc := 13) (tgt := 19) dX7_retime_13 (by decide) (fun q => ?_) (fun q => ?_)
    · have q := b2i_nz q
      have K0 := K0.1 q
      refine r_aload_n (pc := 19) dX7_retime_19 rfl ?_
      refine r_iload_n (pc := 20) dX7_retime_20 rfl ?_
      refine r_iload_n (pc := 21) dX7_retime_21 rfl ?_
      refine s_VI (pc := 22) mX7_canRetime (ci := 7) (a := b0) (As := [.int l1, .int l2]) dX7_retime_22 lk_X7_327 in_X7_canRetime mo_X7_canRetime ⟨by decide, rfl⟩ ⟨by decide, by decide⟩ (Nat.le_of_ble_eq_true rfl) k_b0 (mSI_mono K0 (fun r_4 y_3 K0 => ?_))
      refine r_if_ne (pc := 25) (tgt := 31) dX7_retime_25 (by decide) (fun q => ?_) (fun q => ?_)
      · have K0 := K0.1 q
        refine r_aload_n (pc := 31) dX7_retime_31 rfl ?_
        refine s_VV (pc := 32) mX7_remember (ci := 7) (a := b0) (As := []) dX7_retime_32 lk_X7_333 in_X7_remember mo_X7_remember ⟨by decide, rfl⟩ ⟨by decide, by decide⟩ (Nat.le_of_ble_eq_true rfl) k_b0 (mSV_mono K0 (fun y_6 K0 => ?_))
        refine r_aload_n (pc := 35) dX7_retime_35 rfl ?_
        obtain ⟨g_7, K0⟩ := K0
        refine s_getR (pc := 36) dX7_retime_36 fl_X7_20 rfl k_b0 g_7 ?_
        obtain ⟨c_8, g_9, K0⟩ := K0
        refine s_getR (pc := 39) dX7_retime_39 fl_X7_135 rfl k_b0_2 g_9 ?_
        refine r_iload_n (pc := 42) dX7_retime_42 rfl ?_
        obtain ⟨n_11, e_10, K0⟩ := K0
        obtain ⟨i_12, K0⟩ := K0
        obtain ⟨c_13, g_14, K0⟩ := K0
        refine s_aald (pc := 43) dX7_retime_43 (by decide) rfl e_10 i_12 g_14 ?_
        obtain ⟨e_15, K0⟩ := K0
        refine s_getI (pc := 44) dX7_retime_44 fl_X7_147 rfl e_15 ?_
        refine r_istore_n (pc := 47) dX7_retime_47 (by decide) ?_
        refine r_aload_n (pc := 48) (L := [some (.ref b0), some (.int l1), some (.int l2), some (.int (gi y_6 c_13 2))]) dX7_retime_48 rfl ?_
        refine s_getR (pc := 49) dX7_retime_49 fl_X7_20 rfl k_b0 g_7 ?_
        refine s_getR (pc := 52) dX7_retime_52 fl_X7_135 rfl k_b0_2 g_9 ?_
        refine r_iload_n (pc := 55) dX7_retime_55 rfl ?_
        refine s_aald (pc := 56) dX7_retime_56 (by decide) rfl e_10 i_12 g_14 ?_
        refine r_iload_n (pc := 57) dX7_retime_57 rfl ?_
        refine s_putI (pc := 58) dX7_retime_58 fl_X7_147 rfl rfl e_15 ?_
        refine r_iload_n (pc := 61) dX7_retime_61 rfl ?_
        exact s_iret rfl dX7_retime_62 K0
      · have K0 := K0.2 q
        refine r_bipush (pc := 28) (v := (-6)) dX7_retime_28 (by decide) ?_
        exact s_iret rfl dX7_retime_30 K0
    · have q := (b2i_z _).mp q
      have K0 := K0.2 q
      refine r_bipush (pc := 16) (v := (-2)) dX7_retime_16 (by decide) ?_
      exact s_iret rfl dX7_retime_18 K0
set_option maxHeartbeats 2000000 in
theorem v_X8_retime_0 {K : Sh} {x : Cn} {Q : Int32 → Cn → Prop} {b0 : Nat} {l1 : Int32} {l2 : Int32} {b0_1 : Nat} {n_b0_1 : Nat} (k_b0 : kk K b0 = some (8, 0)) (g_b0_1 : gr x b0 1 = some b0_1) (k_b0_1 : kk K b0_1 = some (20, n_b0_1)) (K0 : vp_in 2 n_b0_1 ∧ ((¬ (0 ≤ l1 ∧ l1 ≤ gi x b0_1 2 - 1) → (Q (-2) x)) ∧ ((0 ≤ l1 ∧ l1 ≤ gi x b0_1 2 - 1) → (vp_in 0 n_b0_1 ∧ (((0 < gi x b0_1 0 ∧ 0 ≤ l2 ∧ l2 ≤ 23) → (mSI mX8_canRetime [.ref b0, .int l1, .int l2] K x (fun r_6 y_5 => (¬ r_6 = 0 → (mSV mX8_keeps [.ref b0] K y_5 (fun y_8 => ∃ c_9 : Nat, gr y_8 b0 3 = some c_9 ∧ (∃ n_12 : Nat, kk K c_9 = some (20, n_12) ∧ ((l24 l1 n_12) ∧ (mSV mX8_lays [.ref b0, .int l1, .int 2, .int l2] K y_8 (fun y_14 => Q (so (gi y_8 c_9) (l1 : Int32).toNatClampNeg 2) y_14))))))) ∧ (r_6 = 0 → (Q (-6) y_5))))) ∧ (¬ (0 < gi x b0_1 0 ∧ 0 ≤ l2 ∧ l2 ≤ 23) → (Q (-2) x))))))) : mSI mX8_retime [.ref b0, .int l1, .int l2] K x Q := by
  refine s_I (by decide) (by simp [Value.category]) (Nat.le_of_ble_eq_true rfl) ?_
  show mGM mX8_retime 0 [some (.ref b0), some (.int l1), some (.int l2), none] [] (hp K x) (PI K Q)
  refine r_aload_n (pc := 0) dX8_retime_0 rfl ?_
  refine r_iload_n (pc := 1) dX8_retime_1 rfl ?_
  obtain ⟨i_1, K0⟩ := K0
  refine s_VI (pc := 2) mX8_isSeries (ci := 8) (a := b0) (As := [.int l1]) dX8_retime_2 lk_X8_273 in_X8_isSeries mo_X8_isSeries ⟨by decide, rfl⟩ ⟨by decide, by decide⟩ (Nat.le_of_ble_eq_true rfl) k_b0 (sp_X8_isSeries k_b0 g_b0_1 k_b0_1 i_1 ?_)
  refine r_if_eq (pc := 5) (tgt := 16) dX8_retime_5 (by decide) (fun q => ?_) (fun q => ?_)
  · have q := (b2i_z _).mp q
    have K0 := K0.1 q
    refine r_bipush (pc := 16) (v := (-2)) dX8_retime_16 (by decide) ?_
    exact s_iret rfl dX8_retime_18 K0
  · have q := b2i_nz q
    have K0 := K0.2 q
    refine r_aload_n (pc := 8) dX8_retime_8 rfl ?_
    refine r_iload_n (pc := 9) dX8_retime_9 rfl ?_
    obtain ⟨i_3, K0⟩ := K0
    refine s_VI (pc := 10) mX8_isHour (ci := 8) (a := b0) (As := [.int l2]) dX8_retime_10 lk_X8_64 in_X8_isHour mo_X8_isHour ⟨by decide, rfl⟩ ⟨by decide, by decide⟩ (Nat.le_of_ble_eq_true rfl) k_b0 (sp_X8_isHour k_b0 g_b0_1 k_b0_1 i_3 ?_)
    refine r_if_ne (pc := 13) (tgt := 19) dX8_retime_13 (by decide) (fun q => ?_) (fun q => ?_)
    · have q := b2i_nz q
      have K0 := K0.1 q
      refine r_aload_n (pc := 19) dX8_retime_19 rfl ?_
      refine r_iload_n (pc := 20) dX8_retime_20 rfl ?_
      refine r_iload_n (pc := 21) dX8_retime_21 rfl ?_
      refine s_VI (pc := 22) mX8_canRetime (ci := 8) (a := b0) (As := [.int l1, .int l2]) dX8_retime_22 lk_X8_357 in_X8_canRetime mo_X8_canRetime ⟨by decide, rfl⟩ ⟨by decide, by decide⟩ (Nat.le_of_ble_eq_true rfl) k_b0 (mSI_mono K0 (fun r_6 y_5 K0 => ?_))
      refine r_if_ne (pc := 25) (tgt := 31) dX8_retime_25 (by decide) (fun q => ?_) (fun q => ?_)
      · have K0 := K0.1 q
        refine r_aload_n (pc := 31) dX8_retime_31 rfl ?_
        refine s_VV (pc := 32) mX8_keeps (ci := 8) (a := b0) (As := []) dX8_retime_32 lk_X8_366 in_X8_keeps mo_X8_keeps ⟨by decide, rfl⟩ ⟨by decide, by decide⟩ (Nat.le_of_ble_eq_true rfl) k_b0 (mSV_mono K0 (fun y_8 K0 => ?_))
        refine r_aload_n (pc := 35) dX8_retime_35 rfl ?_
        refine r_iload_n (pc := 36) dX8_retime_36 rfl ?_
        refine r_iconst (pc := 37) (v := 2) dX8_retime_37 (by decide) ?_
        obtain ⟨c_9, g_10, K0⟩ := K0
        obtain ⟨n_12, e_11, K0⟩ := K0
        obtain ⟨p_13, K0⟩ := K0
        refine s_VI (pc := 38) mX8_one (ci := 8) (a := b0) (As := [.int l1, .int 2]) dX8_retime_38 lk_X8_67 in_X8_one mo_X8_one ⟨by decide, rfl⟩ ⟨by decide, by decide⟩ (Nat.le_of_ble_eq_true rfl) k_b0 (sr_X8_one k_b0 g_10 e_11 p_13 ⟨by decide, by decide⟩ ?_)
        refine r_istore_n (pc := 41) dX8_retime_41 (by decide) ?_
        refine r_aload_n (pc := 42) (L := [some (.ref b0), some (.int l1), some (.int l2), some (.int (so (gi y_8 c_9) (l1 : Int32).toNatClampNeg 2))]) dX8_retime_42 rfl ?_
        refine r_iload_n (pc := 43) dX8_retime_43 rfl ?_
        refine r_iconst (pc := 44) (v := 2) dX8_retime_44 (by decide) ?_
        refine r_iload_n (pc := 45) dX8_retime_45 rfl ?_
        refine s_VV (pc := 46) mX8_lays (ci := 8) (a := b0) (As := [.int l1, .int 2, .int l2]) dX8_retime_46 lk_X8_230 in_X8_lays mo_X8_lays ⟨by decide, rfl⟩ ⟨by decide, by decide⟩ (Nat.le_of_ble_eq_true rfl) k_b0 (mSV_mono K0 (fun y_14 K0 => ?_))
        refine r_iload_n (pc := 49) dX8_retime_49 rfl ?_
        exact s_iret rfl dX8_retime_50 K0
      · have K0 := K0.2 q
        refine r_bipush (pc := 28) (v := (-6)) dX8_retime_28 (by decide) ?_
        exact s_iret rfl dX8_retime_30 K0
    · have q := (b2i_z _).mp q
      have K0 := K0.2 q
      refine r_bipush (pc := 16) (v := (-2)) dX8_retime_16 (by decide) ?_
      exact s_iret rfl dX8_retime_18 K0
section
variable {y : Cn} {Q : Int32 → Cn → Prop} {T : TT} {W C S A N n : Nat} {H : Nat → TT}
theorem sq_X8_retime {a b : Int32} (r : RS y T n H) (F : WF T W C S A N) (k1 : ¬ ((0 ≤ a ∧ a < nI S) ∧ (0 < nI W ∧ 0 ≤ b ∧ b < 24)) → Q (-2) y) (k2 : (0 ≤ a ∧ a < nI S) → (0 < nI W ∧ 0 ≤ b ∧ b < 24) → bP (crt T S W N a.toNatClampNeg b.toNatClampNeg) = 0 → Q (-6) y) (k3 : (0 ≤ a ∧ a < nI S) → (0 < nI W ∧ 0 ≤ b ∧ b < 24) → ¬ bP (crt T S W N a.toNatClampNeg b.toNatClampNeg) = 0 → ∀ z, RFr y z → RS z (uT T (62 + 12 * a.toNatClampNeg + 2) b) (pn n) (push H n T) → Q (so T a.toNatClampNeg 2) z) : mSI mX8_retime [.ref 717, .int a, .int b] KW y Q := by
  have hS : S ≤ 24 := F.2.2.2.2.2.2.1
  have hW : W ≤ 30 := F.2.2.1
  have M := r.1
  refine v_X8_retime_0 km M.1 km1 ⟨v0 (k := 2) (by decide) rfl rfl, ?_⟩
  rw [r.2.1, F.2.2.2.2.2.1, F.1, inN' (by omega), d24]
  refine ⟨fun z => k1 (fun u => z u.1), fun z1 => ⟨v0 (k := 0) (by decide) rfl rfl, fun z2 => ?_, fun z => k1 (fun u => z u.2)⟩⟩
  have k2 := k2 z1 z2
  have k3 := k3 z1 z2
  obtain ⟨s, hs, rfl⟩ := inN (by omega) z1
  obtain ⟨h, hh, rfl⟩ := inN (n := 24) (by decide) z2.2
  rw [nI_clamp (by omega), nI_clamp (by omega)] at k2
  rw [nI_clamp (by omega), nI_clamp (by omega)] at k3
  refine sp_X8_canRetime M (by rw [r.2.1]; exact F) hs hh ?_
  rw [r.2.1]
  refine ⟨fun u => ?_, fun u => k2 u⟩
  refine r.keeps (fun z f1 r1 => ⟨718, r1.1.2.2.1, 518, km1, l24_nI (by omega) rfl, ?_⟩)
  rw [r1.2.1, nI_clamp (by omega)]
  exact sp_X8_lays (k := 2) r1.1 km1 (by omega) (by decide) (k3 u _ f1.u8 r1.u8)
end
set_option maxHeartbeats 2000000 in
theorem v_X7_hand_0 {K : Sh} {x : Cn} {Q : Int32 → Cn → Prop} {b0 : Nat} {l1 : Int32} {l2 : Int32} {b0_2 : Nat} {b0_3 : Nat} {b0_2_7 : Nat} {n_b0_2_7 : Nat} (k_b0 : kk K b0 = some (7, 0)) (g_b0_2 : gr x b0 2 = some b0_2) (k_b0_2 : kk K b0_2 = some (4, 0)) (g_b0_3 : gr x b0 3 = some b0_3) (k_b0_3 : kk K b0_3 = some (1, 0)) (g_b0_2_7 : gr x b0_2 7 = some b0_2_7) (k_b0_2_7 : kk K b0_2_7 = some (23, n_b0_2_7)) (K0 : (¬ (0 ≤ l1 ∧ l1 < gi x b0_2 3) → (Q (-2) x)) ∧ ((0 ≤ l1 ∧ l1 < gi x b0_2 3) → (((0 ≤ l2 ∧ l2 < gi x b0_3 0) → (vp_in l1 n_b0_2_7 ∧ (∃ c_4 : Nat, gr x b0_2_7 ((l1 : Int32).toNatClampNeg) = some c_4 ∧ (kk K c_4 = some (5, 0) ∧ (((gi x c_4 4) = 0 → ((¬ (gi x c_4 0) = l2 → (mSV mX7_remember [.ref b0] K x (fun y_9 => Q (gi y_9 c_4 0) (ui y_9 c_4 0 l2)))) ∧ ((gi x c_4 0) = l2 → (Q (-6) x)))) ∧ (¬ (gi x c_4 4) = 0 → (Q (-5) x))))))) ∧ (¬ (0 ≤ l2 ∧ l2 < gi x b0_3 0) → (Q (-2) x))))) : mSI mX7_hand [.ref b0, .int l1, .int l2] K x Q := by
  refine s_I (by decide) (by simp [Value.category]) (Nat.le_of_ble_eq_true rfl) ?_
  show mGM mX7_hand 0 [some (.ref b0), some (.int l1), some (.int l2), none, none] [] (hp K x) (PI K Q)
  refine r_aload_n (pc := 0) dX7_hand_0 rfl ?_
  refine r_iload_n (pc := 1) dX7_hand_1 rfl ?_
  refine s_VI (pc := 2) mX7_isSeries (ci := 7) (a := b0) (As := [.int l1]) dX7_hand_2 lk_X7_132 in_X7_isSeries mo_X7_isSeries ⟨by decide, rfl⟩ ⟨by decide, by decide⟩ (Nat.le_of_ble_eq_true rfl) k_b0 (sp_X7_isSeries k_b0 g_b0_2 k_b0_2 ?_)
  refine r_if_eq (pc := 5) (tgt := 16) dX7_hand_5 (by decide) (fun q => ?_) (fun q => ?_)
  · have q := (b2i_z _).mp q
    have K0 := K0.1 q
    refine r_bipush (pc := 16) (v := (-2)) dX7_hand_16 (by decide) ?_
    exact s_iret rfl dX7_hand_18 K0
  · have q := b2i_nz q
    have K0 := K0.2 q
    refine r_aload_n (pc := 8) dX7_hand_8 rfl ?_
    refine r_iload_n (pc := 9) dX7_hand_9 rfl ?_
    refine s_VI (pc := 10) mX7_isCarrier (ci := 7) (a := b0) (As := [.int l2]) dX7_hand_10 lk_X7_109 in_X7_isCarrier mo_X7_isCarrier ⟨by decide, rfl⟩ ⟨by decide, by decide⟩ (Nat.le_of_ble_eq_true rfl) k_b0 (sp_X7_isCarrier k_b0 g_b0_3 k_b0_3 ?_)
    refine r_if_ne (pc := 13) (tgt := 19) dX7_hand_13 (by decide) (fun q => ?_) (fun q => ?_)
    · have q := b2i_nz q
      have K0 := K0.1 q
      refine r_aload_n (pc := 19) dX7_hand_19 rfl ?_
      refine s_getR (pc := 20) dX7_hand_20 fl_X7_20 rfl k_b0 g_b0_2 ?_
      refine s_getR (pc := 23) dX7_hand_23 fl_X7_135 rfl k_b0_2 g_b0_2_7 ?_
      refine r_iload_n (pc := 26) dX7_hand_26 rfl ?_
      obtain ⟨i_3, K0⟩ := K0
      obtain ⟨c_4, g_5, K0⟩ := K0
      refine s_aald (pc := 27) dX7_hand_27 (by decide) rfl k_b0_2_7 i_3 g_5 ?_
      refine r_astore_n (pc := 28) dX7_hand_28 (by decide) ?_
      refine r_aload_n (pc := 29) (L := [some (.ref b0), some (.int l1), some (.int l2), some (.ref c_4), none]) dX7_hand_29 rfl ?_
      obtain ⟨e_6, K0⟩ := K0
      refine s_getI (pc := 30) dX7_hand_30 fl_X7_153 rfl e_6 ?_
      refine r_if_eq (pc := 33) (tgt := 39) dX7_hand_33 (by decide) (fun q => ?_) (fun q => ?_)
      · have K0 := K0.1 q
        refine r_aload_n (pc := 39) dX7_hand_39 rfl ?_
        refine s_getI (pc := 40) dX7_hand_40 fl_X7_139 rfl e_6 ?_
        refine r_iload_n (pc := 43) dX7_hand_43 rfl ?_
        refine r_icmp_ne (pc := 44) (tgt := 50) dX7_hand_44 (by decide) (fun q => ?_) (fun q => ?_)
        · have K0 := K0.1 q
          refine r_aload_n (pc := 50) dX7_hand_50 rfl ?_
          refine s_VV (pc := 51) mX7_remember (ci := 7) (a := b0) (As := []) dX7_hand_51 lk_X7_333 in_X7_remember mo_X7_remember ⟨by decide, rfl⟩ ⟨by decide, by decide⟩ (Nat.le_of_ble_eq_true rfl) k_b0 (mSV_mono K0 (fun y_9 K0 => ?_))
          refine r_aload_n (pc := 54) dX7_hand_54 rfl ?_
          refine s_getI (pc := 55) dX7_hand_55 fl_X7_139 rfl e_6 ?_
          refine r_istore (pc := 58) dX7_hand_58 (by decide) ?_
          refine r_aload_n (pc := 60) (L := [some (.ref b0), some (.int l1), some (.int l2), some (.ref c_4), some (.int (gi y_9 c_4 0))]) dX7_hand_60 rfl ?_
          refine r_iload_n (pc := 61) dX7_hand_61 rfl ?_
          refine s_putI (pc := 62) dX7_hand_62 fl_X7_139 rfl rfl e_6 ?_
          refine r_iload (pc := 65) dX7_hand_65 rfl ?_
          exact s_iret rfl dX7_hand_67 K0
        · have K0 := K0.2 q
          refine r_bipush (pc := 47) (v := (-6)) dX7_hand_47 (by decide) ?_
          exact s_iret rfl dX7_hand_49 K0
      · have K0 := K0.2 q
        refine r_bipush (pc := 36) (v := (-5)) dX7_hand_36 (by decide) ?_
        exact s_iret rfl dX7_hand_38 K0
    · have q := (b2i_z _).mp q
      have K0 := K0.2 q
      refine r_bipush (pc := 16) (v := (-2)) dX7_hand_16 (by decide) ?_
      exact s_iret rfl dX7_hand_18 K0
set_option maxHeartbeats 2000000 in
theorem v_X8_hand_0 {K : Sh} {x : Cn} {Q : Int32 → Cn → Prop} {b0 : Nat} {l1 : Int32} {l2 : Int32} {b0_1 : Nat} {n_b0_1 : Nat} {b0_3 : Nat} {n_b0_3 : Nat} (k_b0 : kk K b0 = some (8, 0)) (g_b0_1 : gr x b0 1 = some b0_1) (k_b0_1 : kk K b0_1 = some (20, n_b0_1)) (g_b0_3 : gr x b0 3 = some b0_3) (k_b0_3 : kk K b0_3 = some (20, n_b0_3)) (K0 : vp_in 2 n_b0_1 ∧ ((¬ (0 ≤ l1 ∧ l1 ≤ gi x b0_1 2 - 1) → (Q (-2) x)) ∧ ((0 ≤ l1 ∧ l1 ≤ gi x b0_1 2 - 1) → (vp_in 1 n_b0_1 ∧ (((0 ≤ l2 ∧ l2 ≤ gi x b0_1 1 - 1) → ((l24 l1 n_b0_3) ∧ ((¬ (so (gi x b0_3) (l1 : Int32).toNatClampNeg 4 = 1) → ((¬ (so (gi x b0_3) (l1 : Int32).toNatClampNeg 0) = l2 → (mSV mX8_keeps [.ref b0] K x (fun y_8 => mSV mX8_lays [.ref b0, .int l1, .int 0, .int l2] K y_8 (fun y_9 => Q (so (gi x b0_3) (l1 : Int32).toNatClampNeg 0) y_9)))) ∧ ((so (gi x b0_3) (l1 : Int32).toNatClampNeg 0) = l2 → (Q (-6) x)))) ∧ ((so (gi x b0_3) (l1 : Int32).toNatClampNeg 4 = 1) → (Q (-5) x))))) ∧ (¬ (0 ≤ l2 ∧ l2 ≤ gi x b0_1 1 - 1) → (Q (-2) x))))))) : mSI mX8_hand [.ref b0, .int l1, .int l2] K x Q := by
  refine s_I (by decide) (by simp [Value.category]) (Nat.le_of_ble_eq_true rfl) ?_
  show mGM mX8_hand 0 [some (.ref b0), some (.int l1), some (.int l2), none] [] (hp K x) (PI K Q)
  refine r_aload_n (pc := 0) dX8_hand_0 rfl ?_
  refine r_iload_n (pc := 1) dX8_hand_1 rfl ?_
  obtain ⟨i_1, K0⟩ := K0
  refine s_VI (pc := 2) mX8_isSeries (ci := 8) (a := b0) (As := [.int l1]) dX8_hand_2 lk_X8_273 in_X8_isSeries mo_X8_isSeries ⟨by decide, rfl⟩ ⟨by decide, by decide⟩ (Nat.le_of_ble_eq_true rfl) k_b0 (sp_X8_isSeries k_b0 g_b0_1 k_b0_1 i_1 ?_)
  refine r_if_eq (pc := 5) (tgt := 16) dX8_hand_5 (by decide) (fun q => ?_) (fun q => ?_)
  · have q := (b2i_z _).mp q
    have K0 := K0.1 q
    refine r_bipush (pc := 16) (v := (-2)) dX8_hand_16 (by decide) ?_
    exact s_iret rfl dX8_hand_18 K0
  · have q := b2i_nz q
    have K0 := K0.2 q
    refine r_aload_n (pc := 8) dX8_hand_8 rfl ?_
    refine r_iload_n (pc := 9) dX8_hand_9 rfl ?_
    obtain ⟨i_3, K0⟩ := K0
    refine s_VI (pc := 10) mX8_isCarrier (ci := 8) (a := b0) (As := [.int l2]) dX8_hand_10 lk_X8_265 in_X8_isCarrier mo_X8_isCarrier ⟨by decide, rfl⟩ ⟨by decide, by decide⟩ (Nat.le_of_ble_eq_true rfl) k_b0 (sp_X8_isCarrier k_b0 g_b0_1 k_b0_1 i_3 ?_)
    refine r_if_ne (pc := 13) (tgt := 19) dX8_hand_13 (by decide) (fun q => ?_) (fun q => ?_)
    · have q := b2i_nz q
      have K0 := K0.1 q
      refine r_aload_n (pc := 19) dX8_hand_19 rfl ?_
      refine r_iload_n (pc := 20) dX8_hand_20 rfl ?_
      obtain ⟨p_5, K0⟩ := K0
      refine s_VI (pc := 21) mX8_isNew (ci := 8) (a := b0) (As := [.int l1]) dX8_hand_21 lk_X8_382 in_X8_isNew mo_X8_isNew ⟨by decide, rfl⟩ ⟨by decide, by decide⟩ (Nat.le_of_ble_eq_true rfl) k_b0 (sr_X8_isNew k_b0 g_b0_3 k_b0_3 p_5 ?_)
      refine r_if_eq (pc := 24) (tgt := 30) dX8_hand_24 (by decide) (fun q => ?_) (fun q => ?_)
      · have q := (b2i_z _).mp q
        have K0 := K0.1 q
        refine r_aload_n (pc := 30) dX8_hand_30 rfl ?_
        refine r_iload_n (pc := 31) dX8_hand_31 rfl ?_
        refine r_iconst (pc := 32) (v := 0) dX8_hand_32 (by decide) ?_
        refine s_VI (pc := 33) mX8_one (ci := 8) (a := b0) (As := [.int l1, .int 0]) dX8_hand_33 lk_X8_67 in_X8_one mo_X8_one ⟨by decide, rfl⟩ ⟨by decide, by decide⟩ (Nat.le_of_ble_eq_true rfl) k_b0 (sr_X8_one k_b0 g_b0_3 k_b0_3 p_5 ⟨by decide, by decide⟩ ?_)
        refine r_istore_n (pc := 36) dX8_hand_36 (by decide) ?_
        refine r_iload_n (pc := 37) (L := [some (.ref b0), some (.int l1), some (.int l2), some (.int (so (gi x b0_3) (l1 : Int32).toNatClampNeg 0))]) dX8_hand_37 rfl ?_
        refine r_iload_n (pc := 38) dX8_hand_38 rfl ?_
        refine r_icmp_ne (pc := 39) (tgt := 45) dX8_hand_39 (by decide) (fun q => ?_) (fun q => ?_)
        · have K0 := K0.1 q
          refine r_aload_n (pc := 45) dX8_hand_45 rfl ?_
          refine s_VV (pc := 46) mX8_keeps (ci := 8) (a := b0) (As := []) dX8_hand_46 lk_X8_366 in_X8_keeps mo_X8_keeps ⟨by decide, rfl⟩ ⟨by decide, by decide⟩ (Nat.le_of_ble_eq_true rfl) k_b0 (mSV_mono K0 (fun y_8 K0 => ?_))
          refine r_aload_n (pc := 49) dX8_hand_49 rfl ?_
          refine r_iload_n (pc := 50) dX8_hand_50 rfl ?_
          refine r_iconst (pc := 51) (v := 0) dX8_hand_51 (by decide) ?_
          refine r_iload_n (pc := 52) dX8_hand_52 rfl ?_
          refine s_VV (pc := 53) mX8_lays (ci := 8) (a := b0) (As := [.int l1, .int 0, .int l2]) dX8_hand_53 lk_X8_230 in_X8_lays mo_X8_lays ⟨by decide, rfl⟩ ⟨by decide, by decide⟩ (Nat.le_of_ble_eq_true rfl) k_b0 (mSV_mono K0 (fun y_9 K0 => ?_))
          refine r_iload_n (pc := 56) dX8_hand_56 rfl ?_
          exact s_iret rfl dX8_hand_57 K0
        · have K0 := K0.2 q
          refine r_bipush (pc := 42) (v := (-6)) dX8_hand_42 (by decide) ?_
          exact s_iret rfl dX8_hand_44 K0
      · have q := b2i_nz q
        have K0 := K0.2 q
        refine r_bipush (pc := 27) (v := (-5)) dX8_hand_27 (by decide) ?_
        exact s_iret rfl dX8_hand_29 K0
    · have q := (b2i_z _).mp q
      have K0 := K0.2 q
      refine r_bipush (pc := 16) (v := (-2)) dX8_hand_16 (by decide) ?_
      exact s_iret rfl dX8_hand_18 K0
section
variable {y : Cn} {Q : Int32 → Cn → Prop} {T : TT} {W C S A N n : Nat} {H : Nat → TT}
theorem sq_X8_hand {a b : Int32} (r : RS y T n H) (F : WF T W C S A N) (k1 : ¬ ((0 ≤ a ∧ a < nI S) ∧ (0 ≤ b ∧ b < nI C)) → Q (-2) y) (k2 : (0 ≤ a ∧ a < nI S) → (0 ≤ b ∧ b < nI C) → so T a.toNatClampNeg 4 = 1 → Q (-5) y) (k3 : (0 ≤ a ∧ a < nI S) → (0 ≤ b ∧ b < nI C) → ¬ so T a.toNatClampNeg 4 = 1 → so T a.toNatClampNeg 0 = b → Q (-6) y) (k4 : (0 ≤ a ∧ a < nI S) → (0 ≤ b ∧ b < nI C) → ¬ so T a.toNatClampNeg 4 = 1 → ¬ so T a.toNatClampNeg 0 = b → ∀ z, RFr y z → RS z (uT T (62 + 12 * a.toNatClampNeg + 0) b) (pn n) (push H n T) → Q (so T a.toNatClampNeg 0) z) : mSI mX8_hand [.ref 717, .int a, .int b] KW y Q := by
  have hS : S ≤ 24 := F.2.2.2.2.2.2.1
  have hC : C ≤ 8 := F.2.2.2.2.1
  have M := r.1
  refine v_X8_hand_0 km M.1 km1 M.2.2.1 km1 ⟨v0 (k := 2) (by decide) rfl rfl, ?_⟩
  rw [r.2.1, F.2.2.2.2.2.1, F.2.2.2.1, inN' (by omega), inN' (by omega)]
  refine ⟨fun z => k1 (fun u => z u.1), fun z1 => ⟨v0 (k := 1) (by decide) rfl rfl, fun z2 => ?_, fun z => k1 (fun u => z u.2)⟩⟩
  have k2 := k2 z1 z2
  have k3 := k3 z1 z2
  have k4 := k4 z1 z2
  obtain ⟨s, hs, rfl⟩ := inN (by omega) z1
  rw [nI_clamp (by omega)] at k2 k3 k4 ⊢
  refine ⟨l24_nI (by omega) rfl, fun u => ⟨fun u2 => ?_, fun u2 => k3 u u2⟩, fun u => k2 u⟩
  exact r.keeps (fun z f1 r1 => sp_X8_lays (k := 0) r1.1 km1 (by omega) (by decide) (k4 u u2 _ f1.u8 r1.u8))
theorem opf_in {T : TT} {C W s w : Nat} (g : Wse T C W s) (hW : W ≤ 30) (hw : w < 100) : ∀ i, i < 32 → tb (opf T W s w) i = true → tb (so T s (7 + 0)) i = true := fun i _ e => by
  rw [opf_eq g hW hw, tb_and, Bool.and_eq_true] at e
  exact e.1
theorem AC.giv {x z : Cn} {W C S A N n s p w : Nat} {T : TT} {H : Nat → TT} (az : AC x z W C S A N n T H) (hs : s < S) (hw : w < 100) (hp : gr z 5 s = some p) : AC x (ui z p 11 (gi z p 11 ||| opf T W s w)) W C S A N n (goT T s (opf T W s w) 0 4) H := by
  have E := az.2.2.2.2
  have hW : W ≤ 30 := E.nums.2.2.2.2.1
  have w0 := E.2.2.2.2.2.2.2.2.2.2.2.2.2.2.2.1 s hs
  have es := az.2.2.2.2.2.2.1.2.2.2.2.2.2.1 s p hs hp
  refine az.go hs hp ((EQx.rf z p).ui) (by decide) (by decide) (by decide) (opf_in w0 hW hw) (by rw [gi_ui, if_neg (by omega)]) (fun j h1 h2 => ?_)
  rw [gi_ui, so_goT _ _ _ (by decide) (by decide) h1]
  by_cases c : j = 11
  · rw [if_pos ⟨rfl, c⟩, if_pos c, es.1 11 (by decide) (by decide)]
  · rw [if_neg (fun v => c v.2), if_neg c, if_neg h2]
    exact es.1 j h1 h2
/-- one number of a series changes, none of its weeks -/
theorem AC.one {x z : Cn} {W C S A N n s p k : Nat} {T : TT} {H : Nat → TT} {v : Int32} (az : AC x z W C S A N n T H) (hs : s < S) (hp : gr z 5 s = some p) (hk : k < 7) (hw : Wse (uT T (62 + 12 * s + k) v) C W s) : AC x (ui z p k v) W C S A N n (uT T (62 + 12 * s + k) v) H := by
  have es := az.2.2.2.2.2.2.1.2.2.2.2.2.2.1 s p hs hp
  refine az.ser hs hp ((EQx.rf z p).ui) (fun i _ h => uT_ne _ _ (by omega)) ⟨fun j h1 h2 => ?_, ?_⟩ hw
  · rw [gi_ui, so_uT _ _ _ _ _ _ (by omega) h1]
    by_cases c : j = k
    · rw [if_pos ⟨rfl, c⟩, if_pos ⟨rfl, c⟩]
    · rw [if_neg (fun v => c v.2), if_neg (fun v => c v.2)]
      exact es.1 j h1 h2
  · unfold bas
    rw [gi_ui, if_neg (by omega), so_uT _ _ _ _ _ _ (by omega) (by decide), if_neg (by omega), so_uT _ _ _ _ _ _ (by omega) (by decide), if_neg (by omega), so_uT _ _ _ _ _ _ (by omega) (by decide), if_neg (by omega), so_uT _ _ _ _ _ _ (by omega) (by decide), if_neg (by omega), so_uT _ _ _ _ _ _ (by omega) (by decide), if_neg (by omega)]
    exact es.2
theorem Wse.u2 {T : TT} {C W s h : Nat} (g : Wse T C W s) (hh : h < 24) : Wse (uT T (62 + 12 * s + 2) (nI h)) C W s := by
  have e : ∀ j, j < 12 → j ≠ 2 → so (uT T (62 + 12 * s + 2) (nI h)) s j = so T s j := fun j h1 h2 => by rw [so_uT _ _ _ _ _ _ (by decide) h1, if_neg (fun v => h2 v.2)]
  obtain ⟨g1, g2, g3, g4, g5, g6, g7, g8⟩ := g
  exact ⟨by rw [e 0 (by decide) (by decide)]; exact g1, by rw [e 1 (by decide) (by decide)]; exact g2, ⟨h, hh, by rw [so_uT _ _ _ _ _ _ (by decide) (by decide), if_pos ⟨rfl, rfl⟩]⟩, by rw [e 3 (by decide) (by decide)]; exact g4, by rw [e 4 (by decide) (by decide)]; exact g5, by rw [e 5 (by decide) (by decide), e 6 (by decide) (by decide)]; exact g6, fun i hi k j hk hj a b => g7 i hi k j hk hj (by rw [← e (7 + k) (by omega) (by omega)]; exact a) (by rw [← e (7 + j) (by omega) (by omega)]; exact b), fun i k hk a => g8 i k hk (by rw [← e (7 + k) (by omega) (by omega)]; exact a)⟩
theorem Wse.u0 {T : TT} {C W s c : Nat} (g : Wse T C W s) (hc : c < C) : Wse (uT T (62 + 12 * s + 0) (nI c)) C W s := by
  have e : ∀ j, j < 12 → j ≠ 0 → so (uT T (62 + 12 * s + 0) (nI c)) s j = so T s j := fun j h1 h2 => by rw [so_uT _ _ _ _ _ _ (by decide) h1, if_neg (fun v => h2 v.2)]
  obtain ⟨g1, g2, g3, g4, g5, g6, g7, g8⟩ := g
  exact ⟨⟨c, hc, by rw [so_uT _ _ _ _ _ _ (by decide) (by decide), if_pos ⟨rfl, rfl⟩]⟩, by rw [e 1 (by decide) (by decide)]; exact g2, by rw [e 2 (by decide) (by decide)]; exact g3, by rw [e 3 (by decide) (by decide)]; exact g4, by rw [e 4 (by decide) (by decide)]; exact g5, by rw [e 5 (by decide) (by decide), e 6 (by decide) (by decide)]; exact g6, fun i hi k j hk hj a b => g7 i hi k j hk hj (by rw [← e (7 + k) (by omega) (by omega)]; exact a) (by rw [← e (7 + j) (by omega) (by omega)]; exact b), fun i k hk a => g8 i k hk (by rw [← e (7 + k) (by omega) (by omega)]; exact a)⟩
end
theorem eq_miss (a b : Int32) : Both mX7_miss mX8_miss [.int a, .int b] := by
  intro x R
  obtain ⟨W, C, S, A, N, n, H, ac, rs, nm⟩ := R.ac
  have E := ac.2.2.2.2
  have hn := E.nums
  have hS : S ≤ 24 := hn.2.2.2.2.2.2.1
  have hW : W ≤ 30 := hn.2.2.2.2.1
  have hC : C ≤ 8 := hn.2.2.2.2.2.1
  refine v_X7_miss_0 k0 R.1.2.1 (ks0 E.1) E.2.1.2.2.1 (ks3 E.1) ?_
  rw [hn.2.2.1, hn.1]
  refine ⟨fun z => sq_X8_miss rs E.2.2.2 (fun _ => ⟨rfl, R⟩) (fun u => absurd u z) (fun u => absurd u z), fun z1 => ⟨fun z2 => ?_, fun z => sq_X8_miss rs E.2.2.2 (fun _ => ⟨rfl, R⟩) (fun _ u => absurd u z) (fun _ u => absurd u z)⟩⟩
  have no := fun k2 => sq_X8_miss (Q := fun r' z => (-6 : Int32) = r' ∧ Rel z) rs E.2.2.2 (fun u => absurd ⟨z1, z2⟩ u) (fun _ _ _ => ⟨rfl, R⟩) k2
  obtain ⟨s, hs, rfl⟩ := inN (by omega) z1
  obtain ⟨w, hw, rfl⟩ := inN (by omega) z2
  obtain ⟨p, e1, e2, e3, e4, -, e6⟩ := E.ser hs
  rw [nI_clamp (show s < 2 ^ 31 by omega)] at no ⊢
  rw [nI_clamp (show w < 2 ^ 31 by omega)] at no
  refine ⟨vp_in_nI (by omega) (by decide), p, e1, e2, sp_X5_stateOf (by omega) e2 e3 e6 ⟨fun u => no (fun _ _ v => absurd v u), fun u => ⟨R.1.2.1, ?_⟩⟩⟩
  rw [hn.2.1]
  refine ⟨fun u2 => ac.rem (fun _ _ => rfl) (fun z az z1' z2' => ?_), fun u2 => no (fun _ _ _ v => absurd v u2)⟩
  have hp : gr z 5 s = some p := (z2' 5 s (by decide)).trans e1
  have hin := wb_in (show w < 32 by omega) (stt_tb (k := 0) (by decide) u)
  have es := az.2.2.2.2.2.2.1.2.2.2.2.2.2.1 s p hs hp
  have a2 : AC x (ui z p 9 (gi z p 9 ||| (1 <<< (nI w &&& 31)))) W C S A N (pn n) (goT (gi x 718) s (wb (nI w)) 0 2) (push H n (gi x 718)) := by
    refine az.go hs hp ((EQx.rf z p).ui) (by decide) (by decide) (by decide) hin (by rw [gi_ui, if_neg (by omega)]) (fun j h1 h2 => ?_)
    rw [gi_ui, so_goT _ _ _ (by decide) (by decide) h1]
    by_cases c : j = 9
    · rw [if_pos ⟨rfl, c⟩, if_pos c, es.1 9 (by decide) (by decide)]
    · rw [if_neg (fun v => c v.2), if_neg c, if_neg h2]
      exact es.1 j h1 h2
  have E2 := a2.2.2.2.2
  obtain ⟨p', g1, g2, g3, -, -, g6⟩ := E2.ser hs
  have epp : p' = p := Option.some.inj (g1.symm.trans hp)
  subst epp
  refine sp_X5_missesLeft g2 g3 g6 ?_
  have u9 : stt (gi x 718) (nI s).toNatClampNeg (nI w).toNatClampNeg = 0 := by rw [nI_clamp (by omega), nI_clamp (by omega)]; exact u
  refine sq_X8_miss (a2.rs rs) E.2.2.2 (fun v => absurd ⟨z1, z2⟩ v) (fun _ _ v => absurd ⟨u9, u2⟩ v) (fun _ _ _ _ v f r2 => ?_)
  · rw [nI_clamp (show s < 2 ^ 31 by omega)] at r2 ⊢
    exact ⟨rfl, a2.fin R nm (fun c hc => goT_nm _ _ _ _ _ _ (by omega)) f r2⟩
theorem eq_excuse (a b : Int32) : Both mX7_excuse mX8_excuse [.int a, .int b] := by
  intro x R
  obtain ⟨W, C, S, A, N, n, H, ac, rs, nm⟩ := R.ac
  have E := ac.2.2.2.2
  have hn := E.nums
  have hS : S ≤ 24 := hn.2.2.2.2.2.2.1
  have hW : W ≤ 30 := hn.2.2.2.2.1
  have hC : C ≤ 8 := hn.2.2.2.2.2.1
  refine v_X7_excuse_0 k0 R.1.2.1 (ks0 E.1) E.2.1.2.2.1 (ks3 E.1) ?_
  rw [hn.2.2.1, hn.1]
  refine ⟨fun z => sq_X8_excuse rs E.2.2.2 (fun _ => ⟨rfl, R⟩) (fun u => absurd u z) (fun u => absurd u z), fun z1 => ⟨fun z2 => ?_, fun z => sq_X8_excuse rs E.2.2.2 (fun _ => ⟨rfl, R⟩) (fun _ u => absurd u z) (fun _ u => absurd u z)⟩⟩
  obtain ⟨s, hs, rfl⟩ := inN (by omega) z1
  obtain ⟨w, hw, rfl⟩ := inN (by omega) z2
  obtain ⟨p, e1, e2, e3, e4, -, e6⟩ := E.ser hs
  rw [nI_clamp (show s < 2 ^ 31 by omega)]
  have go : ∀ k, k = 0 ∨ k = 2 → stt (gi x 718) s w = nI k → mSV mX7_remember [.ref 0] KW x (fun y_10 => ∀ r_11 : Int32, r_11 = gi (ui y_10 p 9 ((gi y_10 p 9) &&& ((1 <<< (nI w &&& 31)) ^^^ (-1)))) p 10 → mSI mX8_excuse [.ref 717, .int (nI s), .int (nI w)] KW (ui (ui y_10 p 9 ((gi y_10 p 9) &&& ((1 <<< (nI w &&& 31)) ^^^ (-1)))) p 10 (r_11 ||| (1 <<< (nI w &&& 31)))) (fun r' z => nI (cpt (gi (ui (ui y_10 p 9 ((gi y_10 p 9) &&& ((1 <<< (nI w &&& 31)) ^^^ (-1)))) p 10 (r_11 ||| (1 <<< (nI w &&& 31)))) p 8 ||| gi (ui (ui y_10 p 9 ((gi y_10 p 9) &&& ((1 <<< (nI w &&& 31)) ^^^ (-1)))) p 10 (r_11 ||| (1 <<< (nI w &&& 31)))) p 10)) = r' ∧ Rel z)) := by
    intro k hk u
    refine ac.rem (fun _ _ => rfl) (fun z az z1' z2' => ?_)
    intro r er
    have hp : gr z 5 s = some p := (z2' 5 s (by decide)).trans e1
    have hb := stt_tb (k := k) (by omega) u
    have hin := wb_in (show w < 32 by omega) hb
    have es := az.2.2.2.2.2.2.1.2.2.2.2.2.2.1 s p hs hp
    have er2 : r = so (gi x 718) s 10 := by rw [er, gi_ui, if_neg (by omega)]; exact es.1 10 (by decide) (by decide)
    have a2 : AC x (ui (ui z p 9 (gi z p 9 &&& ((1 <<< (nI w &&& 31)) ^^^ (-1)))) p 10 (r ||| (1 <<< (nI w &&& 31)))) W C S A N (pn n) (goT (gi x 718) s (wb (nI w)) k 3) (push H n (gi x 718)) := by
      refine az.go hs hp ((EQx.rf z p).ui.ui) (by omega) (by decide) (by omega) hin (by rw [gi_ui, if_neg (by omega), gi_ui, if_neg (by omega)]) (fun j h1 h2 => ?_)
      rw [gi_ui, so_goT _ _ _ (by omega) (by decide) h1]
      by_cases c : j = 10
      · rw [if_pos ⟨rfl, c⟩, if_pos c, er2]
      · rw [if_neg (fun v => c v.2), if_neg c, gi_ui]
        by_cases d : j = 9
        · rw [if_pos ⟨rfl, d⟩, es.1 9 (by decide) (by decide)]
          rcases hk with rfl | rfl
          · rw [if_neg (by omega), d]
            exact an_dis (fun i hi g1 g2 => absurd (e6.2.2.2.2.2.2.1 i hi 0 2 (by decide) (by decide) (hin i hi g1) g2) (by decide))
          · rw [if_pos d]
        · rw [if_neg (fun v => d v.2), if_neg (by omega)]
          exact es.1 j h1 h2
    have E2 := a2.2.2.2.2
    have s2 := E2.2.2.1.2.2.2.2.2.2.1 s p hs hp
    rw [s2.1 8 (by decide) (by decide), s2.1 10 (by decide) (by decide)]
    refine sq_X8_excuse (a2.rs rs) E.2.2.2 (fun v => absurd ⟨z1, z2⟩ v) (fun _ _ v1 v2 => absurd u ?_) (fun _ _ k' hk' u' v f r2 => ?_)
    · rw [nI_clamp (by omega), nI_clamp (by omega)] at v1 v2
      rcases hk with rfl | rfl
      · exact v1
      · exact v2
    · rw [nI_clamp (show s < 2 ^ 31 by omega), nI_clamp (show w < 2 ^ 31 by omega)] at u'
      have : k' = k := (nI_eq (by omega) (by omega)).mp (u'.symm.trans u)
      subst this
      rw [nI_clamp (by omega)] at r2 ⊢
      exact ⟨rfl, a2.fin R nm (fun c hc => goT_nm _ _ _ _ _ _ (by omega)) f r2⟩
  refine ⟨vp_in_nI (by omega) (by decide), p, e1, e2, sp_X5_stateOf (by omega) e2 e3 e6 ⟨fun u => go 2 (Or.inr rfl) u, fun u => ⟨fun u2 => go 0 (Or.inl rfl) u2, fun u2 => ?_⟩⟩⟩
  refine sq_X8_excuse rs E.2.2.2 (fun v => absurd ⟨z1, z2⟩ v) (fun _ _ _ _ => ⟨rfl, R⟩) (fun _ _ k' hk' u' => ?_)
  rw [nI_clamp (show s < 2 ^ 31 by omega), nI_clamp (show w < 2 ^ 31 by omega)] at u'
  rcases hk' with rfl | rfl
  · exact absurd u' u2
  · exact absurd u' u
theorem eq_fly (a b : Int32) : Both mX7_fly mX8_fly [.int a, .int b] := by
  intro x R
  obtain ⟨W, C, S, A, N, n, H, ac, rs, nm⟩ := R.ac
  have E := ac.2.2.2.2
  have hn := E.nums
  have hS : S ≤ 24 := hn.2.2.2.2.2.2.1
  have hW : W ≤ 30 := hn.2.2.2.2.1
  have hC : C ≤ 8 := hn.2.2.2.2.2.1
  refine v_X7_fly_0 k0 R.1.2.1 (ks0 E.1) E.2.1.2.2.1 (ks3 E.1) ?_
  rw [hn.2.2.1, hn.1]
  refine ⟨fun z => sq_X8_fly rs E.2.2.2 (fun _ => ⟨rfl, R⟩) (fun u => absurd u z) (fun u => absurd u z), fun z1 => ⟨fun z2 => ?_, fun z => sq_X8_fly rs E.2.2.2 (fun _ => ⟨rfl, R⟩) (fun _ u => absurd u z) (fun _ u => absurd u z)⟩⟩
  obtain ⟨s, hs, rfl⟩ := inN (by omega) z1
  obtain ⟨w, hw, rfl⟩ := inN (by omega) z2
  obtain ⟨p, e1, e2, e3, e4, -, e6⟩ := E.ser hs
  have no : ¬ ((stt (gi x 718) s w = 2 ∨ stt (gi x 718) s w = 3) ∧ nI N ≤ nI w) → mSI mX8_fly [.ref 717, .int (nI s), .int (nI w)] KW x (fun r' z => -6 = r' ∧ Rel z) := by
    intro v
    refine sq_X8_fly rs E.2.2.2 (fun v => absurd ⟨z1, z2⟩ v) (fun _ _ _ => ⟨rfl, R⟩) (fun _ _ k' hk' u' u2 => absurd ⟨?_, u2⟩ v)
    rw [nI_clamp (show s < 2 ^ 31 by omega), nI_clamp (show w < 2 ^ 31 by omega)] at u'
    rcases hk' with rfl | rfl
    · exact Or.inl u'
    · exact Or.inr u'
  rw [nI_clamp (show s < 2 ^ 31 by omega)]
  have go : ∀ k, k = 2 ∨ k = 3 → stt (gi x 718) s w = nI k → nI N ≤ nI w → mSV mX7_remember [.ref 0] KW x (fun y_12 => ∀ r_13 : Int32, r_13 = gi (ui y_12 p 9 ((gi y_12 p 9) &&& ((1 <<< (nI w &&& 31)) ^^^ (-1)))) p 10 → mSI mX8_fly [.ref 717, .int (nI s), .int (nI w)] KW (ui (ui y_12 p 9 ((gi y_12 p 9) &&& ((1 <<< (nI w &&& 31)) ^^^ (-1)))) p 10 (r_13 &&& ((1 <<< (nI w &&& 31)) ^^^ (-1)))) (fun r' z => stt (gi x 718) s w = r' ∧ Rel z)) := by
    intro k hk u u3
    refine ac.rem (fun _ _ => rfl) (fun z az z1' z2' => ?_)
    intro r er
    have hp : gr z 5 s = some p := (z2' 5 s (by decide)).trans e1
    have hb := stt_tb (k := k) (by omega) u
    have hin := wb_in (show w < 32 by omega) hb
    have es := az.2.2.2.2.2.2.1.2.2.2.2.2.2.1 s p hs hp
    have er2 : r = so (gi x 718) s 10 := by rw [er, gi_ui, if_neg (by omega)]; exact es.1 10 (by decide) (by decide)
    have a2 : AC x (ui (ui z p 9 (gi z p 9 &&& ((1 <<< (nI w &&& 31)) ^^^ (-1)))) p 10 (r &&& ((1 <<< (nI w &&& 31)) ^^^ (-1)))) W C S A N (pn n) (goT (gi x 718) s (wb (nI w)) k 0) (push H n (gi x 718)) := by
      refine az.go hs hp ((EQx.rf z p).ui.ui) (by omega) (by decide) (by omega) hin (by rw [gi_ui, if_neg (by omega), gi_ui, if_neg (by omega)]) (fun j h1 h2 => ?_)
      rw [gi_ui, so_goT _ _ _ (by omega) (by decide) h1, if_neg (show ¬ j = 7 + 0 from h2)]
      by_cases c : j = 10
      · rw [if_pos ⟨rfl, c⟩, er2]
        rcases hk with rfl | rfl
        · rw [if_neg (by omega), c]
          exact an_dis (fun i hi g1 g2 => absurd (e6.2.2.2.2.2.2.1 i hi 2 3 (by decide) (by decide) (hin i hi g1) g2) (by decide))
        · rw [if_pos c]
      · rw [if_neg (fun v => c v.2), gi_ui]
        by_cases d : j = 9
        · rw [if_pos ⟨rfl, d⟩, es.1 9 (by decide) (by decide)]
          rcases hk with rfl | rfl
          · rw [if_pos d]
          · rw [if_neg (by omega), d]
            exact an_dis (fun i hi g1 g2 => absurd (e6.2.2.2.2.2.2.1 i hi 3 2 (by decide) (by decide) (hin i hi g1) g2) (by decide))
        · rw [if_neg (fun v => d v.2), if_neg (by omega)]
          exact es.1 j h1 h2
    have u9 : stt (gi x 718) (nI s).toNatClampNeg (nI w).toNatClampNeg = 2 ∨ stt (gi x 718) (nI s).toNatClampNeg (nI w).toNatClampNeg = 3 := by
      rw [nI_clamp (show s < 2 ^ 31 by omega), nI_clamp (show w < 2 ^ 31 by omega)]
      rcases hk with rfl | rfl
      · exact Or.inl u
      · exact Or.inr u
    refine sq_X8_fly (a2.rs rs) E.2.2.2 (fun v => absurd ⟨z1, z2⟩ v) (fun _ _ v1 => absurd ⟨u9, u3⟩ v1) (fun _ _ k' hk' u' _ v f r2 => ?_)
    · rw [nI_clamp (show s < 2 ^ 31 by omega), nI_clamp (show w < 2 ^ 31 by omega)] at u'
      have : k' = k := (nI_eq (by omega) (by omega)).mp (u'.symm.trans u)
      subst this
      rw [nI_clamp (by omega)] at r2
      exact ⟨u, a2.fin R nm (fun c hc => goT_nm _ _ _ _ _ _ (by omega)) f r2⟩
  refine ⟨vp_in_nI (by omega) (by decide), p, e1, e2, sp_X5_stateOf (by omega) e2 e3 e6 ?_⟩
  rw [hn.2.1]
  exact ⟨fun u => ⟨R.1.2.1, fun u2 => go 2 (Or.inl rfl) u u2, fun u2 => no (fun v => u2 v.2)⟩, fun u => ⟨fun u2 => no (fun v => v.1.elim u u2), fun u2 => ⟨R.1.2.1, fun u3 => go 3 (Or.inr rfl) u2 u3, fun u3 => no (fun v => u3 v.2)⟩⟩⟩
theorem eq_back (a b : Int32) : Both mX7_back mX8_back [.int a, .int b] := by
  intro x R
  obtain ⟨W, C, S, A, N, n, H, ac, rs, nm⟩ := R.ac
  have E := ac.2.2.2.2
  have hn := E.nums
  have hS : S ≤ 24 := hn.2.2.2.2.2.2.1
  have hW : W ≤ 30 := hn.2.2.2.2.1
  have hC : C ≤ 8 := hn.2.2.2.2.2.1
  refine v_X7_back_0 k0 R.1.2.1 (ks0 E.1) E.2.1.2.2.1 (ks3 E.1) ?_
  rw [hn.2.2.1, hn.1, hn.2.1]
  refine ⟨fun z => sq_X8_back rs E.2.2.2 (fun _ => ⟨rfl, R⟩) (fun u => absurd u z) (fun u => absurd u z) (fun u => absurd u z), fun z1 => ⟨fun z2 => ⟨fun u => ?_, fun u => sq_X8_back rs E.2.2.2 (fun v => absurd ⟨z1, z2⟩ v) (fun _ _ _ => ⟨rfl, R⟩) (fun _ _ v => absurd v u) (fun _ _ v => absurd v u)⟩, fun z => sq_X8_back rs E.2.2.2 (fun _ => ⟨rfl, R⟩) (fun _ u => absurd u z) (fun _ u => absurd u z) (fun _ u => absurd u z)⟩⟩
  obtain ⟨s, hs, rfl⟩ := inN (by omega) z1
  obtain ⟨w, hw, rfl⟩ := inN (by omega) z2
  obtain ⟨p, e1, e2, e3, e4, e5, e6⟩ := E.ser hs
  rw [nI_clamp (show s < 2 ^ 31 by omega)]
  refine ⟨vp_in_nI (by omega) (by decide), p, e1, e2, ?_⟩
  rw [e5, ← opf_eq e6 hW (by omega)]
  refine ⟨fun v => ?_, fun v => ac.rem (fun _ _ => rfl) (fun z az z1' z2' => ?_)⟩
  · refine sq_X8_back rs E.2.2.2 (fun v => absurd ⟨z1, z2⟩ v) (fun _ _ v => absurd u v) (fun _ _ _ _ => ⟨?_, R⟩) (fun _ _ _ v' => absurd ?_ v')
    · rw [v, cpt_0]; rfl
    · rw [nI_clamp (by omega), nI_clamp (by omega)]; exact v
  · have a2 := az.giv hs (show w < 100 by omega) ((z2' 5 s (by decide)).trans e1)
    refine sq_X8_back (a2.rs rs) E.2.2.2 (fun v => absurd ⟨z1, z2⟩ v) (fun _ _ v => absurd u v) (fun _ _ _ v' => absurd v' ?_) (fun _ _ _ _ v f r2 => ?_)
    · rw [nI_clamp (by omega), nI_clamp (by omega)]; exact v
    · rw [nI_clamp (show s < 2 ^ 31 by omega), nI_clamp (show w < 2 ^ 31 by omega)] at r2 ⊢
      exact ⟨rfl, a2.fin R nm (fun c hc => goT_nm _ _ _ _ _ _ (by omega)) f r2⟩
theorem eq_retime (a b : Int32) : Both mX7_retime mX8_retime [.int a, .int b] := by
  intro x R
  obtain ⟨W, C, S, A, N, n, H, ac, rs, nm⟩ := R.ac
  have E := ac.2.2.2.2
  have hn := E.nums
  have hS : S ≤ 24 := hn.2.2.2.2.2.2.1
  have hW : W ≤ 30 := hn.2.2.2.2.1
  have hC : C ≤ 8 := hn.2.2.2.2.2.1
  refine v_X7_retime_0 k0 R.1.2.1 (ks0 E.1) ?_
  rw [hn.2.2.1, hn.1]
  refine ⟨fun z => sq_X8_retime rs E.2.2.2 (fun _ => ⟨rfl, R⟩) (fun u => absurd u z) (fun u => absurd u z), fun z1 => ⟨fun z2 => ?_, fun z => sq_X8_retime rs E.2.2.2 (fun _ => ⟨rfl, R⟩) (fun _ u => absurd u z) (fun _ u => absurd u z)⟩⟩
  obtain ⟨s, hs, rfl⟩ := inN (by omega) z1
  obtain ⟨h, hh, rfl⟩ := inN (n := 24) (by decide) z2.2
  obtain ⟨p, e1, e2, e3, e4, e5, e6⟩ := E.ser hs
  refine sp_X7_canRetime R.1 E hs hh (fun y hy => ⟨fun u => ?_, fun u => ?_⟩)
  · have ay := ac.e7 hy
    refine ay.rem (fun _ _ => rfl) (fun z az z1' z2' => ⟨az.2.1.2.1, 5, az.2.2.2.2.2.1.2.2.1, 24, ks3 E.1, vp_in_nI (by omega) (by decide), p, ?_, e2, ?_⟩)
    · have : gr y 5 s = some p := by unfold gr; rw [hy.1]; exact e1
      rw [nI_clamp (by omega), z2' 5 s (by decide)]; exact this
    · have hp : gr z 5 s = some p := by
        have : gr y 5 s = some p := by unfold gr; rw [hy.1]; exact e1
        rw [z2' 5 s (by decide)]; exact this
      have es := az.2.2.2.2.2.2.1.2.2.2.2.2.2.1 s p hs hp
      have a2 := az.one (v := nI h) hs hp (show 2 < 7 by decide) (e6.u2 hh)
      rw [es.1 2 (by decide) (by decide)]
      refine sq_X8_retime (a2.rs rs) E.2.2.2 (fun v => absurd ⟨z1, z2⟩ v) (fun _ _ v => absurd v ?_) (fun _ _ _ v f r2 => ?_)
      · rw [nI_clamp (by omega), nI_clamp (by omega)]; exact u
      · rw [nI_clamp (show s < 2 ^ 31 by omega)] at r2 ⊢
        exact ⟨rfl, a2.fin R nm (fun c hc => uT_ne _ _ (by omega)) f r2⟩
  · have ay := ac.e7 hy
    refine sq_X8_retime (ay.rs rs) E.2.2.2 (fun v => absurd ⟨z1, z2⟩ v) (fun _ _ _ => ⟨rfl, (R.e7 hy).1⟩) (fun _ _ v => absurd ?_ v)
    rw [nI_clamp (by omega), nI_clamp (by omega)]; exact u
theorem eq_hand (a b : Int32) : Both mX7_hand mX8_hand [.int a, .int b] := by
  intro x R
  obtain ⟨W, C, S, A, N, n, H, ac, rs, nm⟩ := R.ac
  have E := ac.2.2.2.2
  have hn := E.nums
  have hS : S ≤ 24 := hn.2.2.2.2.2.2.1
  have hC : C ≤ 8 := hn.2.2.2.2.2.1
  refine v_X7_hand_0 k0 R.1.2.1 (ks0 E.1) R.1.2.2.1 (by decide) E.2.1.2.2.1 (ks3 E.1) ?_
  rw [hn.2.2.1, nm.1]
  refine ⟨fun z => sq_X8_hand rs E.2.2.2 (fun _ => ⟨rfl, R⟩) (fun u => absurd u z) (fun u => absurd u z) (fun u => absurd u z), fun z1 => ⟨fun z2 => ?_, fun z => sq_X8_hand rs E.2.2.2 (fun _ => ⟨rfl, R⟩) (fun _ u => absurd u z) (fun _ u => absurd u z) (fun _ u => absurd u z)⟩⟩
  obtain ⟨s, hs, rfl⟩ := inN (by omega) z1
  obtain ⟨c, hc, rfl⟩ := inN (by omega) z2
  obtain ⟨p, e1, e2, e3, e4, e5, e6⟩ := E.ser hs
  have h01 := e6.2.2.2.2.1
  rw [nI_clamp (show s < 2 ^ 31 by omega)]
  refine ⟨vp_in_nI (by omega) (by decide), p, e1, e2, ?_⟩
  rw [e3.1 4 (by decide) (by decide), e3.1 0 (by decide) (by decide)]
  refine ⟨fun u => ⟨fun u2 => ac.rem (fun _ _ => rfl) (fun z az z1' z2' => ?_), fun u2 => ?_⟩, fun u => ?_⟩
  · have hp : gr z 5 s = some p := (z2' 5 s (by decide)).trans e1
    have es := az.2.2.2.2.2.2.1.2.2.2.2.2.2.1 s p hs hp
    have a2 := az.one (v := nI c) hs hp (show 0 < 7 by decide) (e6.u0 hc)
    rw [es.1 0 (by decide) (by decide)]
    refine sq_X8_hand (a2.rs rs) E.2.2.2 (fun v => absurd ⟨z1, z2⟩ v) (fun _ _ v => absurd v ?_) (fun _ _ _ v => absurd v ?_) (fun _ _ _ _ v f r2 => ?_)
    · rw [nI_clamp (by omega), u]; decide
    · rw [nI_clamp (by omega)]; exact u2
    · rw [nI_clamp (show s < 2 ^ 31 by omega)] at r2 ⊢
      exact ⟨rfl, a2.fin R nm (fun c hc => uT_ne _ _ (by omega)) f r2⟩
  · refine sq_X8_hand rs E.2.2.2 (fun v => absurd ⟨z1, z2⟩ v) (fun _ _ v => absurd v ?_) (fun _ _ _ _ => ⟨rfl, R⟩) (fun _ _ _ v => absurd ?_ v)
    · rw [nI_clamp (by omega), u]; decide
    · rw [nI_clamp (by omega)]; exact u2
  · refine sq_X8_hand rs E.2.2.2 (fun v => absurd ⟨z1, z2⟩ v) (fun _ _ _ => ⟨rfl, R⟩) (fun _ _ v => absurd ?_ v) (fun _ _ v => absurd ?_ v)
    · rw [nI_clamp (by omega)]; exact h01.resolve_left u
    · rw [nI_clamp (by omega)]; exact h01.resolve_left u
end
/-! 48.acts2.lean.txt -/
section
/-- a week goes by, for the first series -/
def tkS (N : Nat) : Nat → TT → TT := fun s T => goT T s (so T s 7 &&& wb (nI N)) 0 1
theorem tk_off {N : Nat} {T : TT} : ∀ s, s ≤ 24 → ∀ i, i < 62 → accT (tkS N) s T i = T i := by
  intro s
  induction s with
  | zero => intro _ i _; rfl
  | succ s ih =>
    intro hs i hi
    simp only [accT]
    unfold tkS
    rw [goT_off _ _ _ (by decide) (by decide) i (by omega)]
    exact ih (by omega) i hi
theorem AC.now {x y : Cn} {W C S A N N' n : Nat} {T : TT} {H : Nat → TT} (a : AC x y W C S A N n T H) (h : N' ≤ W) : AC x (ui y 2 1 (nI N')) W C S A N' n (uT T 4 (nI N')) H := by
  have E := a.2.2.2.2
  obtain ⟨e1, e2, ⟨v0, v1, v2, v3, v4, v5, v6, v7⟩, w1, w2, w3, w4, w5, w6, w7, w8, w9, w10, w11, w12, w13, w14⟩ := E
  obtain ⟨r1, r2, r3, r4, r5, r6, r7, r8, r9⟩ := id e2
  have eo : ∀ b k, ¬ (b = 2 ∧ k = 1) → gi (ui y 2 1 (nI N')) b k = gi y b k := fun b k c => by rw [gi_ui, if_neg c]
  have eT : ∀ i, i ≠ 4 → uT T 4 (nI N') i = T i := fun i hi => uT_ne _ _ hi
  refine a.up (fun b k c => eo b k (by omega)) rfl ⟨e1, e2.keep rfl, ⟨?_, ?_, ?_, ?_, ?_, ?_, ?_, ?_⟩, ?_⟩
  · rw [eo 2 0 (by omega), eT 0 (by decide)]; exact v0
  · rw [gi_ui, if_pos ⟨rfl, rfl⟩, uT_at]
  · rw [eo 2 2 (by omega), eT 5 (by decide)]; exact v2
  · rw [eo 2 3 (by omega), eT 2 (by decide)]; exact v3
  · rw [eo 2 4 (by omega), eT 3 (by decide)]; exact v4
  · intro h hh
    rw [eo _ h (by omega), eo _ h (by omega), eT _ (by omega), eT _ (by omega)]
    exact v5 h hh
  · intro s p hs hp
    obtain ⟨j, hj, ej⟩ := r6 s (by omega)
    have ep : p = 2 + 6 + j := Option.some.inj (hp.symm.trans ej)
    exact (v6 s p hs hp).cg (fun k _ => eo p k (by omega)) (fun k hk => eT _ (by omega))
  · intro s p hs hp
    obtain ⟨j, hj, ej⟩ := r8 s (by omega)
    have ep : p = 2 + 30 + j := Option.some.inj (hp.symm.trans ej)
    exact (v7 s p hs hp).cg (fun k _ => eo p k (by omega)) (fun k hk => eT _ (by omega))
  · exact ⟨by rw [eT 0 (by decide)]; exact w1, w2, w3, by rw [eT 1 (by decide)]; exact w4, w5, by rw [eT 2 (by decide)]; exact w6, w7, by rw [eT 3 (by decide)]; exact w8, w9, uT_at _ _ _, h, fun i hi => by rw [eT _ (by omega), eT _ (by omega)]; exact w12 i hi, fun s hs => (w13 s hs).cg (fun k hk => eT _ (by omega)), fun a ha => (w14 a ha).cg (fun k hk => eT _ (by omega))⟩
theorem and_in {T : TT} {s : Nat} {v : Int32} : ∀ i, i < 32 → tb (so T s 7 &&& v) i = true → tb (so T s (7 + 0)) i = true := fun i _ e => by
  rw [tb_and, Bool.and_eq_true] at e
  exact e.1
set_option maxHeartbeats 2000000 in
theorem v_X7_tick_0 {K : Sh} {x : Cn} {Q : Int32 → Cn → Prop} {b0 : Nat} {b0_2 : Nat} (k_b0 : kk K b0 = some (7, 0)) (g_b0_2 : gr x b0 2 = some b0_2) (k_b0_2 : kk K b0_2 = some (4, 0)) (K0 : ((0 < gi x b0_2 0) → ((¬ (gi x b0_2 0 ≤ gi x b0_2 1) → (mSV mX7_remember [.ref b0] K x (fun y_3 => gr y_3 b0 2 = some b0_2 ∧ (GI mX7_tick 38 [some (.ref b0), some (.int (1 <<< ((gi y_3 b0_2 1) &&& 31))), some (.int 0)] [] K y_3 Q)))) ∧ ((gi x b0_2 0 ≤ gi x b0_2 1) → (Q (-1) x)))) ∧ (¬ (0 < gi x b0_2 0) → (Q (-2) x))) : mSI mX7_tick [.ref b0] K x Q := by
  refine s_I (by decide) (by simp [Value.category]) (Nat.le_of_ble_eq_true rfl) ?_
  show mGM mX7_tick 0 [some (.ref b0), none, none] [] (hp K x) (PI K Q)
  refine r_aload_n (pc := 0) dX7_tick_0 rfl ?_
  refine s_VI (pc := 1) mX7_hasText (ci := 7) (a := b0) (As := []) dX7_tick_1 lk_X7_121 in_X7_hasText mo_X7_hasText ⟨by decide, rfl⟩ ⟨by decide, by decide⟩ (Nat.le_of_ble_eq_true rfl) k_b0 (sp_X7_hasText k_b0 g_b0_2 k_b0_2 ?_)
  refine r_if_ne (pc := 4) (tgt := 10) dX7_tick_4 (by decide) (fun q => ?_) (fun q => ?_)
  · have q := b2i_nz q
    have K0 := K0.1 q
    refine r_aload_n (pc := 10) dX7_tick_10 rfl ?_
    refine s_getR (pc := 11) dX7_tick_11 fl_X7_20 rfl k_b0 g_b0_2 ?_
    refine s_VI (pc := 14) mX4_isOver (ci := 4) (a := b0_2) (As := []) dX7_tick_14 lk_X7_279 in_X4_isOver mo_X4_isOver ⟨by decide, rfl⟩ ⟨by decide, by decide⟩ (Nat.le_of_ble_eq_true rfl) k_b0_2 (sp_X4_isOver k_b0_2 ?_)
    refine r_if_eq (pc := 17) (tgt := 22) dX7_tick_17 (by decide) (fun q => ?_) (fun q => ?_)
    · have q := (b2i_z _).mp q
      have K0 := K0.1 q
      refine r_aload_n (pc := 22) dX7_tick_22 rfl ?_
      refine s_VV (pc := 23) mX7_remember (ci := 7) (a := b0) (As := []) dX7_tick_23 lk_X7_333 in_X7_remember mo_X7_remember ⟨by decide, rfl⟩ ⟨by decide, by decide⟩ (Nat.le_of_ble_eq_true rfl) k_b0 (mSV_mono K0 (fun y_3 K0 => ?_))
      refine r_iconst (pc := 26) (v := 1) dX7_tick_26 (by decide) ?_
      refine r_aload_n (pc := 27) dX7_tick_27 rfl ?_
      obtain ⟨g_4, K0⟩ := K0
      refine s_getR (pc := 28) dX7_tick_28 fl_X7_20 rfl k_b0 g_4 ?_
      refine s_getI (pc := 31) dX7_tick_31 fl_X7_103 rfl k_b0_2 ?_
      refine r_ishl (pc := 34) dX7_tick_34 ?_
      refine r_istore_n (pc := 35) dX7_tick_35 (by decide) ?_
      refine r_iconst (pc := 36) (L := [some (.ref b0), some (.int (1 <<< ((gi y_3 b0_2 1) &&& 31))), none]) (v := 0) dX7_tick_36 (by decide) ?_
      refine r_istore_n (pc := 37) dX7_tick_37 (by decide) ?_
      exact r_le (L' := [some (.ref b0), some (.int (1 <<< ((gi y_3 b0_2 1) &&& 31))), some (.int 0)]) ⟨rfl, ⟨rfl, ⟨rfl, trivial⟩⟩⟩ K0
    · have q := b2i_nz q
      have K0 := K0.2 q
      refine r_iconst (pc := 20) (v := (-1)) dX7_tick_20 (by decide) ?_
      exact s_iret rfl dX7_tick_21 K0
  · have q := (b2i_z _).mp q
    have K0 := K0.2 q
    refine r_bipush (pc := 7) (v := (-2)) dX7_tick_7 (by decide) ?_
    exact s_iret rfl dX7_tick_9 K0
set_option maxHeartbeats 2000000 in
theorem v_X7_tick_38 {K : Sh} {x : Cn} {Q : Int32 → Cn → Prop} {b0 : Nat} {l1 : Int32} {l2 : Int32} {b0_2 : Nat} {b0_2_7 : Nat} {n_b0_2_7 : Nat} (k_b0 : kk K b0 = some (7, 0)) (g_b0_2 : gr x b0 2 = some b0_2) (k_b0_2 : kk K b0_2 = some (4, 0)) (g_b0_2_7 : gr x b0_2 7 = some b0_2_7) (k_b0_2_7 : kk K b0_2_7 = some (23, n_b0_2_7)) (K0 : ((gi x b0_2 3) ≤ l2 → (Q (gi (ui x b0_2 1 ((gi x b0_2 1) + 1)) b0_2 1) (ui x b0_2 1 ((gi x b0_2 1) + 1)))) ∧ (¬ (gi x b0_2 3) ≤ l2 → (vp_in l2 n_b0_2_7 ∧ (∃ c_3 : Nat, gr x b0_2_7 ((l2 : Int32).toNatClampNeg) = some c_3 ∧ (kk K c_3 = some (5, 0) ∧ (GI mX7_tick 38 [some (.ref b0), some (.int l1), some (.int (l2 + 1))] [] K (ui x c_3 8 ((gi x c_3 8) ||| ((f_open x c_3) &&& l1))) Q)))))) : GI mX7_tick 38 [some (.ref b0), some (.int l1), some (.int l2)] [] K x Q := by
  show mGM mX7_tick 38 [some (.ref b0), some (.int l1), some (.int l2)] [] (hp K x) (PI K Q)
  refine r_iload_n (pc := 38) dX7_tick_38 rfl ?_
  refine r_aload_n (pc := 39) dX7_tick_39 rfl ?_
  refine s_getR (pc := 40) dX7_tick_40 fl_X7_20 rfl k_b0 g_b0_2 ?_
  refine s_getI (pc := 43) dX7_tick_43 fl_X7_97 rfl k_b0_2 ?_
  refine r_icmp_ge (pc := 46) (tgt := 86) dX7_tick_46 (by decide) (fun q => ?_) (fun q => ?_)
  · have K0 := K0.1 q
    refine r_aload_n (pc := 86) dX7_tick_86 rfl ?_
    refine s_getR (pc := 87) dX7_tick_87 fl_X7_20 rfl k_b0 g_b0_2 ?_
    refine r_dup (pc := 90) dX7_tick_90 rfl ?_
    refine s_getI (pc := 91) dX7_tick_91 fl_X7_103 rfl k_b0_2 ?_
    refine r_iconst (pc := 94) (v := 1) dX7_tick_94 (by decide) ?_
    refine r_iadd (pc := 95) dX7_tick_95 ?_
    refine s_putI (pc := 96) dX7_tick_96 fl_X7_103 rfl rfl k_b0_2 ?_
    refine r_aload_n (pc := 99) dX7_tick_99 rfl ?_
    refine s_getR (pc := 100) dX7_tick_100 fl_X7_20 rfl k_b0 g_b0_2 ?_
    refine s_getI (pc := 103) dX7_tick_103 fl_X7_103 rfl k_b0_2 ?_
    exact s_iret rfl dX7_tick_106 K0
  · have K0 := K0.2 q
    refine r_aload_n (pc := 49) dX7_tick_49 rfl ?_
    refine s_getR (pc := 50) dX7_tick_50 fl_X7_20 rfl k_b0 g_b0_2 ?_
    refine s_getR (pc := 53) dX7_tick_53 fl_X7_135 rfl k_b0_2 g_b0_2_7 ?_
    refine r_iload_n (pc := 56) dX7_tick_56 rfl ?_
    obtain ⟨i_2, K0⟩ := K0
    obtain ⟨c_3, g_4, K0⟩ := K0
    refine s_aald (pc := 57) dX7_tick_57 (by decide) rfl k_b0_2_7 i_2 g_4 ?_
    refine r_dup (pc := 58) dX7_tick_58 rfl ?_
    obtain ⟨e_5, K0⟩ := K0
    refine s_getI (pc := 59) dX7_tick_59 fl_X7_348 rfl e_5 ?_
    refine r_aload_n (pc := 62) dX7_tick_62 rfl ?_
    refine s_getR (pc := 63) dX7_tick_63 fl_X7_20 rfl k_b0 g_b0_2 ?_
    refine s_getR (pc := 66) dX7_tick_66 fl_X7_135 rfl k_b0_2 g_b0_2_7 ?_
    refine r_iload_n (pc := 69) dX7_tick_69 rfl ?_
    refine s_aald (pc := 70) dX7_tick_70 (by decide) rfl k_b0_2_7 i_2 g_4 ?_
    refine s_VI (pc := 71) mX5_openBits (ci := 5) (a := c_3) (As := []) dX7_tick_71 lk_X7_339 in_X5_openBits mo_X5_openBits ⟨by decide, rfl⟩ ⟨by decide, by decide⟩ (Nat.le_of_ble_eq_true rfl) e_5 (sp_X5_openBits e_5 ?_)
    refine r_iload_n (pc := 74) dX7_tick_74 rfl ?_
    refine r_iand (pc := 75) dX7_tick_75 ?_
    refine r_ior (pc := 76) dX7_tick_76 ?_
    refine s_putI (pc := 77) dX7_tick_77 fl_X7_348 rfl rfl e_5 ?_
    refine r_iinc (pc := 80) (v := l2 + 1) dX7_tick_80 rfl rfl (by decide) ?_
    refine r_goto (pc := 83) (L := [some (.ref b0), some (.int l1), some (.int (l2 + 1))]) (tgt := 38) dX7_tick_83 (by decide) ?_
    exact r_le (L' := [some (.ref b0), some (.int l1), some (.int (l2 + 1))]) ⟨rfl, ⟨rfl, ⟨rfl, trivial⟩⟩⟩ K0
set_option maxHeartbeats 2000000 in
theorem v_X8_tick_0 {K : Sh} {x : Cn} {Q : Int32 → Cn → Prop} {b0 : Nat} {b0_1 : Nat} {n_b0_1 : Nat} (k_b0 : kk K b0 = some (8, 0)) (g_b0_1 : gr x b0 1 = some b0_1) (k_b0_1 : kk K b0_1 = some (20, n_b0_1)) (K0 : vp_in 0 n_b0_1 ∧ (((0 < gi x b0_1 0) → (vp_in 4 n_b0_1 ∧ ((¬ (gi x b0_1 4) = (gi x b0_1 0) → (mSV mX8_keeps [.ref b0] K x (fun y_5 => GI mX8_tick 33 [some (.ref b0), some (.int 0)] [] K y_5 Q))) ∧ ((gi x b0_1 4) = (gi x b0_1 0) → (Q (-1) x))))) ∧ (¬ (0 < gi x b0_1 0) → (Q (-2) x)))) : mSI mX8_tick [.ref b0] K x Q := by
  refine s_I (by decide) (by simp [Value.category]) (Nat.le_of_ble_eq_true rfl) ?_
  show mGM mX8_tick 0 [some (.ref b0), none] [] (hp K x) (PI K Q)
  refine r_aload_n (pc := 0) dX8_tick_0 rfl ?_
  obtain ⟨i_1, K0⟩ := K0
  refine s_VI (pc := 1) mX8_isThere (ci := 8) (a := b0) (As := []) dX8_tick_1 lk_X8_49 in_X8_isThere mo_X8_isThere ⟨by decide, rfl⟩ ⟨by decide, by decide⟩ (Nat.le_of_ble_eq_true rfl) k_b0 (sp_X8_isThere k_b0 g_b0_1 k_b0_1 i_1 ?_)
  refine r_if_ne (pc := 4) (tgt := 10) dX8_tick_4 (by decide) (fun q => ?_) (fun q => ?_)
  · have q := b2i_nz q
    have K0 := K0.1 q
    refine r_aload_n (pc := 10) dX8_tick_10 rfl ?_
    refine s_getR (pc := 11) dX8_tick_11 fl_X8_9 rfl k_b0 g_b0_1 ?_
    refine r_iconst (pc := 14) (v := 4) dX8_tick_14 (by decide) ?_
    obtain ⟨i_3, K0⟩ := K0
    refine s_iald (pc := 15) dX8_tick_15 k_b0_1 i_3 ?_
    refine r_aload_n (pc := 16) dX8_tick_16 rfl ?_
    refine s_getR (pc := 17) dX8_tick_17 fl_X8_9 rfl k_b0 g_b0_1 ?_
    refine r_iconst (pc := 20) (v := 0) dX8_tick_20 (by decide) ?_
    refine s_iald (pc := 21) dX8_tick_21 k_b0_1 i_1 ?_
    refine r_icmp_ne (pc := 22) (tgt := 27) dX8_tick_22 (by decide) (fun q => ?_) (fun q => ?_)
    · have K0 := K0.1 q
      refine r_aload_n (pc := 27) dX8_tick_27 rfl ?_
      refine s_VV (pc := 28) mX8_keeps (ci := 8) (a := b0) (As := []) dX8_tick_28 lk_X8_366 in_X8_keeps mo_X8_keeps ⟨by decide, rfl⟩ ⟨by decide, by decide⟩ (Nat.le_of_ble_eq_true rfl) k_b0 (mSV_mono K0 (fun y_5 K0 => ?_))
      refine r_iconst (pc := 31) (v := 0) dX8_tick_31 (by decide) ?_
      refine r_istore_n (pc := 32) dX8_tick_32 (by decide) ?_
      exact r_le (L' := [some (.ref b0), some (.int 0)]) ⟨rfl, ⟨rfl, trivial⟩⟩ K0
    · have K0 := K0.2 q
      refine r_iconst (pc := 25) (v := (-1)) dX8_tick_25 (by decide) ?_
      exact s_iret rfl dX8_tick_26 K0
  · have q := (b2i_z _).mp q
    have K0 := K0.2 q
    refine r_bipush (pc := 7) (v := (-2)) dX8_tick_7 (by decide) ?_
    exact s_iret rfl dX8_tick_9 K0
set_option maxHeartbeats 2000000 in
theorem v_X8_tick_33 {K : Sh} {x : Cn} {Q : Int32 → Cn → Prop} {b0 : Nat} {l1 : Int32} {b0_1 : Nat} {n_b0_1 : Nat} {b0_3 : Nat} {n_b0_3 : Nat} (k_b0 : kk K b0 = some (8, 0)) (g_b0_1 : gr x b0 1 = some b0_1) (k_b0_1 : kk K b0_1 = some (20, n_b0_1)) (g_b0_3 : gr x b0 3 = some b0_3) (k_b0_3 : kk K b0_3 = some (20, n_b0_3)) (K0 : vp_in 2 n_b0_1 ∧ (((gi x b0_1 2) ≤ l1 → (vp_in 4 n_b0_1 ∧ (Q (gi (ui x b0_1 4 ((gi x b0_1 4) + 1)) b0_1 4) (ui x b0_1 4 ((gi x b0_1 4) + 1))))) ∧ (¬ (gi x b0_1 2) ≤ l1 → ((l24 l1 n_b0_3) ∧ (vp_in 4 n_b0_1 ∧ (mSV mX8_goes [.ref b0, .int l1, .int ((so (gi x b0_3) (l1 : Int32).toNatClampNeg 7) &&& (1 <<< ((gi x b0_1 4) &&& 31))), .int 0, .int 1] K x (fun y_6 => GI mX8_tick 33 [some (.ref b0), some (.int (l1 + 1))] [] K y_6 Q))))))) : GI mX8_tick 33 [some (.ref b0), some (.int l1)] [] K x Q := by
  show mGM mX8_tick 33 [some (.ref b0), some (.int l1)] [] (hp K x) (PI K Q)
  refine r_iload_n (pc := 33) dX8_tick_33 rfl ?_
  refine r_aload_n (pc := 34) dX8_tick_34 rfl ?_
  refine s_getR (pc := 35) dX8_tick_35 fl_X8_9 rfl k_b0 g_b0_1 ?_
  refine r_iconst (pc := 38) (v := 2) dX8_tick_38 (by decide) ?_
  obtain ⟨i_1, K0⟩ := K0
  refine s_iald (pc := 39) dX8_tick_39 k_b0_1 i_1 ?_
  refine r_icmp_ge (pc := 40) (tgt := 72) dX8_tick_40 (by decide) (fun q => ?_) (fun q => ?_)
  · have K0 := K0.1 q
    refine r_aload_n (pc := 72) dX8_tick_72 rfl ?_
    refine s_getR (pc := 73) dX8_tick_73 fl_X8_9 rfl k_b0 g_b0_1 ?_
    refine r_iconst (pc := 76) (v := 4) dX8_tick_76 (by decide) ?_
    refine r_dup2 (pc := 77) dX8_tick_77 rfl rfl ?_
    obtain ⟨i_3, K0⟩ := K0
    refine s_iald (pc := 78) dX8_tick_78 k_b0_1 i_3 ?_
    refine r_iconst (pc := 79) (v := 1) dX8_tick_79 (by decide) ?_
    refine r_iadd (pc := 80) dX8_tick_80 ?_
    refine s_iast (pc := 81) dX8_tick_81 k_b0_1 i_3 ?_
    refine r_aload_n (pc := 82) dX8_tick_82 rfl ?_
    refine s_getR (pc := 83) dX8_tick_83 fl_X8_9 rfl k_b0 g_b0_1 ?_
    refine r_iconst (pc := 86) (v := 4) dX8_tick_86 (by decide) ?_
    refine s_iald (pc := 87) dX8_tick_87 k_b0_1 i_3 ?_
    exact s_iret rfl dX8_tick_88 K0
  · have K0 := K0.2 q
    refine r_aload_n (pc := 43) dX8_tick_43 rfl ?_
    refine r_iload_n (pc := 44) dX8_tick_44 rfl ?_
    refine r_aload_n (pc := 45) dX8_tick_45 rfl ?_
    refine r_iload_n (pc := 46) dX8_tick_46 rfl ?_
    refine r_bipush (pc := 47) (v := 7) dX8_tick_47 (by decide) ?_
    obtain ⟨p_4, K0⟩ := K0
    refine s_VI (pc := 49) mX8_one (ci := 8) (a := b0) (As := [.int l1, .int 7]) dX8_tick_49 lk_X8_67 in_X8_one mo_X8_one ⟨by decide, rfl⟩ ⟨by decide, by decide⟩ (Nat.le_of_ble_eq_true rfl) k_b0 (sr_X8_one k_b0 g_b0_3 k_b0_3 p_4 ⟨by decide, by decide⟩ ?_)
    refine r_iconst (pc := 52) (v := 1) dX8_tick_52 (by decide) ?_
    refine r_aload_n (pc := 53) dX8_tick_53 rfl ?_
    refine s_getR (pc := 54) dX8_tick_54 fl_X8_9 rfl k_b0 g_b0_1 ?_
    refine r_iconst (pc := 57) (v := 4) dX8_tick_57 (by decide) ?_
    obtain ⟨i_5, K0⟩ := K0
    refine s_iald (pc := 58) dX8_tick_58 k_b0_1 i_5 ?_
    refine r_ishl (pc := 59) dX8_tick_59 ?_
    refine r_iand (pc := 60) dX8_tick_60 ?_
    refine r_iconst (pc := 61) (v := 0) dX8_tick_61 (by decide) ?_
    refine r_iconst (pc := 62) (v := 1) dX8_tick_62 (by decide) ?_
    refine s_VV (pc := 63) mX8_goes (ci := 8) (a := b0) (As := [.int l1, .int ((so (gi x b0_3) (l1 : Int32).toNatClampNeg 7) &&& (1 <<< ((gi x b0_1 4) &&& 31))), .int 0, .int 1]) dX8_tick_63 lk_X8_369 in_X8_goes mo_X8_goes ⟨by decide, rfl⟩ ⟨by decide, by decide⟩ (Nat.le_of_ble_eq_true rfl) k_b0 (mSV_mono K0 (fun y_6 K0 => ?_))
    refine r_iinc (pc := 66) (v := l1 + 1) dX8_tick_66 rfl rfl (by decide) ?_
    refine r_goto (pc := 69) (L := [some (.ref b0), some (.int (l1 + 1))]) (tgt := 33) dX8_tick_69 (by decide) ?_
    exact r_le (L' := [some (.ref b0), some (.int (l1 + 1))]) ⟨rfl, ⟨rfl, trivial⟩⟩ K0
section
theorem sq_X8_tick {y : Cn} {Q : Int32 → Cn → Prop} {T : TT} {W C S A N n : Nat} {H : Nat → TT} (r : RS y T n H) (F : WF T W C S A N) (k1 : ¬ 0 < nI W → Q (-2) y) (k2 : 0 < nI W → N = W → Q (-1) y) (k3 : 0 < nI W → ¬ N = W → ∀ z, RFr y z → RS z (uT (accT (tkS N) S T) 4 (nI (N + 1))) (pn n) (push H n T) → Q (nI (N + 1)) z) : mSI mX8_tick [.ref 717] KW y Q := by
  have hS : S ≤ 24 := F.2.2.2.2.2.2.1
  have hW : W ≤ 30 := F.2.2.1
  have hN : N ≤ W := F.2.2.2.2.2.2.2.2.2.2.1
  have M := r.1
  refine v_X8_tick_0 km M.1 km1 ⟨v0 (k := 0) (by decide) rfl rfl, ?_⟩
  rw [r.2.1, F.1, F.2.2.2.2.2.2.2.2.2.1, nI_eq (by omega) (by omega)]
  refine ⟨fun z1 => ⟨v0 (k := 4) (by decide) rfl rfl, fun z2 => r.keeps (fun z f1 r1 => ?_), fun z2 => k2 z1 z2⟩, fun z => k1 z⟩
  have k3 := k3 z1 z2
  refine lp_acc (tkS N) (fun s T' => ∀ v, RFr y v → RS v T' (pn n) (push H n T) → T' 2 = nI S → T' 4 = nI N → GI mX8_tick 33 [some (.ref 717), some (.int (nI s))] [] KW v Q) S T ?_ (fun s T' hs n1 => ?_) z f1 r1 F.2.2.2.2.2.1 F.2.2.2.2.2.2.2.2.2.1
  · intro v f r2 t2 t4
    refine v_X8_tick_33 km r2.1.1 km1 r2.1.2.2.1 km1 ⟨v0 (k := 2) (by decide) rfl rfl, fun _ => ⟨v0 (k := 4) (by decide) rfl rfl, ?_⟩, fun z => absurd (by rw [r2.2.1, t2]; exact Int32.le_refl _) z⟩
    rw [gi_ui, if_pos ⟨rfl, rfl⟩, r2.2.1, t4, nI_1]
    exact k3 _ f.u8 r2.u8
  · intro v f r2 t2 t4
    refine v_X8_tick_33 km r2.1.1 km1 r2.1.2.2.1 km1 ⟨v0 (k := 2) (by decide) rfl rfl, fun z => absurd (by rw [r2.2.1, t2] at z; exact z) (nI_ge hs (by omega)), fun _ => ⟨l24_nI (by omega) rfl, v0 (k := 4) (by decide) rfl rfl, ?_⟩⟩
    rw [r2.2.1, t4, nI_clamp (by omega), nI_1]
    refine sp_X8_goes (k := 0) (o := 1) r2 (by omega) (by decide) (by decide) (by decide) (fun v2 f2 r3 => n1 _ rfl v2 (f.tr f2) r3 ?_ ?_)
    · show goT T' s _ 0 1 2 = _
      rw [goT_off _ _ _ (by decide) (by decide) 2 (by omega)]; exact t2
    · show goT T' s _ 0 1 4 = _
      rw [goT_off _ _ _ (by decide) (by decide) 4 (by omega)]; exact t4
/-! gives -/
theorem goT_0 (T : TT) (s k o : Nat) (hk : k < 5) (ho : o < 5) (hko : k ≠ o) : goT T s 0 k o = T := by
  funext i
  unfold goT
  rw [show ((0 : Int32) ^^^ (-1)) = -1 by decide, show so T s (7 + k) &&& (-1) = so T s (7 + k) from Int32.and_neg_one, Int32.or_zero]
  unfold uT so
  by_cases c : i = 62 + 12 * s + (7 + o)
  · rw [if_pos c, c]
  · rw [if_neg c]
    by_cases d : i = 62 + 12 * s + (7 + k)
    · rw [if_pos d, d]
    · rw [if_neg d]
theorem cpt_z {v : Int32} (h : cpt v = 0) : v = 0 := by
  by_cases c : v.toBitVec.toNat = 0
  · exact tn_inj (by rw [c]; rfl)
  · have := npc_pos 32 v.toBitVec.toNat (by omega) (tn_lt v)
    unfold cpt at h
    omega
def gvS (W N : Nat) (a b : Int32) : Nat → TT × Int32 → TT × Int32 := fun s t => if so t.1 s 0 = a ∧ so t.1 s 1 = b then (goT t.1 s (opf t.1 W s (N + 4)) 0 4, t.2 + nI (cpt (opf t.1 W s (N + 4)))) else t
end
set_option maxHeartbeats 2000000 in
theorem v_X7_gives_0 {K : Sh} {x : Cn} {Q : Int32 → Cn → Prop} {b0 : Nat} {l1 : Int32} {l2 : Int32} {b0_3 : Nat} {b0_2 : Nat} (k_b0 : kk K b0 = some (7, 0)) (g_b0_3 : gr x b0 3 = some b0_3) (k_b0_3 : kk K b0_3 = some (1, 0)) (g_b0_2 : gr x b0 2 = some b0_2) (k_b0_2 : kk K b0_2 = some (4, 0)) (K0 : (¬ (0 ≤ l1 ∧ l1 < gi x b0_3 0) → (Q (-2) x)) ∧ ((0 ≤ l1 ∧ l1 < gi x b0_3 0) → (((0 < gi x b0_2 0 ∧ 0 ≤ l2 ∧ l2 < 7) → (GI mX7_gives 38 [some (.ref b0), some (.int l1), some (.int l2), some (.int (f_bf ((gi x b0_2 1) + 4))), some (.int 0), some (.int 0), none, none] [] K x Q)) ∧ (¬ (0 < gi x b0_2 0 ∧ 0 ≤ l2 ∧ l2 < 7) → (Q (-2) x))))) : mSI mX7_gives [.ref b0, .int l1, .int l2] K x Q := by
  refine s_I (by decide) (by simp [Value.category]) (Nat.le_of_ble_eq_true rfl) ?_
  show mGM mX7_gives 0 [some (.ref b0), some (.int l1), some (.int l2), none, none, none, none, none] [] (hp K x) (PI K Q)
  refine r_aload_n (pc := 0) dX7_gives_0 rfl ?_
  refine r_iload_n (pc := 1) dX7_gives_1 rfl ?_
  refine s_VI (pc := 2) mX7_isCarrier (ci := 7) (a := b0) (As := [.int l1]) dX7_gives_2 lk_X7_109 in_X7_isCarrier mo_X7_isCarrier ⟨by decide, rfl⟩ ⟨by decide, by decide⟩ (Nat.le_of_ble_eq_true rfl) k_b0 (sp_X7_isCarrier k_b0 g_b0_3 k_b0_3 ?_)
  refine r_if_eq (pc := 5) (tgt := 16) dX7_gives_5 (by decide) (fun q => ?_) (fun q => ?_)
  · have q := (b2i_z _).mp q
    have K0 := K0.1 q
    refine r_bipush (pc := 16) (v := (-2)) dX7_gives_16 (by decide) ?_
    exact s_iret rfl dX7_gives_18 K0
  · have q := b2i_nz q
    have K0 := K0.2 q
    refine r_aload_n (pc := 8) dX7_gives_8 rfl ?_
    refine r_iload_n (pc := 9) dX7_gives_9 rfl ?_
    refine s_VI (pc := 10) mX7_isDay (ci := 7) (a := b0) (As := [.int l2]) dX7_gives_10 lk_X7_245 in_X7_isDay mo_X7_isDay ⟨by decide, rfl⟩ ⟨by decide, by decide⟩ (Nat.le_of_ble_eq_true rfl) k_b0 (sp_X7_isDay k_b0 g_b0_2 k_b0_2 ?_)
    refine r_if_ne (pc := 13) (tgt := 19) dX7_gives_13 (by decide) (fun q => ?_) (fun q => ?_)
    · have q := b2i_nz q
      have K0 := K0.1 q
      refine r_aload_n (pc := 19) dX7_gives_19 rfl ?_
      refine s_getR (pc := 20) dX7_gives_20 fl_X7_20 rfl k_b0 g_b0_2 ?_
      refine s_getI (pc := 23) dX7_gives_23 fl_X7_103 rfl k_b0_2 ?_
      refine r_iconst (pc := 26) (v := 4) dX7_gives_26 (by decide) ?_
      refine r_iadd (pc := 27) dX7_gives_27 ?_
      refine s_SI (pc := 28) mX7_bitsFrom (As := [.int ((gi x b0_2 1) + 4)]) dX7_gives_28 lk_X7_342 st_X7_bitsFrom mo_X7_bitsFrom ⟨by decide, by decide⟩ (Nat.le_of_ble_eq_true rfl) (sp_X7_bitsFrom  ?_)
      refine r_istore_n (pc := 31) dX7_gives_31 (by decide) ?_
      refine r_iconst (pc := 32) (L := [some (.ref b0), some (.int l1), some (.int l2), some (.int (f_bf ((gi x b0_2 1) + 4))), none, none, none, none]) (v := 0) dX7_gives_32 (by decide) ?_
      refine r_istore (pc := 33) dX7_gives_33 (by decide) ?_
      refine r_iconst (pc := 35) (L := [some (.ref b0), some (.int l1), some (.int l2), some (.int (f_bf ((gi x b0_2 1) + 4))), some (.int 0), none, none, none]) (v := 0) dX7_gives_35 (by decide) ?_
      refine r_istore (pc := 36) dX7_gives_36 (by decide) ?_
      exact r_le (L' := [some (.ref b0), some (.int l1), some (.int l2), some (.int (f_bf ((gi x b0_2 1) + 4))), some (.int 0), some (.int 0), none, none]) ⟨rfl, ⟨rfl, ⟨rfl, ⟨rfl, ⟨rfl, ⟨rfl, trivial⟩⟩⟩⟩⟩⟩ K0
    · have q := (b2i_z _).mp q
      have K0 := K0.2 q
      refine r_bipush (pc := 16) (v := (-2)) dX7_gives_16 (by decide) ?_
      exact s_iret rfl dX7_gives_18 K0
set_option maxHeartbeats 2000000 in
theorem v_X7_gives_38 {K : Sh} {x : Cn} {Q : Int32 → Cn → Prop} {b0 : Nat} {l1 : Int32} {l2 : Int32} {l3 : Int32} {l4 : Int32} {l5 : Int32} {b0_2 : Nat} {b0_2_7 : Nat} {n_b0_2_7 : Nat} (k_b0 : kk K b0 = some (7, 0)) (g_b0_2 : gr x b0 2 = some b0_2) (k_b0_2 : kk K b0_2 = some (4, 0)) (g_b0_2_7 : gr x b0_2 7 = some b0_2_7) (k_b0_2_7 : kk K b0_2_7 = some (23, n_b0_2_7)) (K0 : ((gi x b0_2 3) ≤ l5 → (Q l4 x)) ∧ (¬ (gi x b0_2 3) ≤ l5 → (vp_in l5 n_b0_2_7 ∧ (∃ c_3 : Nat, gr x b0_2_7 ((l5 : Int32).toNatClampNeg) = some c_3 ∧ (kk K c_3 = some (5, 0) ∧ ((¬ (gi x c_3 0 = l1 ∧ (l2 = -1 ∨ gi x c_3 1 = l2)) → (GI mX7_gives 38 [some (.ref b0), some (.int l1), some (.int l2), some (.int l3), some (.int l4), some (.int (l5 + 1)), none, none] [] K x Q)) ∧ ((gi x c_3 0 = l1 ∧ (l2 = -1 ∨ gi x c_3 1 = l2)) → ((((f_open x c_3) &&& l3) = 0 → (GI mX7_gives 38 [some (.ref b0), some (.int l1), some (.int l2), some (.int l3), some (.int l4), some (.int (l5 + 1)), none, none] [] K x Q)) ∧ (¬ ((f_open x c_3) &&& l3) = 0 → ((¬ l4 = 0 → (GI mX7_gives 38 [some (.ref b0), some (.int l1), some (.int l2), some (.int l3), some (.int (l4 + (nI (cpt ((f_open x c_3) &&& l3))))), some (.int (l5 + 1)), none, none] [] K (ui x c_3 11 ((gi x c_3 11) ||| ((f_open x c_3) &&& l3))) Q)) ∧ (l4 = 0 → (mSV mX7_remember [.ref b0] K x (fun y_9 => GI mX7_gives 38 [some (.ref b0), some (.int l1), some (.int l2), some (.int l3), some (.int (l4 + (nI (cpt ((f_open x c_3) &&& l3))))), some (.int (l5 + 1)), none, none] [] K (ui y_9 c_3 11 ((gi y_9 c_3 11) ||| ((f_open x c_3) &&& l3))) Q))))))))))))) : GI mX7_gives 38 [some (.ref b0), some (.int l1), some (.int l2), some (.int l3), some (.int l4), some (.int l5), none, none] [] K x Q := by
  show mGM mX7_gives 38 [some (.ref b0), some (.int l1), some (.int l2), some (.int l3), some (.int l4), some (.int l5), none, none] [] (hp K x) (PI K Q)
  refine r_iload (pc := 38) dX7_gives_38 rfl ?_
  refine r_aload_n (pc := 40) dX7_gives_40 rfl ?_
  refine s_getR (pc := 41) dX7_gives_41 fl_X7_20 rfl k_b0 g_b0_2 ?_
  refine s_getI (pc := 44) dX7_gives_44 fl_X7_97 rfl k_b0_2 ?_
  refine r_icmp_ge (pc := 47) (tgt := 127) dX7_gives_47 (by decide) (fun q => ?_) (fun q => ?_)
  · have K0 := K0.1 q
    refine r_iload (pc := 127) dX7_gives_127 rfl ?_
    exact s_iret rfl dX7_gives_129 K0
  · have K0 := K0.2 q
    refine r_aload_n (pc := 50) dX7_gives_50 rfl ?_
    refine s_getR (pc := 51) dX7_gives_51 fl_X7_20 rfl k_b0 g_b0_2 ?_
    refine s_getR (pc := 54) dX7_gives_54 fl_X7_135 rfl k_b0_2 g_b0_2_7 ?_
    refine r_iload (pc := 57) dX7_gives_57 rfl ?_
    obtain ⟨i_2, K0⟩ := K0
    obtain ⟨c_3, g_4, K0⟩ := K0
    refine s_aald (pc := 59) dX7_gives_59 (by decide) rfl k_b0_2_7 i_2 g_4 ?_
    refine r_astore (pc := 60) dX7_gives_60 (by decide) ?_
    refine r_aload (pc := 62) (L := [some (.ref b0), some (.int l1), some (.int l2), some (.int l3), some (.int l4), some (.int l5), some (.ref c_3), none]) dX7_gives_62 rfl ?_
    refine r_iload_n (pc := 64) dX7_gives_64 rfl ?_
    refine r_iload_n (pc := 65) dX7_gives_65 rfl ?_
    obtain ⟨e_5, K0⟩ := K0
    refine s_VI (pc := 66) mX5_isOf (ci := 5) (a := c_3) (As := [.int l1, .int l2]) dX7_gives_66 lk_X7_248 in_X5_isOf mo_X5_isOf ⟨by decide, rfl⟩ ⟨by decide, by decide⟩ (Nat.le_of_ble_eq_true rfl) e_5 (sp_X5_isOf e_5 ?_)
    refine r_if_eq (pc := 69) (tgt := 82) dX7_gives_69 (by decide) (fun q => ?_) (fun q => ?_)
    · have q := (b2i_z _).mp q
      have K0 := K0.1 q
      refine r_iconst (pc := 82) (v := 0) dX7_gives_82 (by decide) ?_
      refine r_istore (pc := 83) dX7_gives_83 (by decide) ?_
      refine r_iload (pc := 85) (L := [some (.ref b0), some (.int l1), some (.int l2), some (.int l3), some (.int l4), some (.int l5), some (.ref c_3), some (.int 0)]) dX7_gives_85 rfl ?_
      refine r_if_eq (pc := 87) (tgt := 121) dX7_gives_87 (by decide) (fun _ => ?_) (fun q => by first | exact absurd q (by decide) | exact absurd (by decide) q)
      refine r_iinc (pc := 121) (v := l5 + 1) dX7_gives_121 rfl rfl (by decide) ?_
      refine r_goto (pc := 124) (L := [some (.ref b0), some (.int l1), some (.int l2), some (.int l3), some (.int l4), some (.int (l5 + 1)), some (.ref c_3), some (.int 0)]) (tgt := 38) dX7_gives_124 (by decide) ?_
      exact r_le (L' := [some (.ref b0), some (.int l1), some (.int l2), some (.int l3), some (.int l4), some (.int (l5 + 1)), none, none]) ⟨rfl, ⟨rfl, ⟨rfl, ⟨rfl, ⟨rfl, ⟨rfl, trivial⟩⟩⟩⟩⟩⟩ K0
    · have q := b2i_nz q
      have K0 := K0.2 q
      refine r_aload (pc := 72) dX7_gives_72 rfl ?_
      refine s_VI (pc := 74) mX5_openBits (ci := 5) (a := c_3) (As := []) dX7_gives_74 lk_X7_339 in_X5_openBits mo_X5_openBits ⟨by decide, rfl⟩ ⟨by decide, by decide⟩ (Nat.le_of_ble_eq_true rfl) e_5 (sp_X5_openBits e_5 ?_)
      refine r_iload_n (pc := 77) dX7_gives_77 rfl ?_
      refine r_iand (pc := 78) dX7_gives_78 ?_
      refine r_goto (pc := 79) (tgt := 83) dX7_gives_79 (by decide) ?_
      refine r_istore (pc := 83) dX7_gives_83 (by decide) ?_
      refine r_iload (pc := 85) (L := [some (.ref b0), some (.int l1), some (.int l2), some (.int l3), some (.int l4), some (.int l5), some (.ref c_3), some (.int ((f_open x c_3) &&& l3))]) dX7_gives_85 rfl ?_
      refine r_if_eq (pc := 87) (tgt := 121) dX7_gives_87 (by decide) (fun q => ?_) (fun q => ?_)
      · have K0 := K0.1 q
        refine r_iinc (pc := 121) (v := l5 + 1) dX7_gives_121 rfl rfl (by decide) ?_
        refine r_goto (pc := 124) (L := [some (.ref b0), some (.int l1), some (.int l2), some (.int l3), some (.int l4), some (.int (l5 + 1)), some (.ref c_3), some (.int ((f_open x c_3) &&& l3))]) (tgt := 38) dX7_gives_124 (by decide) ?_
        exact r_le (L' := [some (.ref b0), some (.int l1), some (.int l2), some (.int l3), some (.int l4), some (.int (l5 + 1)), none, none]) ⟨rfl, ⟨rfl, ⟨rfl, ⟨rfl, ⟨rfl, ⟨rfl, trivial⟩⟩⟩⟩⟩⟩ K0
      · have K0 := K0.2 q
        refine r_iload (pc := 90) dX7_gives_90 rfl ?_
        refine r_if_ne (pc := 92) (tgt := 99) dX7_gives_92 (by decide) (fun q => ?_) (fun q => ?_)
        · have K0 := K0.1 q
          refine r_aload (pc := 99) dX7_gives_99 rfl ?_
          refine r_dup (pc := 101) dX7_gives_101 rfl ?_
          refine s_getI (pc := 102) dX7_gives_102 fl_X7_345 rfl e_5 ?_
          refine r_iload (pc := 105) dX7_gives_105 rfl ?_
          refine r_ior (pc := 107) dX7_gives_107 ?_
          refine s_putI (pc := 108) dX7_gives_108 fl_X7_345 rfl rfl e_5 ?_
          refine r_iload (pc := 111) dX7_gives_111 rfl ?_
          refine r_iload (pc := 113) dX7_gives_113 rfl ?_
          refine s_SI (pc := 115) mJ6_bitCount_0f7a4 (As := [.int ((f_open x c_3) &&& l3)]) dX7_gives_115 lk_X7_255 st_J6_bitCount_0f7a4 mo_J6_bitCount_0f7a4 ⟨by decide, by decide⟩ (Nat.le_of_ble_eq_true rfl) (sp_bc  ?_)
          refine r_iadd (pc := 118) dX7_gives_118 ?_
          refine r_istore (pc := 119) dX7_gives_119 (by decide) ?_
          refine r_iinc (pc := 121) (L := [some (.ref b0), some (.int l1), some (.int l2), some (.int l3), some (.int (l4 + (nI (cpt ((f_open x c_3) &&& l3))))), some (.int l5), some (.ref c_3), some (.int ((f_open x c_3) &&& l3))]) (v := l5 + 1) dX7_gives_121 rfl rfl (by decide) ?_
          refine r_goto (pc := 124) (L := [some (.ref b0), some (.int l1), some (.int l2), some (.int l3), some (.int (l4 + (nI (cpt ((f_open x c_3) &&& l3))))), some (.int (l5 + 1)), some (.ref c_3), some (.int ((f_open x c_3) &&& l3))]) (tgt := 38) dX7_gives_124 (by decide) ?_
          exact r_le (L' := [some (.ref b0), some (.int l1), some (.int l2), some (.int l3), some (.int (l4 + (nI (cpt ((f_open x c_3) &&& l3))))), some (.int (l5 + 1)), none, none]) ⟨rfl, ⟨rfl, ⟨rfl, ⟨rfl, ⟨rfl, ⟨rfl, trivial⟩⟩⟩⟩⟩⟩ K0
        · have K0 := K0.2 q
          refine r_aload_n (pc := 95) dX7_gives_95 rfl ?_
          refine s_VV (pc := 96) mX7_remember (ci := 7) (a := b0) (As := []) dX7_gives_96 lk_X7_333 in_X7_remember mo_X7_remember ⟨by decide, rfl⟩ ⟨by decide, by decide⟩ (Nat.le_of_ble_eq_true rfl) k_b0 (mSV_mono K0 (fun y_9 K0 => ?_))
          refine r_aload (pc := 99) dX7_gives_99 rfl ?_
          refine r_dup (pc := 101) dX7_gives_101 rfl ?_
          refine s_getI (pc := 102) dX7_gives_102 fl_X7_345 rfl e_5 ?_
          refine r_iload (pc := 105) dX7_gives_105 rfl ?_
          refine r_ior (pc := 107) dX7_gives_107 ?_
          refine s_putI (pc := 108) dX7_gives_108 fl_X7_345 rfl rfl e_5 ?_
          refine r_iload (pc := 111) dX7_gives_111 rfl ?_
          refine r_iload (pc := 113) dX7_gives_113 rfl ?_
          refine s_SI (pc := 115) mJ6_bitCount_0f7a4 (As := [.int ((f_open x c_3) &&& l3)]) dX7_gives_115 lk_X7_255 st_J6_bitCount_0f7a4 mo_J6_bitCount_0f7a4 ⟨by decide, by decide⟩ (Nat.le_of_ble_eq_true rfl) (sp_bc  ?_)
          refine r_iadd (pc := 118) dX7_gives_118 ?_
          refine r_istore (pc := 119) dX7_gives_119 (by decide) ?_
          refine r_iinc (pc := 121) (L := [some (.ref b0), some (.int l1), some (.int l2), some (.int l3), some (.int (l4 + (nI (cpt ((f_open x c_3) &&& l3))))), some (.int l5), some (.ref c_3), some (.int ((f_open x c_3) &&& l3))]) (v := l5 + 1) dX7_gives_121 rfl rfl (by decide) ?_
          refine r_goto (pc := 124) (L := [some (.ref b0), some (.int l1), some (.int l2), some (.int l3), some (.int (l4 + (nI (cpt ((f_open x c_3) &&& l3))))), some (.int (l5 + 1)), some (.ref c_3), some (.int ((f_open x c_3) &&& l3))]) (tgt := 38) dX7_gives_124 (by decide) ?_
          exact r_le (L' := [some (.ref b0), some (.int l1), some (.int l2), some (.int l3), some (.int (l4 + (nI (cpt ((f_open x c_3) &&& l3))))), some (.int (l5 + 1)), none, none]) ⟨rfl, ⟨rfl, ⟨rfl, ⟨rfl, ⟨rfl, ⟨rfl, trivial⟩⟩⟩⟩⟩⟩ K0
set_option maxHeartbeats 2000000 in
theorem v_X8_gives_0 {K : Sh} {x : Cn} {Q : Int32 → Cn → Prop} {b0 : Nat} {l1 : Int32} {l2 : Int32} {b0_1 : Nat} {n_b0_1 : Nat} (k_b0 : kk K b0 = some (8, 0)) (g_b0_1 : gr x b0 1 = some b0_1) (k_b0_1 : kk K b0_1 = some (20, n_b0_1)) (K0 : vp_in 1 n_b0_1 ∧ ((¬ (0 ≤ l1 ∧ l1 ≤ gi x b0_1 1 - 1) → (Q (-2) x)) ∧ ((0 ≤ l1 ∧ l1 ≤ gi x b0_1 1 - 1) → (vp_in 0 n_b0_1 ∧ (((0 < gi x b0_1 0 ∧ 0 ≤ l2 ∧ l2 ≤ 6) → (GI mX8_gives 24 [some (.ref b0), some (.int l1), some (.int l2), some (.int 0), some (.int 0), none] [] K x Q)) ∧ (¬ (0 < gi x b0_1 0 ∧ 0 ≤ l2 ∧ l2 ≤ 6) → (Q (-2) x))))))) : mSI mX8_gives [.ref b0, .int l1, .int l2] K x Q := by
  refine s_I (by decide) (by simp [Value.category]) (Nat.le_of_ble_eq_true rfl) ?_
  show mGM mX8_gives 0 [some (.ref b0), some (.int l1), some (.int l2), none, none, none] [] (hp K x) (PI K Q)
  refine r_aload_n (pc := 0) dX8_gives_0 rfl ?_
  refine r_iload_n (pc := 1) dX8_gives_1 rfl ?_
  obtain ⟨i_1, K0⟩ := K0
  refine s_VI (pc := 2) mX8_isCarrier (ci := 8) (a := b0) (As := [.int l1]) dX8_gives_2 lk_X8_265 in_X8_isCarrier mo_X8_isCarrier ⟨by decide, rfl⟩ ⟨by decide, by decide⟩ (Nat.le_of_ble_eq_true rfl) k_b0 (sp_X8_isCarrier k_b0 g_b0_1 k_b0_1 i_1 ?_)
  refine r_if_eq (pc := 5) (tgt := 16) dX8_gives_5 (by decide) (fun q => ?_) (fun q => ?_)
  · have q := (b2i_z _).mp q
    have K0 := K0.1 q
    refine r_bipush (pc := 16) (v := (-2)) dX8_gives_16 (by decide) ?_
    exact s_iret rfl dX8_gives_18 K0
  · have q := b2i_nz q
    have K0 := K0.2 q
    refine r_aload_n (pc := 8) dX8_gives_8 rfl ?_
    refine r_iload_n (pc := 9) dX8_gives_9 rfl ?_
    obtain ⟨i_3, K0⟩ := K0
    refine s_VI (pc := 10) mX8_isDay (ci := 8) (a := b0) (As := [.int l2]) dX8_gives_10 lk_X8_61 in_X8_isDay mo_X8_isDay ⟨by decide, rfl⟩ ⟨by decide, by decide⟩ (Nat.le_of_ble_eq_true rfl) k_b0 (sp_X8_isDay k_b0 g_b0_1 k_b0_1 i_3 ?_)
    refine r_if_ne (pc := 13) (tgt := 19) dX8_gives_13 (by decide) (fun q => ?_) (fun q => ?_)
    · have q := b2i_nz q
      have K0 := K0.1 q
      refine r_iconst (pc := 19) (v := 0) dX8_gives_19 (by decide) ?_
      refine r_istore_n (pc := 20) dX8_gives_20 (by decide) ?_
      refine r_iconst (pc := 21) (L := [some (.ref b0), some (.int l1), some (.int l2), some (.int 0), none, none]) (v := 0) dX8_gives_21 (by decide) ?_
      refine r_istore (pc := 22) dX8_gives_22 (by decide) ?_
      exact r_le (L' := [some (.ref b0), some (.int l1), some (.int l2), some (.int 0), some (.int 0), none]) ⟨rfl, ⟨rfl, ⟨rfl, ⟨rfl, ⟨rfl, trivial⟩⟩⟩⟩⟩ K0
    · have q := (b2i_z _).mp q
      have K0 := K0.2 q
      refine r_bipush (pc := 16) (v := (-2)) dX8_gives_16 (by decide) ?_
      exact s_iret rfl dX8_gives_18 K0
set_option maxHeartbeats 2000000 in
theorem v_X8_gives_24 {K : Sh} {x : Cn} {Q : Int32 → Cn → Prop} {b0 : Nat} {l1 : Int32} {l2 : Int32} {l3 : Int32} {l4 : Int32} {b0_1 : Nat} {n_b0_1 : Nat} {b0_3 : Nat} {n_b0_3 : Nat} (k_b0 : kk K b0 = some (8, 0)) (g_b0_1 : gr x b0 1 = some b0_1) (k_b0_1 : kk K b0_1 = some (20, n_b0_1)) (g_b0_3 : gr x b0 3 = some b0_3) (k_b0_3 : kk K b0_3 = some (20, n_b0_3)) (K0 : vp_in 2 n_b0_1 ∧ (((gi x b0_1 2) ≤ l4 → (Q l3 x)) ∧ (¬ (gi x b0_1 2) ≤ l4 → ((l24 l4 n_b0_3) ∧ ((¬ (so (gi x b0_3) (l4 : Int32).toNatClampNeg 0) = l1 → (GI mX8_gives 24 [some (.ref b0), some (.int l1), some (.int l2), some (.int l3), some (.int (l4 + 1)), none] [] K x Q)) ∧ ((so (gi x b0_3) (l4 : Int32).toNatClampNeg 0) = l1 → (((so (gi x b0_3) (l4 : Int32).toNatClampNeg 1) = l2 → (vp_in 4 n_b0_1 ∧ (mSI mX8_openFrom [.ref b0, .int l4, .int ((gi x b0_1 4) + 4)] K x (fun r_8 y_7 => (r_8 = 0 → (mSV mX8_goes [.ref b0, .int l4, .int r_8, .int 0, .int 4] K y_7 (fun y_10 => GI mX8_gives 24 [some (.ref b0), some (.int l1), some (.int l2), some (.int (l3 + (nI (cpt r_8)))), some (.int (l4 + 1)), none] [] K y_10 Q))) ∧ (¬ r_8 = 0 → ((¬ l3 = 0 → (mSV mX8_goes [.ref b0, .int l4, .int r_8, .int 0, .int 4] K y_7 (fun y_12 => GI mX8_gives 24 [some (.ref b0), some (.int l1), some (.int l2), some (.int (l3 + (nI (cpt r_8)))), some (.int (l4 + 1)), none] [] K y_12 Q))) ∧ (l3 = 0 → (mSV mX8_keeps [.ref b0] K y_7 (fun y_13 => mSV mX8_goes [.ref b0, .int l4, .int r_8, .int 0, .int 4] K y_13 (fun y_14 => GI mX8_gives 24 [some (.ref b0), some (.int l1), some (.int l2), some (.int (l3 + (nI (cpt r_8)))), some (.int (l4 + 1)), none] [] K y_14 Q)))))))))) ∧ (¬ (so (gi x b0_3) (l4 : Int32).toNatClampNeg 1) = l2 → (GI mX8_gives 24 [some (.ref b0), some (.int l1), some (.int l2), some (.int l3), some (.int (l4 + 1)), none] [] K x Q))))))))) : GI mX8_gives 24 [some (.ref b0), some (.int l1), some (.int l2), some (.int l3), some (.int l4), none] [] K x Q := by
  show mGM mX8_gives 24 [some (.ref b0), some (.int l1), some (.int l2), some (.int l3), some (.int l4), none] [] (hp K x) (PI K Q)
  refine r_iload (pc := 24) dX8_gives_24 rfl ?_
  refine r_aload_n (pc := 26) dX8_gives_26 rfl ?_
  refine s_getR (pc := 27) dX8_gives_27 fl_X8_9 rfl k_b0 g_b0_1 ?_
  refine r_iconst (pc := 30) (v := 2) dX8_gives_30 (by decide) ?_
  obtain ⟨i_1, K0⟩ := K0
  refine s_iald (pc := 31) dX8_gives_31 k_b0_1 i_1 ?_
  refine r_icmp_ge (pc := 32) (tgt := 113) dX8_gives_32 (by decide) (fun q => ?_) (fun q => ?_)
  · have K0 := K0.1 q
    refine r_iload_n (pc := 113) dX8_gives_113 rfl ?_
    exact s_iret rfl dX8_gives_114 K0
  · have K0 := K0.2 q
    refine r_aload_n (pc := 35) dX8_gives_35 rfl ?_
    refine r_iload (pc := 36) dX8_gives_36 rfl ?_
    refine r_iconst (pc := 38) (v := 0) dX8_gives_38 (by decide) ?_
    obtain ⟨p_3, K0⟩ := K0
    refine s_VI (pc := 39) mX8_one (ci := 8) (a := b0) (As := [.int l4, .int 0]) dX8_gives_39 lk_X8_67 in_X8_one mo_X8_one ⟨by decide, rfl⟩ ⟨by decide, by decide⟩ (Nat.le_of_ble_eq_true rfl) k_b0 (sr_X8_one k_b0 g_b0_3 k_b0_3 p_3 ⟨by decide, by decide⟩ ?_)
    refine r_iload_n (pc := 42) dX8_gives_42 rfl ?_
    refine r_icmp_ne (pc := 43) (tgt := 107) dX8_gives_43 (by decide) (fun q => ?_) (fun q => ?_)
    · have K0 := K0.1 q
      refine r_iinc (pc := 107) (v := l4 + 1) dX8_gives_107 rfl rfl (by decide) ?_
      refine r_goto (pc := 110) (L := [some (.ref b0), some (.int l1), some (.int l2), some (.int l3), some (.int (l4 + 1)), none]) (tgt := 24) dX8_gives_110 (by decide) ?_
      exact r_le (L' := [some (.ref b0), some (.int l1), some (.int l2), some (.int l3), some (.int (l4 + 1)), none]) ⟨rfl, ⟨rfl, ⟨rfl, ⟨rfl, ⟨rfl, trivial⟩⟩⟩⟩⟩ K0
    · have K0 := K0.2 q
      refine r_aload_n (pc := 46) dX8_gives_46 rfl ?_
      refine r_iload (pc := 47) dX8_gives_47 rfl ?_
      refine r_iconst (pc := 49) (v := 1) dX8_gives_49 (by decide) ?_
      refine s_VI (pc := 50) mX8_one (ci := 8) (a := b0) (As := [.int l4, .int 1]) dX8_gives_50 lk_X8_67 in_X8_one mo_X8_one ⟨by decide, rfl⟩ ⟨by decide, by decide⟩ (Nat.le_of_ble_eq_true rfl) k_b0 (sr_X8_one k_b0 g_b0_3 k_b0_3 p_3 ⟨by decide, by decide⟩ ?_)
      refine r_iload_n (pc := 53) dX8_gives_53 rfl ?_
      refine r_icmp_eq (pc := 54) (tgt := 60) dX8_gives_54 (by decide) (fun q => ?_) (fun q => ?_)
      · have K0 := K0.1 q
        refine r_aload_n (pc := 60) dX8_gives_60 rfl ?_
        refine r_iload (pc := 61) dX8_gives_61 rfl ?_
        refine r_aload_n (pc := 63) dX8_gives_63 rfl ?_
        refine s_getR (pc := 64) dX8_gives_64 fl_X8_9 rfl k_b0 g_b0_1 ?_
        refine r_iconst (pc := 67) (v := 4) dX8_gives_67 (by decide) ?_
        obtain ⟨i_6, K0⟩ := K0
        refine s_iald (pc := 68) dX8_gives_68 k_b0_1 i_6 ?_
        refine r_iconst (pc := 69) (v := 4) dX8_gives_69 (by decide) ?_
        refine r_iadd (pc := 70) dX8_gives_70 ?_
        refine s_VI (pc := 71) mX8_openFrom (ci := 8) (a := b0) (As := [.int l4, .int ((gi x b0_1 4) + 4)]) dX8_gives_71 lk_X8_373 in_X8_openFrom mo_X8_openFrom ⟨by decide, rfl⟩ ⟨by decide, by decide⟩ (Nat.le_of_ble_eq_true rfl) k_b0 (mSI_mono K0 (fun r_8 y_7 K0 => ?_))
        refine r_istore (pc := 74) dX8_gives_74 (by decide) ?_
        refine r_iload (pc := 76) (L := [some (.ref b0), some (.int l1), some (.int l2), some (.int l3), some (.int l4), some (.int r_8)]) dX8_gives_76 rfl ?_
        refine r_if_eq (pc := 78) (tgt := 89) dX8_gives_78 (by decide) (fun q => ?_) (fun q => ?_)
        · have K0 := K0.1 q
          refine r_iload_n (pc := 89) dX8_gives_89 rfl ?_
          refine r_iload (pc := 90) dX8_gives_90 rfl ?_
          refine s_SI (pc := 92) mX8_bits (As := [.int r_8]) dX8_gives_92 lk_X8_296 st_X8_bits mo_X8_bits ⟨by decide, by decide⟩ (Nat.le_of_ble_eq_true rfl) (sp_X8_bits  ?_)
          refine r_iadd (pc := 95) dX8_gives_95 ?_
          refine r_istore_n (pc := 96) dX8_gives_96 (by decide) ?_
          refine r_aload_n (pc := 97) (L := [some (.ref b0), some (.int l1), some (.int l2), some (.int (l3 + (nI (cpt r_8)))), some (.int l4), some (.int r_8)]) dX8_gives_97 rfl ?_
          refine r_iload (pc := 98) dX8_gives_98 rfl ?_
          refine r_iload (pc := 100) dX8_gives_100 rfl ?_
          refine r_iconst (pc := 102) (v := 0) dX8_gives_102 (by decide) ?_
          refine r_iconst (pc := 103) (v := 4) dX8_gives_103 (by decide) ?_
          refine s_VV (pc := 104) mX8_goes (ci := 8) (a := b0) (As := [.int l4, .int r_8, .int 0, .int 4]) dX8_gives_104 lk_X8_369 in_X8_goes mo_X8_goes ⟨by decide, rfl⟩ ⟨by decide, by decide⟩ (Nat.le_of_ble_eq_true rfl) k_b0 (mSV_mono K0 (fun y_10 K0 => ?_))
          refine r_iinc (pc := 107) (v := l4 + 1) dX8_gives_107 rfl rfl (by decide) ?_
          refine r_goto (pc := 110) (L := [some (.ref b0), some (.int l1), some (.int l2), some (.int (l3 + (nI (cpt r_8)))), some (.int (l4 + 1)), some (.int r_8)]) (tgt := 24) dX8_gives_110 (by decide) ?_
          exact r_le (L' := [some (.ref b0), some (.int l1), some (.int l2), some (.int (l3 + (nI (cpt r_8)))), some (.int (l4 + 1)), none]) ⟨rfl, ⟨rfl, ⟨rfl, ⟨rfl, ⟨rfl, trivial⟩⟩⟩⟩⟩ K0
        · have K0 := K0.2 q
          refine r_iload_n (pc := 81) dX8_gives_81 rfl ?_
          refine r_if_ne (pc := 82) (tgt := 89) dX8_gives_82 (by decide) (fun q => ?_) (fun q => ?_)
          · have K0 := K0.1 q
            refine r_iload_n (pc := 89) dX8_gives_89 rfl ?_
            refine r_iload (pc := 90) dX8_gives_90 rfl ?_
            refine s_SI (pc := 92) mX8_bits (As := [.int r_8]) dX8_gives_92 lk_X8_296 st_X8_bits mo_X8_bits ⟨by decide, by decide⟩ (Nat.le_of_ble_eq_true rfl) (sp_X8_bits  ?_)
            refine r_iadd (pc := 95) dX8_gives_95 ?_
            refine r_istore_n (pc := 96) dX8_gives_96 (by decide) ?_
            refine r_aload_n (pc := 97) (L := [some (.ref b0), some (.int l1), some (.int l2), some (.int (l3 + (nI (cpt r_8)))), some (.int l4), some (.int r_8)]) dX8_gives_97 rfl ?_
            refine r_iload (pc := 98) dX8_gives_98 rfl ?_
            refine r_iload (pc := 100) dX8_gives_100 rfl ?_
            refine r_iconst (pc := 102) (v := 0) dX8_gives_102 (by decide) ?_
            refine r_iconst (pc := 103) (v := 4) dX8_gives_103 (by decide) ?_
            refine s_VV (pc := 104) mX8_goes (ci := 8) (a := b0) (As := [.int l4, .int r_8, .int 0, .int 4]) dX8_gives_104 lk_X8_369 in_X8_goes mo_X8_goes ⟨by decide, rfl⟩ ⟨by decide, by decide⟩ (Nat.le_of_ble_eq_true rfl) k_b0 (mSV_mono K0 (fun y_12 K0 => ?_))
            refine r_iinc (pc := 107) (v := l4 + 1) dX8_gives_107 rfl rfl (by decide) ?_
            refine r_goto (pc := 110) (L := [some (.ref b0), some (.int l1), some (.int l2), some (.int (l3 + (nI (cpt r_8)))), some (.int (l4 + 1)), some (.int r_8)]) (tgt := 24) dX8_gives_110 (by decide) ?_
            exact r_le (L' := [some (.ref b0), some (.int l1), some (.int l2), some (.int (l3 + (nI (cpt r_8)))), some (.int (l4 + 1)), none]) ⟨rfl, ⟨rfl, ⟨rfl, ⟨rfl, ⟨rfl, trivial⟩⟩⟩⟩⟩ K0
          · have K0 := K0.2 q
            refine r_aload_n (pc := 85) dX8_gives_85 rfl ?_
            refine s_VV (pc := 86) mX8_keeps (ci := 8) (a := b0) (As := []) dX8_gives_86 lk_X8_366 in_X8_keeps mo_X8_keeps ⟨by decide, rfl⟩ ⟨by decide, by decide⟩ (Nat.le_of_ble_eq_true rfl) k_b0 (mSV_mono K0 (fun y_13 K0 => ?_))
            refine r_iload_n (pc := 89) dX8_gives_89 rfl ?_
            refine r_iload (pc := 90) dX8_gives_90 rfl ?_
            refine s_SI (pc := 92) mX8_bits (As := [.int r_8]) dX8_gives_92 lk_X8_296 st_X8_bits mo_X8_bits ⟨by decide, by decide⟩ (Nat.le_of_ble_eq_true rfl) (sp_X8_bits  ?_)
            refine r_iadd (pc := 95) dX8_gives_95 ?_
            refine r_istore_n (pc := 96) dX8_gives_96 (by decide) ?_
            refine r_aload_n (pc := 97) (L := [some (.ref b0), some (.int l1), some (.int l2), some (.int (l3 + (nI (cpt r_8)))), some (.int l4), some (.int r_8)]) dX8_gives_97 rfl ?_
            refine r_iload (pc := 98) dX8_gives_98 rfl ?_
            refine r_iload (pc := 100) dX8_gives_100 rfl ?_
            refine r_iconst (pc := 102) (v := 0) dX8_gives_102 (by decide) ?_
            refine r_iconst (pc := 103) (v := 4) dX8_gives_103 (by decide) ?_
            refine s_VV (pc := 104) mX8_goes (ci := 8) (a := b0) (As := [.int l4, .int r_8, .int 0, .int 4]) dX8_gives_104 lk_X8_369 in_X8_goes mo_X8_goes ⟨by decide, rfl⟩ ⟨by decide, by decide⟩ (Nat.le_of_ble_eq_true rfl) k_b0 (mSV_mono K0 (fun y_14 K0 => ?_))
            refine r_iinc (pc := 107) (v := l4 + 1) dX8_gives_107 rfl rfl (by decide) ?_
            refine r_goto (pc := 110) (L := [some (.ref b0), some (.int l1), some (.int l2), some (.int (l3 + (nI (cpt r_8)))), some (.int (l4 + 1)), some (.int r_8)]) (tgt := 24) dX8_gives_110 (by decide) ?_
            exact r_le (L' := [some (.ref b0), some (.int l1), some (.int l2), some (.int (l3 + (nI (cpt r_8)))), some (.int (l4 + 1)), none]) ⟨rfl, ⟨rfl, ⟨rfl, ⟨rfl, ⟨rfl, trivial⟩⟩⟩⟩⟩ K0
      · have K0 := K0.2 q
        refine r_goto (pc := 57) (tgt := 107) dX8_gives_57 (by decide) ?_
        refine r_iinc (pc := 107) (v := l4 + 1) dX8_gives_107 rfl rfl (by decide) ?_
        refine r_goto (pc := 110) (L := [some (.ref b0), some (.int l1), some (.int l2), some (.int l3), some (.int (l4 + 1)), none]) (tgt := 24) dX8_gives_110 (by decide) ?_
        exact r_le (L' := [some (.ref b0), some (.int l1), some (.int l2), some (.int l3), some (.int (l4 + 1)), none]) ⟨rfl, ⟨rfl, ⟨rfl, ⟨rfl, ⟨rfl, trivial⟩⟩⟩⟩⟩ K0
section
theorem sq_X8_gives {y : Cn} {Q : Int32 → Cn → Prop} {T : TT} {W C S A N n : Nat} {H : Nat → TT} {a b : Int32} (r : RS y T n H) (F : WF T W C S A N) (k1 : ¬ ((0 ≤ a ∧ a < nI C) ∧ (0 < nI W ∧ 0 ≤ b ∧ b < 7)) → Q (-2) y) (k2 : (0 ≤ a ∧ a < nI C) → (0 < nI W ∧ 0 ≤ b ∧ b < 7) → ∀ z m, RFr y z → (accT (gvS W N a b) S (T, 0)).2 = nI m → m ≤ 32 * S → (m = 0 → RS z T n H ∧ (accT (gvS W N a b) S (T, 0)).1 = T) → (¬ m = 0 → RS z (accT (gvS W N a b) S (T, 0)).1 (pn n) (push H n T)) → Q (accT (gvS W N a b) S (T, 0)).2 z) : mSI mX8_gives [.ref 717, .int a, .int b] KW y Q := by
  have hS : S ≤ 24 := F.2.2.2.2.2.2.1
  have hW : W ≤ 30 := F.2.2.1
  have hN : N ≤ W := F.2.2.2.2.2.2.2.2.2.2.1
  have hC : C ≤ 8 := F.2.2.2.2.1
  have M := r.1
  refine v_X8_gives_0 km M.1 km1 ⟨v0 (k := 1) (by decide) rfl rfl, ?_⟩
  rw [r.2.1, F.2.2.2.1, F.1, inN' (by omega), d7]
  refine ⟨fun z => k1 (fun u => z u.1), fun z1 => ⟨v0 (k := 0) (by decide) rfl rfl, fun z2 => ?_, fun z => k1 (fun u => z u.2)⟩⟩
  have k2 := k2 z1 z2
  refine lp_acc (gvS W N a b) (fun s t => ∀ v m, RFr y v → t.2 = nI m → m ≤ 32 * s → WF t.1 W C S A N → (m = 0 → RS v T n H ∧ t.1 = T) → (¬ m = 0 → RS v t.1 (pn n) (push H n T)) → GI mX8_gives 24 [some (.ref 717), some (.int a), some (.int b), some (.int t.2), some (.int (nI s)), none] [] KW v Q) S (T, 0) ?_ (fun s t hs n1 => ?_) y 0 (RFr.rf y) rfl (by omega) F (fun _ => ⟨r, rfl⟩) (fun u => absurd rfl u)
  · intro v m f e1 e2 e3 e4 e5
    have hr : MRf v 718 ∧ gi v 718 2 = nI S := by
      by_cases c : m = 0
      · obtain ⟨q1, q2⟩ := e4 c
        exact ⟨q1.1, by rw [q1.2.1]; exact F.2.2.2.2.2.1⟩
      · have q1 := e5 c
        exact ⟨q1.1, by rw [q1.2.1]; exact e3.2.2.2.2.2.1⟩
    exact v_X8_gives_24 km hr.1.1 km1 hr.1.2.2.1 km1 ⟨v0 (k := 2) (by decide) rfl rfl, fun _ => k2 v m f e1 e2 e4 e5, fun z => absurd (by rw [hr.2]; exact Int32.le_refl _) z⟩
  · obtain ⟨T1, tot⟩ := t
    intro v m f (e1 : tot = nI m) e2 (e3 : WF T1 W C S A N) (e4 : m = 0 → RS v T n H ∧ T1 = T) (e5 : ¬ m = 0 → RS v T1 (pn n) (push H n T))
    subst e1
    have hr : ∃ n' H', RS v T1 n' H' := by
      by_cases c : m = 0
      · obtain ⟨q1, q2⟩ := e4 c
        rw [q2]
        exact ⟨n, H, q1⟩
      · exact ⟨_, _, e5 c⟩
    obtain ⟨n', H', rv⟩ := hr
    have w0 := e3.2.2.2.2.2.2.2.2.2.2.2.2.1 s hs
    have skip : ¬ (so T1 s 0 = a ∧ so T1 s 1 = b) → GI mX8_gives 24 [some (.ref 717), some (.int a), some (.int b), some (.int (nI m)), some (.int (nI s + 1)), none] [] KW v Q := by
      intro c
      rw [nI_1]
      exact n1 (T1, nI m) (if_neg c) v m f rfl (by omega) e3 e4 e5
    refine v_X8_gives_24 km rv.1.1 km1 rv.1.2.2.1 km1 ⟨v0 (k := 2) (by decide) rfl rfl, fun z => absurd (by rw [rv.2.1, e3.2.2.2.2.2.1] at z; exact z) (nI_ge hs (by omega)), fun _ => ⟨l24_nI (by omega) rfl, ?_⟩⟩
    rw [rv.2.1, nI_clamp (by omega), e3.2.2.2.2.2.2.2.2.2.1, show nI N + 4 = nI (N + 4) from nI_add N 4]
    refine ⟨fun u => skip (fun c => u c.1), fun u1 => ⟨fun u2 => ⟨v0 (k := 4) (by decide) rfl rfl, ?_⟩, fun u => skip (fun c => u c.2)⟩⟩
    have stp : gvS W N a b s (T1, nI m) = (goT T1 s (opf T1 W s (N + 4)) 0 4, nI m + nI (cpt (opf T1 W s (N + 4)))) := if_pos ⟨u1, u2⟩
    have st2 : gvS W N a b s (T1, nI m) = (goT T1 s (opf T1 W s (N + 4)) 0 4, nI (m + cpt (opf T1 W s (N + 4)))) := stp.trans (by rw [nI_add])
    have cl := cpt_le (opf T1 W s (N + 4))
    have wf2 : WF (goT T1 s (opf T1 W s (N + 4)) 0 4) W C S A N := by
      obtain ⟨w1, w2, w3, w4, w5, w6, w7, w8, w9, w10, w11, w12, w13, w14⟩ := e3
      have eT : ∀ i, ¬ (62 + 12 * s ≤ i ∧ i < 74 + 12 * s) → goT T1 s (opf T1 W s (N + 4)) 0 4 i = T1 i := fun i h => goT_off _ _ _ (by decide) (by decide) i h
      refine ⟨by rw [eT 0 (by omega)]; exact w1, w2, w3, by rw [eT 1 (by omega)]; exact w4, w5, by rw [eT 2 (by omega)]; exact w6, w7, by rw [eT 3 (by omega)]; exact w8, w9, by rw [eT 4 (by omega)]; exact w10, w11, fun i hi => by rw [eT _ (by omega), eT _ (by omega)]; exact w12 i hi, fun s' hs' => ?_, fun a ha => (w14 a ha).cg (fun k hk => eT _ (by omega))⟩
      by_cases c : s' = s
      · rw [c]; exact w0.go (by decide) (by decide) (by decide) (opf_in w0 hW (by omega))
      · exact (w13 s' hs').cg (fun k hk => eT _ (by omega))
    refine sp_X8_openFrom rv e3 (by omega) (by omega) ⟨fun z => ?_, fun z => ⟨fun z2 => ?_, fun z2 => ?_⟩⟩
    · have c0 : cpt (opf T1 W s (N + 4)) = 0 := by rw [z, cpt_0]
      have e0 : goT T1 s (opf T1 W s (N + 4)) 0 4 = T1 := by rw [z, goT_0 _ _ _ _ (by decide) (by decide) (by decide)]
      rw [nI_1, nI_add]
      by_cases c : m = 0
      · obtain ⟨q1, q2⟩ := e4 c
        refine sp_X8_goes (k := 0) (o := 4) (T := T1) (by rw [q2]; exact q1) (by omega) (by decide) (by decide) (by decide) (fun v2 f2 r2 => ?_)
        refine n1 (goT T1 s (opf T1 W s (N + 4)) 0 4, nI (m + cpt (opf T1 W s (N + 4)))) st2 v2 (m + cpt (opf T1 W s (N + 4))) (f.tr f2) rfl (by omega) wf2 (fun u => ⟨?_, e0.trans q2⟩) (fun u => by omega)
        rw [e0, q2] at r2
        exact r2
      · refine sp_X8_goes (k := 0) (o := 4) (e5 c) (by omega) (by decide) (by decide) (by decide) (fun v2 f2 r2 => ?_)
        exact n1 (goT T1 s (opf T1 W s (N + 4)) 0 4, nI (m + cpt (opf T1 W s (N + 4)))) st2 v2 (m + cpt (opf T1 W s (N + 4))) (f.tr f2) rfl (by omega) wf2 (fun u => by omega) (fun _ => r2)
    · rw [show (0 : Int32) = nI 0 by decide, nI_eq (by omega) (by decide)] at z2
      refine sp_X8_goes (k := 0) (o := 4) (e5 z2) (by omega) (by decide) (by decide) (by decide) (fun v2 f2 r2 => ?_)
      rw [nI_1, nI_add]
      exact n1 (goT T1 s (opf T1 W s (N + 4)) 0 4, nI (m + cpt (opf T1 W s (N + 4)))) st2 v2 (m + cpt (opf T1 W s (N + 4))) (f.tr f2) rfl (by omega) wf2 (fun u => by omega) (fun _ => r2)
    · rw [show (0 : Int32) = nI 0 by decide, nI_eq (by omega) (by decide)] at z2
      obtain ⟨q1, q2⟩ := e4 z2
      subst q2
      refine q1.keeps (fun v3 f3 r3 => sp_X8_goes (k := 0) (o := 4) r3 (by omega) (by decide) (by decide) (by decide) (fun v2 f2 r2 => ?_))
      rw [nI_1, nI_add]
      have cp : ¬ cpt (opf T1 W s (N + 4)) = 0 := fun e => z (cpt_z e)
      exact n1 (goT T1 s (opf T1 W s (N + 4)) 0 4, nI (m + cpt (opf T1 W s (N + 4)))) st2 v2 (m + cpt (opf T1 W s (N + 4))) ((f.tr f3).tr f2) rfl (by omega) wf2 (fun u => by omega) (fun _ => r2)
end
theorem eq_tick : Both mX7_tick mX8_tick [] := by
  intro x R
  obtain ⟨W, C, S, A, N, n, H, ac, rs, nm⟩ := R.ac
  have E := ac.2.2.2.2
  have hn := E.nums
  have hS : S ≤ 24 := hn.2.2.2.2.2.2.1
  have hW : W ≤ 30 := hn.2.2.2.2.1
  have hC : C ≤ 8 := hn.2.2.2.2.2.1
  have hN : N ≤ W := hn.2.2.2.2.2.2.2.2
  refine v_X7_tick_0 k0 R.1.2.1 (ks0 E.1) ?_
  rw [hn.1, hn.2.1, nI_leI (by omega) (by omega)]
  refine ⟨fun z1 => ⟨fun z2 => ac.rem (fun _ _ => rfl) (fun y ay y1 y2 => ⟨ay.2.1.2.1, ?_⟩), fun z2 => sq_X8_tick rs E.2.2.2 (fun u => absurd z1 u) (fun _ _ => ⟨rfl, R⟩) (fun _ u => absurd (by omega) u)⟩, fun z => sq_X8_tick rs E.2.2.2 (fun _ => ⟨rfl, R⟩) (fun u => absurd u z) (fun u => absurd u z)⟩
  rw [ay.2.2.2.2.nums.2.1]
  refine lp_acc (tkS N) (fun s T' => ∀ v, AC x v W C S A N (pn n) T' (push H n (gi x 718)) → GI mX7_tick 38 [some (.ref 0), some (.int (1 <<< (nI N &&& 31))), some (.int (nI s))] [] KW v _) S (gi x 718) ?_ (fun s T' hs n1 => ?_) y ay
  · intro v av
    have hv := av.2.2.2.2.nums
    refine v_X7_tick_38 k0 av.2.1.2.1 (ks0 E.1) av.2.2.2.2.2.1.2.2.1 (ks3 E.1) ⟨fun _ => ?_, fun z => absurd (by rw [hv.2.2.1]; exact Int32.le_refl _) z⟩
    rw [gi_ui, if_pos ⟨rfl, rfl⟩, hv.2.1, nI_1]
    have a2 := av.now (N' := N + 1) (by omega)
    refine sq_X8_tick (a2.rs rs) E.2.2.2 (fun u => absurd z1 u) (fun _ u => by omega) (fun _ _ z f r2 => ⟨rfl, a2.fin R nm (fun c hc => ?_) f r2⟩)
    rw [uT_ne _ _ (by omega)]
    exact tk_off S hS _ (by omega)
  · intro v av
    have hv := av.2.2.2.2.nums
    obtain ⟨p, e1, e2, e3, e4, e5, e6⟩ := av.2.2.2.2.ser hs
    refine v_X7_tick_38 k0 av.2.1.2.1 (ks0 E.1) av.2.2.2.2.2.1.2.2.1 (ks3 E.1) ⟨fun z => absurd (by rw [hv.2.2.1] at z; exact z) (nI_ge hs (by omega)), fun _ => ⟨vp_in_nI (by omega) (by decide), p, by rw [nI_clamp (by omega)]; exact e1, e2, ?_⟩⟩
    rw [e5, nI_1]
    refine n1 _ rfl _ (av.go hs e1 ((EQx.rf v p).ui) (by decide) (by decide) (by decide) and_in (by rw [gi_ui, if_neg (by omega)]) (fun j h1 h2 => ?_))
    rw [gi_ui, so_goT _ _ _ (by decide) (by decide) h1]
    by_cases c : j = 8
    · rw [if_pos ⟨rfl, c⟩, if_pos c, e3.1 8 (by decide) (by decide)]
    · rw [if_neg (fun v => c v.2), if_neg c, if_neg h2]
      exact e3.1 j h1 h2
theorem eq_gives (a b : Int32) : Both mX7_gives mX8_gives [.int a, .int b] := by
  intro x R
  obtain ⟨W, C, S, A, N, n, H, ac, rs, nm⟩ := R.ac
  have E := ac.2.2.2.2
  have hn := E.nums
  have hS : S ≤ 24 := hn.2.2.2.2.2.2.1
  have hW : W ≤ 30 := hn.2.2.2.2.1
  have hC : C ≤ 8 := hn.2.2.2.2.2.1
  have hN : N ≤ W := hn.2.2.2.2.2.2.2.2
  refine v_X7_gives_0 k0 R.1.2.2.1 (by decide) R.1.2.1 (ks0 E.1) ?_
  rw [nm.1, hn.1, hn.2.1, show nI N + 4 = nI (N + 4) from nI_add N 4]
  refine ⟨fun z => sq_X8_gives rs E.2.2.2 (fun _ => ⟨rfl, R⟩) (fun u => absurd u z), fun z1 => ⟨fun z2 => ?_, fun z => sq_X8_gives rs E.2.2.2 (fun _ => ⟨rfl, R⟩) (fun _ u => absurd u z)⟩⟩
  have hb : ¬ b = -1 := by
    intro e
    rw [e] at z2
    exact absurd z2.2.1 (by decide)
  refine lp_acc (gvS W N a b) (fun s t => ∀ v m, t.2 = nI m → m ≤ 32 * s → (∀ i, i < 62 → t.1 i = gi x 718 i) → (m = 0 → AC x v W C S A N n (gi x 718) H ∧ t.1 = gi x 718) → (¬ m = 0 → AC x v W C S A N (pn n) t.1 (push H n (gi x 718))) → GI mX7_gives 38 [some (.ref 0), some (.int a), some (.int b), some (.int (f_bf (nI (N + 4)))), some (.int t.2), some (.int (nI s)), none, none] [] KW v _) S (gi x 718, 0) ?_ (fun s t hs n1 => ?_) x 0 rfl (by omega) (fun _ _ => rfl) (fun _ => ⟨ac, rfl⟩) (fun u => absurd rfl u)
  · intro v m e1 e2 e3 e4 e5
    have hr : ∃ n' T' H', AC x v W C S A N n' T' H' := by
      by_cases c : m = 0
      · exact ⟨_, _, _, (e4 c).1⟩
      · exact ⟨_, _, _, e5 c⟩
    obtain ⟨n', T', H', av⟩ := hr
    have hv := av.2.2.2.2.nums
    refine v_X7_gives_38 k0 av.2.1.2.1 (ks0 E.1) av.2.2.2.2.2.1.2.2.1 (ks3 E.1) ⟨fun _ => ?_, fun z => absurd (by rw [hv.2.2.1]; exact Int32.le_refl _) z⟩
    refine sq_X8_gives (av.rs rs) E.2.2.2 (fun u => absurd ⟨z1, z2⟩ u) (fun _ _ z m' f i1 i2 i3 i4 => ⟨rfl, ?_⟩)
    have em : m' = m := (nI_eq (by omega) (by omega)).mp (i1.symm.trans e1)
    subst em
    by_cases c : m' = 0
    · exact (e4 c).1.fin R nm (fun _ _ => rfl) f (i3 c).1
    · exact (e5 c).fin R nm (fun c hc => e3 _ (by omega)) f (i4 c)
  · obtain ⟨T1, tot⟩ := t
    intro v m (e1 : tot = nI m) e2 (e3 : ∀ i, i < 62 → T1 i = gi x 718 i) (e4 : m = 0 → AC x v W C S A N n (gi x 718) H ∧ T1 = gi x 718) (e5 : ¬ m = 0 → AC x v W C S A N (pn n) T1 (push H n (gi x 718)))
    subst e1
    have hr : ∃ n' H', AC x v W C S A N n' T1 H' := by
      by_cases c : m = 0
      · obtain ⟨q1, q2⟩ := e4 c
        rw [q2]
        exact ⟨n, H, q1⟩
      · exact ⟨_, _, e5 c⟩
    obtain ⟨n', H', av⟩ := hr
    have hv := av.2.2.2.2.nums
    obtain ⟨p, g1, g2, g3, g4, g5, g6⟩ := av.2.2.2.2.ser hs
    refine v_X7_gives_38 k0 av.2.1.2.1 (ks0 E.1) av.2.2.2.2.2.1.2.2.1 (ks3 E.1) ⟨fun z => absurd (by rw [hv.2.2.1] at z; exact z) (nI_ge hs (by omega)), fun _ => ⟨vp_in_nI (by omega) (by decide), p, by rw [nI_clamp (by omega)]; exact g1, g2, ?_⟩⟩
    rw [g3.1 0 (by decide) (by decide), g3.1 1 (by decide) (by decide), g5, ← opf_eq g6 hW (show N + 4 < 100 by omega), nI_1]
    refine ⟨fun u => n1 (T1, nI m) (if_neg (fun c => u ⟨c.1, Or.inr c.2⟩)) v m rfl (by omega) e3 e4 e5, fun u => ?_⟩
    have stp : gvS W N a b s (T1, nI m) = (goT T1 s (opf T1 W s (N + 4)) 0 4, nI m + nI (cpt (opf T1 W s (N + 4)))) := if_pos ⟨u.1, u.2.resolve_left hb⟩
    have st2 : gvS W N a b s (T1, nI m) = (goT T1 s (opf T1 W s (N + 4)) 0 4, nI (m + cpt (opf T1 W s (N + 4)))) := stp.trans (by rw [nI_add])
    have cl := cpt_le (opf T1 W s (N + 4))
    have e3' : ∀ i, i < 62 → goT T1 s (opf T1 W s (N + 4)) 0 4 i = gi x 718 i := fun i hi => by rw [goT_off _ _ _ (by decide) (by decide) i (by omega)]; exact e3 i hi
    refine ⟨fun z => ?_, fun z => ⟨fun z2' => ?_, fun z2' => ?_⟩⟩
    · have e0 : goT T1 s (opf T1 W s (N + 4)) 0 4 = T1 := by rw [z, goT_0 _ _ _ _ (by decide) (by decide) (by decide)]
      have c0 : cpt (opf T1 W s (N + 4)) = 0 := by rw [z, cpt_0]
      refine n1 (T1, nI m) (stp.trans ?_) v m rfl (by omega) e3 e4 e5
      rw [e0, c0, nI_0, Int32.add_zero]
    · rw [nI_z (by omega)] at z2'
      rw [nI_add]
      exact n1 (goT T1 s (opf T1 W s (N + 4)) 0 4, nI (m + cpt (opf T1 W s (N + 4)))) st2 _ (m + cpt (opf T1 W s (N + 4))) rfl (by omega) e3' (fun u => by omega) (fun _ => (e5 z2').giv hs (by omega) g1)
    · rw [nI_z (by omega)] at z2'
      obtain ⟨q1, q2⟩ := e4 z2'
      subst q2
      refine q1.rem (fun _ _ => rfl) (fun y ay y1 y2 => ?_)
      rw [nI_add]
      have cp : ¬ cpt (opf (gi x 718) W s (N + 4)) = 0 := fun e => z (cpt_z e)
      exact n1 (goT (gi x 718) s (opf (gi x 718) W s (N + 4)) 0 4, nI (m + cpt (opf (gi x 718) W s (N + 4)))) st2 _ (m + cpt (opf (gi x 718) W s (N + 4))) rfl (by omega) e3' (fun u => by omega) (fun _ => ay.giv hs (by omega) ((y2 5 s (by decide)).trans g1))
end

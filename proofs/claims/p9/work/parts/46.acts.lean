def uT (T : TT) (k : Nat) (v : Int32) : TT := fun i => if i = k then v else T i
theorem gi_718 (x : Cn) (k : Nat) (v : Int32) : gi (ui x 718 k v) 718 = uT (gi x 718) k v := by
  funext i
  rw [gi_ui]
  unfold uT
  by_cases c : i = k
  · rw [if_pos ⟨rfl, c⟩, if_pos c]
  · rw [if_neg (fun z => c z.2), if_neg c]
theorem uT_at (T : TT) (k : Nat) (v : Int32) : uT T k v k = v := if_pos rfl
theorem uT_ne (T : TT) {k i : Nat} (v : Int32) (h : i ≠ k) : uT T k v i = T i := if_neg h
theorem so_uT (T : TT) (s k s' k' : Nat) (v : Int32) (hk : k < 12) (hk' : k' < 12) : so (uT T (62 + 12 * s + k) v) s' k' = if s' = s ∧ k' = k then v else so T s' k' := by
  unfold so uT
  by_cases c : s' = s ∧ k' = k
  · rw [if_pos c, if_pos (by rw [c.1, c.2])]
  · rw [if_neg c, if_neg (by omega)]
/-- a series changes -/
theorem SEA.upS {x y : Cn} {q : Nat} {T T' : TT} {W C S A N s p : Nat} (E : SEA x q T W C S A N) (hs : s < S) (hp : gr x (q + 3) s = some p) (f : EQx x y p) (hT : ∀ i, i < 518 → ¬ (62 + 12 * s ≤ i ∧ i < 74 + 12 * s) → T' i = T i) (hS : SER y p T' s) (hw : Wse T' C W s) : SEA y q T' W C S A N := by
  obtain ⟨e1, e2, ⟨v0, v1, v2, v3, v4, v5, v6, v7⟩, w1, w2, w3, w4, w5, w6, w7, w8, w9, w10, w11, w12, w13, w14⟩ := E
  have hg : ∀ b k, gr y b k = gr x b k := fun b k => by unfold gr; rw [f.1]
  obtain ⟨r1, r2, r3, r4, r5, r6, r7, r8, r9⟩ := id e2
  obtain ⟨j, hj, ej⟩ := r6 s (by omega)
  have ep : p = q + 6 + j := Option.some.inj (hp.symm.trans ej)
  refine ⟨e1, e2.keep f.1, ⟨?_, ?_, ?_, ?_, ?_, ?_, ?_, ?_⟩, ?_⟩
  · rw [f.2 q 0 (by omega), hT 0 (by decide) (by omega)]; exact v0
  · rw [f.2 q 1 (by omega), hT 4 (by decide) (by omega)]; exact v1
  · rw [f.2 q 2 (by omega), hT 5 (by decide) (by omega)]; exact v2
  · rw [f.2 q 3 (by omega), hT 2 (by decide) (by omega)]; exact v3
  · rw [f.2 q 4 (by omega), hT 3 (by decide) (by omega)]; exact v4
  · intro h hh
    rw [f.2 (q + 1) h (by omega), f.2 (q + 2) h (by omega), hT _ (by omega) (by omega), hT _ (by omega) (by omega)]
    exact v5 h hh
  · intro s' p' hs' hp'
    rw [hg] at hp'
    by_cases c : s' = s
    · rw [c] at hp' ⊢
      have : p' = p := Option.some.inj (hp'.symm.trans hp)
      rw [this]
      exact hS
    · have hne : p' ≠ p := fun e => c (r7 s' s (by omega) (by omega) (by rw [hp', hp, e]))
      exact (v6 s' p' hs' hp').cg (fun k _ => f.2 p' k hne) (fun k hk => hT _ (by omega) (by omega))
  · intro a p' ha hp'
    rw [hg] at hp'
    obtain ⟨j', hj', ej'⟩ := r8 a (by omega)
    have ep' : p' = q + 30 + j' := Option.some.inj (hp'.symm.trans ej')
    exact (v7 a p' ha hp').cg (fun k _ => f.2 p' k (by omega)) (fun k hk => hT _ (by omega) (by omega))
  · refine ⟨by rw [hT 0 (by decide) (by omega)]; exact w1, w2, w3, by rw [hT 1 (by decide) (by omega)]; exact w4, w5, by rw [hT 2 (by decide) (by omega)]; exact w6, w7, by rw [hT 3 (by decide) (by omega)]; exact w8, w9, by rw [hT 4 (by decide) (by omega)]; exact w10, w11, fun h hh => by rw [hT _ (by omega) (by omega), hT _ (by omega) (by omega)]; exact w12 h hh, fun s' hs' => ?_, fun a ha => (w14 a ha).cg (fun k hk => hT _ (by omega) (by omega))⟩
    by_cases c : s' = s
    · rw [c]; exact hw
    · exact (w13 s' hs').cg (fun k hk => hT _ (by omega) (by omega))
/-! weeks go from one kind to another -/
def goT (T : TT) (s : Nat) (w : Int32) (k o : Nat) : TT := uT (uT T (62 + 12 * s + (7 + k)) (so T s (7 + k) &&& (w ^^^ (-1)))) (62 + 12 * s + (7 + o)) (so T s (7 + o) ||| w)
theorem so_goT (T : TT) (s : Nat) (w : Int32) {k o : Nat} (hk : k < 5) (ho : o < 5) {j : Nat} (hj : j < 12) : so (goT T s w k o) s j = if j = 7 + o then so T s (7 + o) ||| w else if j = 7 + k then so T s (7 + k) &&& (w ^^^ (-1)) else so T s j := by
  unfold goT
  rw [so_uT _ _ _ _ _ _ (by omega) hj, so_uT _ _ _ _ _ _ (by omega) hj]
  by_cases c : j = 7 + o
  · rw [if_pos ⟨rfl, c⟩, if_pos c]
  · rw [if_neg (fun z => c z.2), if_neg c]
    by_cases d : j = 7 + k
    · rw [if_pos ⟨rfl, d⟩, if_pos d]
    · rw [if_neg (fun z => d z.2), if_neg d]
theorem goT_off (T : TT) (s : Nat) (w : Int32) {k o : Nat} (hk : k < 5) (ho : o < 5) (i : Nat) (h : ¬ (62 + 12 * s ≤ i ∧ i < 74 + 12 * s)) : goT T s w k o i = T i := by
  unfold goT
  rw [uT_ne _ _ (by omega), uT_ne _ _ (by omega)]
theorem tb_all (T : TT) (s i : Nat) : tb (bas T s ||| so T s 11) i = true ↔ ∃ j, j < 5 ∧ tb (so T s (7 + j)) i = true := by
  rw [tb_or, tb_bas]
  simp only [Bool.or_eq_true]
  constructor
  · rintro ((((h | h) | h) | h) | h)
    · exact ⟨0, by decide, h⟩
    · exact ⟨1, by decide, h⟩
    · exact ⟨2, by decide, h⟩
    · exact ⟨3, by decide, h⟩
    · exact ⟨4, by decide, h⟩
  · rintro ⟨j, hj, h⟩
    have : j = 0 ∨ j = 1 ∨ j = 2 ∨ j = 3 ∨ j = 4 := by omega
    rcases this with rfl | rfl | rfl | rfl | rfl
    · exact Or.inl (Or.inl (Or.inl (Or.inl h)))
    · exact Or.inl (Or.inl (Or.inl (Or.inr h)))
    · exact Or.inl (Or.inl (Or.inr h))
    · exact Or.inl (Or.inr h)
    · exact Or.inr h
theorem tb_goT {T : TT} {s : Nat} {w : Int32} {k o i : Nat} (hk : k < 5) (ho : o < 5) (hi : i < 32) {j : Nat} (hj : j < 5) : tb (so (goT T s w k o) s (7 + j)) i = if j = o then (tb (so T s (7 + o)) i || tb w i) else if j = k then (tb (so T s (7 + k)) i && !tb w i) else tb (so T s (7 + j)) i := by
  rw [so_goT T s w hk ho (by omega)]
  by_cases c : j = o
  · rw [if_pos (by omega), if_pos c, tb_or]
  · rw [if_neg (by omega), if_neg c]
    by_cases d : j = k
    · rw [if_pos (by omega), if_pos d, tb_and, tb_not _ hi]
    · rw [if_neg (by omega), if_neg d]
theorem all_goT {T : TT} {s : Nat} {w : Int32} {k o : Nat} (hk : k < 5) (ho : o < 5) (hko : k ≠ o) (hw : ∀ i, i < 32 → tb w i = true → tb (so T s (7 + k)) i = true) : bas (goT T s w k o) s ||| so (goT T s w k o) s 11 = bas T s ||| so T s 11 := by
  apply tb_ext
  intro i hi
  rw [Bool.eq_iff_iff, tb_all, tb_all]
  constructor
  · rintro ⟨j, hj, h⟩
    rw [tb_goT hk ho hi hj] at h
    by_cases c : j = o
    · rw [if_pos c, Bool.or_eq_true] at h
      rcases h with h | h
      · exact ⟨o, ho, h⟩
      · exact ⟨k, hk, hw i hi h⟩
    · rw [if_neg c] at h
      by_cases d : j = k
      · rw [if_pos d, Bool.and_eq_true] at h
        exact ⟨k, hk, h.1⟩
      · rw [if_neg d] at h
        exact ⟨j, hj, h⟩
  · rintro ⟨j, hj, h⟩
    by_cases u : tb w i = true
    · exact ⟨o, ho, by rw [tb_goT hk ho hi ho, if_pos rfl, u, Bool.or_true]⟩
    · refine ⟨j, hj, ?_⟩
      rw [tb_goT hk ho hi hj]
      by_cases c : j = o
      · rw [if_pos c, ← c, h, Bool.true_or]
      · rw [if_neg c]
        by_cases d : j = k
        · rw [if_pos d, ← d, h, Bool.eq_false_iff.mpr u]; rfl
        · rw [if_neg d]; exact h
theorem Wse.go {T : TT} {C W s : Nat} {w : Int32} {k o : Nat} (g : Wse T C W s) (hk : k < 5) (ho : o < 5) (hko : k ≠ o) (hw : ∀ i, i < 32 → tb w i = true → tb (so T s (7 + k)) i = true) : Wse (goT T s w k o) C W s := by
  obtain ⟨g1, g2, g3, g4, g5, g6, g7, g8⟩ := g
  have lo : ∀ j, j < 7 → so (goT T s w k o) s j = so T s j := fun j hj => by rw [so_goT T s w hk ho (by omega), if_neg (by omega), if_neg (by omega)]
  have src : ∀ i j, j < 5 → i < 32 → tb (so (goT T s w k o) s (7 + j)) i = true → (tb w i = true ∧ j = o) ∨ (tb (so T s (7 + j)) i = true ∧ (j = k → ¬ tb w i = true)) := by
    intro i j hj hi h
    rw [tb_goT hk ho hi hj] at h
    by_cases c : j = o
    · rw [if_pos c, Bool.or_eq_true] at h
      rcases h with h | h
      · exact Or.inr ⟨by rw [c]; exact h, fun e => absurd (e.symm.trans c) hko⟩
      · exact Or.inl ⟨h, c⟩
    · rw [if_neg c] at h
      by_cases d : j = k
      · rw [if_pos d, Bool.and_eq_true, Bool.not_eq_true'] at h
        exact Or.inr ⟨by rw [d]; exact h.1, fun _ e => by rw [h.2] at e; cases e⟩
      · rw [if_neg d] at h
        exact Or.inr ⟨h, fun e => absurd e d⟩
  refine ⟨by rw [lo 0 (by decide)]; exact g1, by rw [lo 1 (by decide)]; exact g2, by rw [lo 2 (by decide)]; exact g3, by rw [lo 3 (by decide)]; exact g4, by rw [lo 4 (by decide)]; exact g5, by rw [lo 5 (by decide), lo 6 (by decide)]; exact g6, fun i hi a b ha hb h1 h2 => ?_, fun i a ha h => ?_⟩
  · rcases src i a ha hi h1 with ⟨u1, u2⟩ | ⟨u1, u2⟩ <;> rcases src i b hb hi h2 with ⟨u3, u4⟩ | ⟨u3, u4⟩
    · omega
    · have := g7 i hi k b hk hb (hw i hi u1) u3
      exact absurd u1 (u4 this.symm)
    · have := g7 i hi k a hk ha (hw i hi u3) u1
      exact absurd u3 (u2 this.symm)
    · exact g7 i hi a b ha hb u1 u3
  · by_cases hi : i < 32
    · rcases src i a ha hi h with ⟨u1, u2⟩ | ⟨u1, u2⟩
      · exact g8 i k hk (hw i hi u1)
      · exact g8 i a ha u1
    · rw [tb_ge _ (by omega)] at h
      cases h
/-! what class and reference show between their acts -/
def AC (x y : Cn) (W C S A N n : Nat) (T : TT) (H : Nat → TT) : Prop := CFr x y ∧ CRf y ∧ MRf y 718 ∧ Hs y C (gi x 718) n H ∧ SEA y 2 T W C S A N
def RS (z : Cn) (T : TT) (n : Nat) (H : Nat → TT) : Prop := MRf z 718 ∧ gi z 718 = T ∧ gi z 717 19 = nI n ∧ n ≤ 10 ∧ ∀ j, j < n → ∀ i, i < 518 → gi z 724 (518 * j + i) = H j i
theorem Rel.ac {x : Cn} (R : Rel x) : ∃ W C S A N n H, AC x x W C S A N n (gi x 718) H ∧ RS x (gi x 718) n H ∧ NMr x 56 (gi x 718) C := by
  obtain ⟨W, C, S, A, N, E, nm, hs⟩ := R.sea
  obtain ⟨n, hh, h19⟩ := hs.hs
  exact ⟨W, C, S, A, N, n, _, ⟨CFr.rf x, R.1, R.2.1, hh, E⟩, ⟨R.2.1, rfl, h19, hh.2.1, fun _ _ _ _ => rfl⟩, nm⟩
theorem AC.rs {x y : Cn} {W C S A N n m : Nat} {T T0 : TT} {H H0 : Nat → TT} (a : AC x y W C S A N n T H) (r : RS x T0 m H0) : RS y T0 m H0 := by
  have e : ∀ b k, 717 ≤ b → gi y b k = gi x b k := fun b k hb => a.1 b k (by omega) (by omega) (by omega) (by omega)
  exact ⟨a.2.2.1, by rw [show gi y 718 = gi x 718 from funext (fun k => e 718 k (by decide))]; exact r.2.1, by rw [e _ _ (by decide)]; exact r.2.2.1, r.2.2.2.1, fun j hj i hi => by rw [e _ _ (by decide)]; exact r.2.2.2.2 j hj i hi⟩
theorem AC.fin {x y z : Cn} {W C S A N n : Nat} {T : TT} {H : Nat → TT} (R : Rel x) (nm : NMr x 56 (gi x 718) C) (a : AC x y W C S A N n T H) (hT : ∀ c, c < C → T (54 + c) = gi x 718 (54 + c)) (f : RFr y z) (r : RS z T n H) : Rel z :=
  R.fin nm a.1 a.2.1 a.2.2.2.1 a.2.2.2.2 hT a.2.2.1 f r.2.2.1 r.2.2.2.2 (fun i _ => congrFun r.2.1 i)
/-- the landed one's season alone changes -/
theorem AC.up {x y z : Cn} {W C S A N W' S' A' N' n : Nat} {T T' : TT} {H : Nat → TT} (a : AC x y W C S A N n T H) (h1 : ∀ b k, ¬ (2 ≤ b ∧ b < 56) → gi z b k = gi y b k) (h2 : z.2 = y.2) (E : SEA z 2 T' W' C S' A' N') : AC x z W' C S' A' N' n T' H :=
  ⟨fun b k a1 a2 a3 a4 => (h1 b k a1).trans (a.1 b k a1 a2 a3 a4), a.2.1.keep h2, a.2.2.1.keep h2, a.2.2.2.1.mv a.2.1 (h1 0 5 (by omega)) (fun b k g1 g2 => h1 b k (by omega)) (fun b k _ => by unfold gr; rw [h2]) (fun _ _ => rfl), E⟩
theorem AC.e7 {x y z : Cn} {W C S A N n : Nat} {T : TT} {H : Nat → TT} (a : AC x y W C S A N n T H) (h : EQx y z 7) : AC x z W C S A N n T H := a.up (fun b k g => h.2 b k (by omega)) h.1 (a.2.2.2.2.eqx h (Or.inl rfl))
theorem AC.ser {x y z : Cn} {W C S A N n s p : Nat} {T T' : TT} {H : Nat → TT} (a : AC x y W C S A N n T H) (hs : s < S) (hp : gr y 5 s = some p) (f : EQx y z p) (hT : ∀ i, i < 518 → ¬ (62 + 12 * s ≤ i ∧ i < 74 + 12 * s) → T' i = T i) (hS : SER z p T' s) (hw : Wse T' C W s) : AC x z W C S A N n T' H := by
  have E := a.2.2.2.2
  have hS24 : S ≤ 24 := E.nums.2.2.2.2.2.2.1
  obtain ⟨j, hj, ej⟩ := E.2.1.2.2.2.2.2.1 s (by omega)
  have ep : p = 2 + 6 + j := Option.some.inj (hp.symm.trans ej)
  exact a.up (fun b k g => f.2 b k (by omega)) f.1 (E.upS hs hp f hT hS hw)
theorem AC.rem {x y : Cn} {Q : Cn → Prop} {W C S A N n : Nat} {T : TT} {H : Nat → TT} (a : AC x y W C S A N n T H) (hT : ∀ c, c < C → T (54 + c) = gi x 718 (54 + c)) (k : ∀ z, AC x z W C S A N (pn n) T (push H n T) → (∀ b j, 2 ≤ b → b < 56 → gi z b j = gi y b j) → (∀ b j, b ≠ 58 → gr z b j = gr y b j) → Q z) : mSV mX7_remember [.ref 0] KW y Q := by
  obtain ⟨a1, a2, a3, a4, a5⟩ := a
  have a4' : Hs y C T n H := ⟨a4.1, a4.2.1, fun j hj => by
    obtain ⟨q, W2, S2, A2, N2, q1, q2, q3⟩ := a4.2.2 j hj
    exact ⟨q, W2, S2, A2, N2, q1, q2, fun c hc => (q3 c hc).trans (hT c hc).symm⟩⟩
  refine sp_X7_remember a2 a5 a4' (fun z z1 z2 z3 z4 => k z ⟨fun b j b1 b2 b3 b4 => (z2 b j b3 b4).trans (a1 b j b1 b2 b3 b4), z1, ?_, ?_, a5.mv (fun b j g1 g2 => z3 b j (by omega)) (fun b j g1 g2 _ => z2 b j (by omega) (by omega)) (fun _ _ => rfl)⟩ (fun b j g1 g2 => z2 b j (by omega) (by omega)) z3)
  · unfold MRf at a3 ⊢
    simp only [z3 717 _ (by decide)]
    exact a3
  · exact ⟨z4.1, z4.2.1, fun j hj => by
      obtain ⟨q, W2, S2, A2, N2, q1, q2, q3⟩ := z4.2.2 j hj
      exact ⟨q, W2, S2, A2, N2, q1, q2, fun c hc => (q3 c hc).trans (hT c hc)⟩⟩
theorem RS.keeps {x : Cn} {Q : Cn → Prop} {n : Nat} {T : TT} {H : Nat → TT} (r : RS x T n H) (k : ∀ y, RFr x y → RS y T (pn n) (push H n T) → Q y) : mSV mX8_keeps [.ref 717] KW x Q := by
  obtain ⟨r1, r2, r3, r4, r5⟩ := r
  refine sp_X8_keeps r1 r4 r3 (fun y f y1 y2 y3 => k y f ⟨r1.keep f.1, ?_, y2, ?_, fun j hj i hi => ?_⟩)
  · rw [← r2]
    funext i
    exact y1 718 i (by decide) (by omega)
  · unfold pn
    by_cases c : n = 10
    · rw [if_pos c]; exact Nat.le_refl _
    · rw [if_neg c]; omega
  · rw [y3 j hj i hi, r2]
    unfold pn at hj
    unfold push
    by_cases c : n = 10
    · rw [if_pos c] at hj
      rw [if_pos c, if_pos c]
      by_cases d : j = 9
      · rw [if_pos d, if_pos d]
      · rw [if_neg d, if_neg d]
        exact r5 (j + 1) (by omega) i hi
    · rw [if_neg c] at hj
      rw [if_neg c, if_neg c]
      by_cases d : j = n
      · rw [if_pos d, if_pos d]
      · rw [if_neg d, if_neg d]
        exact r5 j (by omega) i hi
theorem RS.u8 {x : Cn} {n k : Nat} {T : TT} {H : Nat → TT} {v : Int32} (r : RS x T n H) : RS (ui x 718 k v) (uT T k v) n H := by
  obtain ⟨r1, r2, r3, r4, r5⟩ := r
  exact ⟨r1.keep rfl, by rw [gi_718, r2], by rw [gi_ui, if_neg (by omega)]; exact r3, r4, fun j hj i hi => by rw [gi_ui, if_neg (by omega)]; exact r5 j hj i hi⟩
set_option maxHeartbeats 2000000 in
theorem v_X8_lays_0 {K : Sh} {x : Cn} {Q : Cn → Prop} {b0 : Nat} {l1 : Int32} {l2 : Int32} {l3 : Int32} {b0_3 : Nat} {n_b0_3 : Nat} (k_b0 : kk K b0 = some (8, 0)) (g_b0_3 : gr x b0 3 = some b0_3) (k_b0_3 : kk K b0_3 = some (20, n_b0_3)) (K0 : vp_in ((62 + (12 * l1)) + l2) n_b0_3 ∧ (Q (ui x b0_3 (((62 + (12 * l1)) + l2) : Int32).toNatClampNeg l3))) : mSV mX8_lays [.ref b0, .int l1, .int l2, .int l3] K x Q := by
  refine s_V (by decide) (by simp [Value.category]) (Nat.le_of_ble_eq_true rfl) ?_
  show mGM mX8_lays 0 [some (.ref b0), some (.int l1), some (.int l2), some (.int l3)] [] (hp K x) (PV K Q)
  refine r_aload_n (pc := 0) dX8_lays_0 rfl ?_
  refine s_getR (pc := 1) dX8_lays_1 fl_X8_16 rfl k_b0 g_b0_3 ?_
  refine r_bipush (pc := 4) (v := 62) dX8_lays_4 (by decide) ?_
  refine r_bipush (pc := 6) (v := 12) dX8_lays_6 (by decide) ?_
  refine r_iload_n (pc := 8) dX8_lays_8 rfl ?_
  refine r_imul (pc := 9) dX8_lays_9 ?_
  refine r_iadd (pc := 10) dX8_lays_10 ?_
  refine r_iload_n (pc := 11) dX8_lays_11 rfl ?_
  refine r_iadd (pc := 12) dX8_lays_12 ?_
  refine r_iload_n (pc := 13) dX8_lays_13 rfl ?_
  obtain ⟨i_1, K0⟩ := K0
  refine s_iast (pc := 14) dX8_lays_14 k_b0_3 i_1 ?_
  exact s_ret rfl dX8_lays_15 K0
section
theorem sp_X8_lays {x : Cn} {Q : Cn → Prop} {t s k : Nat} {v : Int32} (M : MRf x t) (ht : kk KW t = some (20, 518)) (hs : s < 24) (hk : k < 12) (q : Q (ui x t (62 + 12 * s + k) v)) : mSV mX8_lays [.ref 717, .int (nI s), .int (nI k), .int v] KW x Q := by
  refine v_X8_lays_0 km M.2.2.1 ht ⟨iv1 hs k rfl hk, ?_⟩
  rw [ic1 hs k rfl hk]
  exact q
end
set_option maxHeartbeats 2000000 in
theorem v_X8_goes_0 {K : Sh} {x : Cn} {Q : Cn → Prop} {b0 : Nat} {l1 : Int32} {l2 : Int32} {l3 : Int32} {l4 : Int32} {b0_3 : Nat} {n_b0_3 : Nat} (k_b0 : kk K b0 = some (8, 0)) (g_b0_3 : gr x b0 3 = some b0_3) (k_b0_3 : kk K b0_3 = some (20, n_b0_3)) (K0 : (l24 l1 n_b0_3) ∧ ((l12 (7 + l3)) ∧ (mSV mX8_lays [.ref b0, .int l1, .int (7 + l3), .int ((so (gi x b0_3) (l1 : Int32).toNatClampNeg ((7 + l3) : Int32).toNatClampNeg) &&& (l2 ^^^ (-1)))] K x (fun y_3 => gr y_3 b0 3 = some b0_3 ∧ ((l12 (7 + l4)) ∧ (mSV mX8_lays [.ref b0, .int l1, .int (7 + l4), .int ((so (gi y_3 b0_3) (l1 : Int32).toNatClampNeg ((7 + l4) : Int32).toNatClampNeg) ||| l2)] K y_3 (fun y_6 => Q y_6))))))) : mSV mX8_goes [.ref b0, .int l1, .int l2, .int l3, .int l4] K x Q := by
  refine s_V (by decide) (by simp [Value.category]) (Nat.le_of_ble_eq_true rfl) ?_
  show mGM mX8_goes 0 [some (.ref b0), some (.int l1), some (.int l2), some (.int l3), some (.int l4)] [] (hp K x) (PV K Q)
  refine r_aload_n (pc := 0) dX8_goes_0 rfl ?_
  refine r_iload_n (pc := 1) dX8_goes_1 rfl ?_
  refine r_bipush (pc := 2) (v := 7) dX8_goes_2 (by decide) ?_
  refine r_iload_n (pc := 4) dX8_goes_4 rfl ?_
  refine r_iadd (pc := 5) dX8_goes_5 ?_
  refine r_aload_n (pc := 6) dX8_goes_6 rfl ?_
  refine r_iload_n (pc := 7) dX8_goes_7 rfl ?_
  refine r_bipush (pc := 8) (v := 7) dX8_goes_8 (by decide) ?_
  refine r_iload_n (pc := 10) dX8_goes_10 rfl ?_
  refine r_iadd (pc := 11) dX8_goes_11 ?_
  obtain ⟨p_1, K0⟩ := K0
  obtain ⟨p_2, K0⟩ := K0
  refine s_VI (pc := 12) mX8_one (ci := 8) (a := b0) (As := [.int l1, .int (7 + l3)]) dX8_goes_12 lk_X8_67 in_X8_one mo_X8_one ⟨by decide, rfl⟩ ⟨by decide, by decide⟩ (Nat.le_of_ble_eq_true rfl) k_b0 (sr_X8_one k_b0 g_b0_3 k_b0_3 p_1 p_2 ?_)
  refine r_iload_n (pc := 15) dX8_goes_15 rfl ?_
  refine r_iconst (pc := 16) (v := (-1)) dX8_goes_16 (by decide) ?_
  refine r_ixor (pc := 17) dX8_goes_17 ?_
  refine r_iand (pc := 18) dX8_goes_18 ?_
  refine s_VV (pc := 19) mX8_lays (ci := 8) (a := b0) (As := [.int l1, .int (7 + l3), .int ((so (gi x b0_3) (l1 : Int32).toNatClampNeg ((7 + l3) : Int32).toNatClampNeg) &&& (l2 ^^^ (-1)))]) dX8_goes_19 lk_X8_230 in_X8_lays mo_X8_lays ⟨by decide, rfl⟩ ⟨by decide, by decide⟩ (Nat.le_of_ble_eq_true rfl) k_b0 (mSV_mono K0 (fun y_3 K0 => ?_))
  refine r_aload_n (pc := 22) dX8_goes_22 rfl ?_
  refine r_iload_n (pc := 23) dX8_goes_23 rfl ?_
  refine r_bipush (pc := 24) (v := 7) dX8_goes_24 (by decide) ?_
  refine r_iload (pc := 26) dX8_goes_26 rfl ?_
  refine r_iadd (pc := 28) dX8_goes_28 ?_
  refine r_aload_n (pc := 29) dX8_goes_29 rfl ?_
  refine r_iload_n (pc := 30) dX8_goes_30 rfl ?_
  refine r_bipush (pc := 31) (v := 7) dX8_goes_31 (by decide) ?_
  refine r_iload (pc := 33) dX8_goes_33 rfl ?_
  refine r_iadd (pc := 35) dX8_goes_35 ?_
  obtain ⟨g_4, K0⟩ := K0
  obtain ⟨p_5, K0⟩ := K0
  refine s_VI (pc := 36) mX8_one (ci := 8) (a := b0) (As := [.int l1, .int (7 + l4)]) dX8_goes_36 lk_X8_67 in_X8_one mo_X8_one ⟨by decide, rfl⟩ ⟨by decide, by decide⟩ (Nat.le_of_ble_eq_true rfl) k_b0 (sr_X8_one k_b0 g_4 k_b0_3 p_1 p_5 ?_)
  refine r_iload_n (pc := 39) dX8_goes_39 rfl ?_
  refine r_ior (pc := 40) dX8_goes_40 ?_
  refine s_VV (pc := 41) mX8_lays (ci := 8) (a := b0) (As := [.int l1, .int (7 + l4), .int ((so (gi y_3 b0_3) (l1 : Int32).toNatClampNeg ((7 + l4) : Int32).toNatClampNeg) ||| l2)]) dX8_goes_41 lk_X8_230 in_X8_lays mo_X8_lays ⟨by decide, rfl⟩ ⟨by decide, by decide⟩ (Nat.le_of_ble_eq_true rfl) k_b0 (mSV_mono K0 (fun y_6 K0 => ?_))
  exact s_ret rfl dX8_goes_44 K0
section
theorem sp_X8_goes {x : Cn} {Q : Cn → Prop} {n s k o : Nat} {T : TT} {H : Nat → TT} {w : Int32} (r : RS x T n H) (hs : s < 24) (hk : k < 5) (ho : o < 5) (hko : k ≠ o) (q : ∀ y, RFr x y → RS y (goT T s w k o) n H → Q y) : mSV mX8_goes [.ref 717, .int (nI s), .int w, .int (nI k), .int (nI o)] KW x Q := by
  have M := r.1
  have e7 : ∀ j, (7 : Int32) + nI j = nI (7 + j) := fun j => by rw [show (7 : Int32) = nI 7 by decide, nI_add]
  have l7 : ∀ j, j < 5 → l12 (nI (7 + j)) := fun j hj => ⟨nI_pos' (by omega), nI_lt (b := 12) (by omega) (by decide)⟩
  refine v_X8_goes_0 km M.2.2.1 km1 ⟨l24_nI hs rfl, ?_⟩
  rw [e7, e7, nI_clamp (by omega), nI_clamp (by omega), nI_clamp (by omega), r.2.1]
  refine ⟨l7 k hk, sp_X8_lays M km1 hs (by omega) ⟨M.2.2.1, l7 o ho, ?_⟩⟩
  rw [gi_718, r.2.1, so_uT _ _ _ _ _ _ (by omega) (by omega), if_neg (by omega)]
  exact sp_X8_lays (M.keep rfl) km1 hs (by omega) (q _ (RFr.rf x).u8.u8 r.u8.u8)
theorem stt_tb {T : TT} {s w k : Nat} (hk : k < 5) (h : stt T s w = nI k) : tb (so T s (7 + k)) w = true := by
  unfold stt at h
  simp only [lpR] at h
  have hn : ∀ j : Nat, j < 5 → nI j = nI k → j = k := fun j hj e => (nI_eq (by omega) (by omega)).mp e
  by_cases c0 : tb (so T s (7 + 0)) w = true
  · rw [if_pos c0] at h
    rw [← hn 0 (by decide) h]; exact c0
  rw [if_neg c0] at h
  by_cases c1 : tb (so T s (7 + (0 + 1))) w = true
  · simp only [c1, if_true] at h
    rw [← hn 1 (by decide) h]; exact c1
  simp only [c1, if_false] at h
  by_cases c2 : tb (so T s (7 + (0 + 1 + 1))) w = true
  · simp only [c2, if_true] at h
    rw [← hn 2 (by decide) h]; exact c2
  simp only [c2, if_false] at h
  by_cases c3 : tb (so T s (7 + (0 + 1 + 1 + 1))) w = true
  · simp only [c3, if_true] at h
    rw [← hn 3 (by decide) h]; exact c3
  simp only [c3, if_false] at h
  by_cases c4 : tb (so T s (7 + (0 + 1 + 1 + 1 + 1))) w = true
  · simp only [c4, if_true] at h
    rw [← hn 4 (by decide) h]; exact c4
  simp only [c4, if_false] at h
  exact absurd (h ▸ nI_pos (n := k) (by omega)) (fun z => z (by decide))

end

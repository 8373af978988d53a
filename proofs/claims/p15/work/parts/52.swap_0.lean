/-- day, hour and way of two series change over, fields below m -/
def swK (T : TT) (s t m : Nat) : TT := fun i => if 63 + 12 * s ≤ i ∧ i < 62 + 12 * s + m then T (i - 12 * s + 12 * t) else if 63 + 12 * t ≤ i ∧ i < 62 + 12 * t + m then T (i - 12 * t + 12 * s) else T i
abbrev swT (T : TT) (s t : Nat) : TT := swK T s t 4
theorem so_swS {T : TT} {s t m k : Nat} (hm : m ≤ 4) (h1 : 1 ≤ k) (hk : k < m) : so (swK T s t m) s k = so T t k := by
  unfold so swK
  rw [if_pos (by omega)]
  congr 1
  omega
theorem so_swS' {T : TT} {s t m k : Nat} (hst : s ≠ t) (hm : m ≤ 4) (h1 : 1 ≤ k) (hk : k < m) : so (swK T s t m) t k = so T s k := by
  unfold so swK
  rw [if_neg (by omega), if_pos (by omega)]
  congr 1
  omega
theorem so_swN {T : TT} {s t m j k : Nat} (hm : m ≤ 4) (hk : k < 12) (h : (j ≠ s ∧ j ≠ t) ∨ k = 0 ∨ m ≤ k) : so (swK T s t m) j k = so T j k := by
  unfold so swK
  rw [if_neg (by omega), if_neg (by omega)]
theorem swK_off {T : TT} {s t m i : Nat} (hs : s < 24) (ht : t < 24) (hm : m ≤ 4) (h : i < 62 ∨ 350 ≤ i) : swK T s t m i = T i := by
  unfold swK
  rw [if_neg (by omega), if_neg (by omega)]
theorem swT_swT {T : TT} {s t : Nat} (hst : s ≠ t) : swT (swT T s t) s t = T := by
  funext i
  show (if 63 + 12 * s ≤ i ∧ i < 62 + 12 * s + 4 then swK T s t 4 (i - 12 * s + 12 * t) else if 63 + 12 * t ≤ i ∧ i < 62 + 12 * t + 4 then swK T s t 4 (i - 12 * t + 12 * s) else swK T s t 4 i) = T i
  unfold swK
  by_cases c1 : 63 + 12 * s ≤ i ∧ i < 62 + 12 * s + 4
  · rw [if_pos c1, if_neg (by omega), if_pos (by omega)]
    congr 1
    omega
  · rw [if_neg c1]
    by_cases c2 : 63 + 12 * t ≤ i ∧ i < 62 + 12 * t + 4
    · rw [if_pos c2, if_pos (by omega)]
      congr 1
      omega
    · rw [if_neg c2, if_neg c1, if_neg c2]
theorem Wse.mix {T T' : TT} {C W a b j : Nat} (wa : Wse T C W a) (wb : Wse T C W b) (h0 : ∀ k, k < 12 → k = 0 ∨ 4 ≤ k → so T' j k = so T a k) (h1 : ∀ k, 1 ≤ k → k ≤ 3 → so T' j k = so T b k) : Wse T' C W j := by
  obtain ⟨a1, -, -, -, a5, a6, a7, a8⟩ := wa
  obtain ⟨-, b2, b3, b4, -, -, -, -⟩ := wb
  refine ⟨by rw [h0 0 (by decide) (by decide)]; exact a1, by rw [h1 1 (by decide) (by decide)]; exact b2, by rw [h1 2 (by decide) (by decide)]; exact b3, by rw [h1 3 (by decide) (by decide)]; exact b4, by rw [h0 4 (by decide) (by decide)]; exact a5, by rw [h0 5 (by decide) (by decide), h0 6 (by decide) (by decide)]; exact a6, ?_, ?_⟩
  · intro i hi k j' hk hj
    rw [h0 (7 + k) (by omega) (by omega), h0 (7 + j') (by omega) (by omega)]
    exact a7 i hi k j' hk hj
  · intro i k hk
    rw [h0 (7 + k) (by omega) (by omega)]
    exact a8 i k hk
theorem Wse.swS {T : TT} {C W s t : Nat} (hst : s ≠ t) (ws : Wse T C W s) (wt : Wse T C W t) : Wse (swT T s t) C W s ∧ Wse (swT T s t) C W t :=
  ⟨ws.mix wt (fun k hk h => so_swN (by decide) hk (by omega)) (fun k h1 h3 => so_swS (by decide) h1 (by omega)), wt.mix ws (fun k hk h => so_swN (by decide) hk (by omega)) (fun k h1 h3 => so_swS' hst (by decide) h1 (by omega))⟩
theorem Wse.swA {T : TT} {C W s t S : Nat} (hst : s ≠ t) (hs : s < S) (ht : t < S) (w : ∀ j, j < S → Wse T C W j) : ∀ j, j < S → Wse (swT T s t) C W j := by
  intro j hj
  by_cases c1 : j = s
  · rw [c1]; exact ((w s hs).swS hst (w t ht)).1
  · by_cases c2 : j = t
    · rw [c2]; exact ((w s hs).swS hst (w t ht)).2
    · exact (w j hj).cg (fun k hk => so_swN (by decide) hk (Or.inl ⟨c1, c2⟩))
theorem WF.sw {T : TT} {W C S A N s t : Nat} (F : WF T W C S A N) (hst : s ≠ t) (hs : s < S) (ht : t < S) : WF (swT T s t) W C S A N := by
  obtain ⟨w1, w2, w3, w4, w5, w6, w7, w8, w9, w10, w11, w12, w13, w14⟩ := F
  have hT : ∀ i, i < 62 ∨ 350 ≤ i → swT T s t i = T i := fun i hi => swK_off (by omega) (by omega) (by decide) hi
  exact ⟨by rw [hT 0 (by omega)]; exact w1, w2, w3, by rw [hT 1 (by omega)]; exact w4, w5, by rw [hT 2 (by omega)]; exact w6, w7, by rw [hT 3 (by omega)]; exact w8, w9, by rw [hT 4 (by omega)]; exact w10, w11, fun h hh => by rw [hT _ (by omega), hT _ (by omega)]; exact w12 h hh, Wse.swA hst hs ht w13, fun a ha => (w14 a ha).cg (fun k hk => hT _ (by omega))⟩
theorem bas_sw {T : TT} {s t j : Nat} : bas (swT T s t) j = bas T j := by
  unfold bas
  rw [so_swN (by decide) (by decide) (by omega), so_swN (by decide) (by decide) (by omega), so_swN (by decide) (by decide) (by omega), so_swN (by decide) (by decide) (by omega)]
theorem SEA.swp {x z : Cn} {q p p' : Nat} {T : TT} {W C S A N s t : Nat} (E : SEA x q T W C S A N) (hs : s < S) (ht : t < S) (hst : s ≠ t) (hp : gr x (q + 3) s = some p) (hp' : gr x (q + 3) t = some p') (h1 : z.2 = x.2) (h2 : ∀ b k, ¬ ((b = p ∨ b = p') ∧ 1 ≤ k ∧ k ≤ 3) → gi z b k = gi x b k) (h3 : ∀ k, 1 ≤ k → k ≤ 3 → gi z p k = gi x p' k ∧ gi z p' k = gi x p k) : SEA z q (swT T s t) W C S A N := by
  have F := E.2.2.2.sw hst hs ht
  obtain ⟨e1, e2, ⟨v0, v1, v2, v3, v4, v5, v6, v7⟩, w1, w2, w3, w4, w5, w6, w7, w8, w9, w10, w11, w12, w13, w14⟩ := E
  obtain ⟨r1, r2, r3, r4, r5, r6, r7, r8, r9⟩ := id e2
  have hg : ∀ b k, gr z b k = gr x b k := fun b k => by unfold gr; rw [h1]
  obtain ⟨j, hj, ej⟩ := r6 s (by omega)
  have ep : p = q + 6 + j := Option.some.inj (hp.symm.trans ej)
  obtain ⟨j', hj', ej'⟩ := r6 t (by omega)
  have ep' : p' = q + 6 + j' := Option.some.inj (hp'.symm.trans ej')
  have hT : ∀ i, i < 62 ∨ 350 ≤ i → swT T s t i = T i := fun i hi => swK_off (by omega) (by omega) (by decide) hi
  refine ⟨e1, e2.keep h1, ⟨?_, ?_, ?_, ?_, ?_, ?_, ?_, ?_⟩, F⟩
  · rw [h2 q 0 (by omega), hT 0 (by omega)]; exact v0
  · rw [h2 q 1 (by omega), hT 4 (by omega)]; exact v1
  · rw [h2 q 2 (by omega), hT 5 (by omega)]; exact v2
  · rw [h2 q 3 (by omega), hT 2 (by omega)]; exact v3
  · rw [h2 q 4 (by omega), hT 3 (by omega)]; exact v4
  · intro h hh
    rw [h2 (q + 1) h (by omega), h2 (q + 2) h (by omega), hT _ (by omega), hT _ (by omega)]
    exact v5 h hh
  · intro i pi hi hpi
    rw [hg] at hpi
    have g0 := v6 i pi hi hpi
    by_cases c1 : i = s
    · subst c1
      have : pi = p := Option.some.inj (hpi.symm.trans hp)
      subst this
      refine ⟨fun k hk h7 => ?_, ?_⟩
      · by_cases c2 : 1 ≤ k ∧ k ≤ 3
        · rw [(h3 k c2.1 c2.2).1, so_swS (by decide) c2.1 (by omega)]
          exact (v6 t p' ht hp').1 k hk h7
        · rw [h2 pi k (fun u => c2 u.2), so_swN (by decide) hk (by omega)]
          exact g0.1 k hk h7
      · rw [h2 pi 7 (by omega), bas_sw, so_swN (by decide) (by decide) (by omega)]
        exact g0.2
    · by_cases c2 : i = t
      · subst c2
        have : pi = p' := Option.some.inj (hpi.symm.trans hp')
        subst this
        refine ⟨fun k hk h7 => ?_, ?_⟩
        · by_cases c2 : 1 ≤ k ∧ k ≤ 3
          · rw [(h3 k c2.1 c2.2).2, so_swS' hst (by decide) c2.1 (by omega)]
            exact (v6 s p hs hp).1 k hk h7
          · rw [h2 pi k (fun u => c2 u.2), so_swN (by decide) hk (by omega)]
            exact g0.1 k hk h7
        · rw [h2 pi 7 (by omega), bas_sw, so_swN (by decide) (by decide) (by omega)]
          exact g0.2
      · have n1 : pi ≠ p := fun e => c1 (r7 i s (by omega) (by omega) (by rw [hpi, hp, e]))
        have n2 : pi ≠ p' := fun e => c2 (r7 i t (by omega) (by omega) (by rw [hpi, hp', e]))
        exact g0.cg (fun k _ => h2 pi k (fun u => u.1.elim n1 n2)) (fun k hk => so_swN (by decide) hk (Or.inl ⟨c1, c2⟩))
  · intro i pi hi hpi
    rw [hg] at hpi
    obtain ⟨j2, hj2, ej2⟩ := r8 i (by omega)
    have ep2 : pi = q + 30 + j2 := Option.some.inj (hpi.symm.trans ej2)
    exact (v7 i pi hi hpi).cg (fun k _ => h2 pi k (by omega)) (fun k hk => hT _ (by omega))
theorem sn_X8_canBe {x : Cn} {Q : Int32 → Cn → Prop} {t : Nat} (M : MRf x t) (ht : kk KW t = some (20, 518)) {W S N : Nat} (t0 : gi x t 0 = nI W) (hW : W ≤ 30) (t4 : gi x t 2 = nI S) (hS : S ≤ 24) (t8 : gi x t 4 = nI N) (hN : N ≤ W) {d way bits b wo : Int32} {h : Nat} (hh : h < 24) (hw : way = 0 ∨ way = 1) (hb : ∀ i, i < 32 → tb bits i = true → N ≤ i → i < W) (hwo : ∀ s, s < 24 → (tb wo s = true ↔ nI s = b)) (k : Q (bP (fitC (gi x t) S N d h way bits wo)) x) : mSI mX8_canBe [.ref 717, .int bits, .int d, .int (nI h), .int way, .int b] KW x Q := by
  have key : ∀ n w, w + n = W → (∀ i, i < w → tb bits i = true → N ≤ i → ¬ gi x t (6 + 2 * h) ≤ nI (nW (gi x t) S i d (nI h) 0 wo) ∧ (¬ way = 1 → ¬ gi x t (7 + 2 * h) ≤ nI (nW (gi x t) S i d (nI h) 1 wo))) → GI mX8_canBe 3 [some (.ref 717), some (.int bits), some (.int d), some (.int (nI h)), some (.int way), some (.int b), some (.int (nI w))] [] KW x Q := by
    intro n
    induction n with
    | zero =>
      intro w hw2 g
      refine v_X8_canBe_3 km M.2.2.1 ht ⟨v0 (k := 0) (by decide) rfl rfl, fun _ => ?_, fun z => absurd (by rw [t0]; exact nI_le (by omega) (by omega)) z⟩
      exact (bP_k k).1 (fun i hi h1 h2 => g i (by have := hb i hi h1 h2; omega) h1 h2)
    | succ n ih =>
      intro w hw2 g
      have nx : (tb bits w = true → N ≤ w → ¬ gi x t (6 + 2 * h) ≤ nI (nW (gi x t) S w d (nI h) 0 wo) ∧ (¬ way = 1 → ¬ gi x t (7 + 2 * h) ≤ nI (nW (gi x t) S w d (nI h) 1 wo))) → GI mX8_canBe 3 [some (.ref 717), some (.int bits), some (.int d), some (.int (nI h)), some (.int way), some (.int b), some (.int (nI w + 1))] [] KW x Q := by
        intro gg
        rw [nI_1]
        refine ih (w + 1) (by omega) (fun i hi => ?_)
        by_cases c : i = w
        · rw [c]; exact gg
        · exact g i (by omega)
      refine v_X8_canBe_3 km M.2.2.1 ht ⟨v0 (k := 0) (by decide) rfl rfl, fun z => absurd (by rw [t0] at z; exact z) (nI_ge (by omega) (by omega)), fun _ => ⟨v0 (k := 4) (by decide) rfl rfl, ?_⟩⟩
      rw [f_has_tb _ (by omega), tb_and, t8, t0, tb_fn hW hN (by omega) (by omega)]
      refine ⟨fun z => ?_, fun z => nx (fun z1 z2 => absurd (by rw [z1, decide_eq_true (by omega)]; rfl) z)⟩
      simp only [Bool.and_eq_true, decide_eq_true_eq] at z
      refine sp_X8_loadBut M ht t4 hS (by omega) ⟨M.2.2.1, ?_⟩
      rw [ixh1, ixh, nI_clamp (show 6 + 2 * h < 2 ^ 31 by omega), nI_clamp (show 7 + 2 * h < 2 ^ 31 by omega), ldB_nW0 hwo S hS]
      refine ⟨vp_in_nI (by omega) (by decide), fun z2 => ⟨fun z3 => nx (fun _ _ => ⟨Int32.not_le.mpr z2, fun u => absurd (hw.resolve_left z3) u⟩), fun z3 => ?_⟩, fun z2 => ?_⟩
      · refine sp_X8_loadBut M ht t4 hS (by omega) ⟨M.2.2.1, vp_in_nI (by omega) (by decide), ?_⟩
        rw [ldB_nW1 hwo S hS]
        refine ⟨fun z4 => nx (fun _ _ => ⟨Int32.not_le.mpr z2, fun _ => Int32.not_le.mpr z4⟩), fun z4 => ?_⟩
        exact (bP_k k).2 (fun f => (f w (by omega) z.1 z.2.1).2 (by rw [z3]; decide) (Int32.not_lt.mp z4))
      · exact (bP_k k).2 (fun f => (f w (by omega) z.1 z.2.1).1 (Int32.not_lt.mp z2))
  exact v_X8_canBe_0 (key W 0 (by omega) (fun i hi => absurd hi (by omega)))
theorem sn_X8_canBeAt {x : Cn} {Q : Int32 → Cn → Prop} {T : TT} {n : Nat} {H : Nat → TT} (r : RS x T n H) {W C S N : Nat} (t0 : T 0 = nI W) (hW : W ≤ 30) (t4 : T 2 = nI S) (hS : S ≤ 24) (t8 : T 4 = nI N) (hN : N ≤ W) {s h : Nat} (hs : s < 24) (hh : h < 24) (w : Wse T C W s) (k : Q (bP (fitC T S N (so T s 1) h (so T s 3) (bas T s) (1 <<< (nI s &&& 31)))) x) : mSI mX8_canBeAt [.ref 717, .int (nI s), .int (nI h)] KW x Q := by
  refine v_X8_canBeAt_0 km r.1.2.2.1 km1 ⟨l24_nI (by omega) rfl, ?_⟩
  rw [nI_clamp (by omega)]
  have k' : Q (bP (fitC (gi x 718) S N (so T s 1) h (so T s 3) (bas T s) (1 <<< (nI s &&& 31)))) x := by rw [r.2.1]; exact k
  rw [r.2.1]
  exact sn_X8_canBe r.1 km1 (by rw [r.2.1]; exact t0) hW (by rw [r.2.1]; exact t4) hS (by rw [r.2.1]; exact t8) hN hh w.2.2.2.1 (fun i hi h1 h2 => bas_W w h1) (wo_1 (by omega)) ⟨bP_01 _, k'⟩
/-- two may change over -/
def csw (T : TT) (S N s t : Nat) : Prop := ¬ so T s 0 = so T t 0 ∧ fitC (swT T s t) S N (so (swT T s t) s 1) (shr (swT T s t) s) (so (swT T s t) s 3) (bas (swT T s t) s) ((1 <<< (nI s &&& 31)) ||| (1 <<< (nI t &&& 31))) ∧ fitC (swT T s t) S N (so (swT T s t) t 1) (shr (swT T s t) t) (so (swT T s t) t 3) (bas (swT T s t) t) (1 <<< (nI t &&& 31))
/-- one out by its day: as left out -/
theorem fitC_7 {T : TT} {S N s t d h : Nat} {way bits : Int32} (hS : S ≤ 24) (ht : t < 24) (hd : d < 7) (hh : h < 24) : fitC (uT T (62 + 12 * t + 1) 7) S N (nI d) h way bits (1 <<< (nI s &&& 31)) ↔ fitC T S N (nI d) h way bits ((1 <<< (nI s &&& 31)) ||| (1 <<< (nI t &&& 31))) := by
  have e : ∀ i io, nW (uT T (62 + 12 * t + 1) 7) S i (nI d) (nI h) io (1 <<< (nI s &&& 31)) = nW T S i (nI d) (nI h) io ((1 <<< (nI s &&& 31)) ||| (1 <<< (nI t &&& 31))) := by
    intro i io
    refine cnt_congr S (fun j hj => ?_)
    unfold cW
    by_cases c : j = t
    · subst c
      have e1 : so (uT T (62 + 12 * j + 1) 7) j 1 = 7 := by rw [so_uT _ _ _ _ _ _ (by decide) (by decide), if_pos ⟨rfl, rfl⟩]
      have n7 : ¬ (7 : Int32) = nI d := fun g => by
        have := (nI_eq (a := 7) (b := d) (by decide) (by omega)).mp g
        omega
      have t1 : tb ((1 : Int32) <<< (nI s &&& 31) ||| (1 <<< (nI j &&& 31))) j = true := by
        rw [tb_or, (wo_1 ht j ht).mpr rfl, Bool.or_true]
      rw [decide_eq_false (fun u => n7 (e1 ▸ u.1)), decide_eq_false (fun u => u.2.2.1 t1)]
      rfl
    · have e1 : ∀ k, k < 12 → so (uT T (62 + 12 * t + 1) 7) j k = so T j k := fun k hk => by rw [so_uT _ _ _ _ _ _ (by decide) hk, if_neg (fun u => c u.1)]
      have t1 : tb ((1 : Int32) <<< (nI t &&& 31)) j = false := by
        cases hq : tb ((1 : Int32) <<< (nI t &&& 31)) j
        · rfl
        · exact absurd ((nI_eq (by omega) (by omega)).mp ((wo_1 ht j (by omega)).mp hq)) c
      rw [e1 1 (by decide), e1 2 (by decide), e1 3 (by decide), bas_cg e1, tb_or, t1, Bool.or_false]
  have eT : ∀ i, i < 62 → uT T (62 + 12 * t + 1) 7 i = T i := fun i hi => uT_ne _ _ (by omega)
  unfold fitC
  simp only [e, eT (6 + 2 * h) (by omega), eT (7 + 2 * h) (by omega)]
set_option maxHeartbeats 2000000 in
theorem v_X5_changeOver_0 {K : Sh} {x : Cn} {Q : Cn → Prop} {b0 : Nat} {b1 : Nat}  (k_b0 : kk K b0 = some (5, 0)) (k_b1 : kk K b1 = some (5, 0)) (K0 : ∀ r_1 : Int32, r_1 = gi (ui (ui x b0 1 (gi x b1 1)) b0 2 (gi (ui x b0 1 (gi x b1 1)) b1 2)) b1 3 → (Q (ui (ui (ui (ui (ui (ui x b0 1 (gi x b1 1)) b0 2 (gi (ui x b0 1 (gi x b1 1)) b1 2)) b0 3 r_1) b1 1 (gi x b0 1)) b1 2 (gi x b0 2)) b1 3 (gi x b0 3)))) : mSV mX5_changeOver [.ref b0, .ref b1] K x Q := by
  refine s_V (by decide) (by simp [Value.category]) (Nat.le_of_ble_eq_true rfl) ?_
  show mGM mX5_changeOver 0 [some (.ref b0), some (.ref b1), none, none, none] [] (hp K x) (PV K Q)
  refine r_aload_n (pc := 0) dX5_changeOver_0 rfl ?_
  refine s_getI (pc := 1) dX5_changeOver_1 fl_X5_15 rfl k_b0 ?_
  refine r_istore_n (pc := 4) dX5_changeOver_4 (by decide) ?_
  refine r_aload_n (pc := 5) (L := [some (.ref b0), some (.ref b1), some (.int (gi x b0 1)), none, none]) dX5_changeOver_5 rfl ?_
  refine s_getI (pc := 6) dX5_changeOver_6 fl_X5_18 rfl k_b0 ?_
  refine r_istore_n (pc := 9) dX5_changeOver_9 (by decide) ?_
  refine r_aload_n (pc := 10) (L := [some (.ref b0), some (.ref b1), some (.int (gi x b0 1)), some (.int (gi x b0 2)), none]) dX5_changeOver_10 rfl ?_
  refine s_getI (pc := 11) dX5_changeOver_11 fl_X5_21 rfl k_b0 ?_
  refine r_istore (pc := 14) dX5_changeOver_14 (by decide) ?_
  refine r_aload_n (pc := 16) (L := [some (.ref b0), some (.ref b1), some (.int (gi x b0 1)), some (.int (gi x b0 2)), some (.int (gi x b0 3))]) dX5_changeOver_16 rfl ?_
  refine r_aload_n (pc := 17) dX5_changeOver_17 rfl ?_
  refine s_getI (pc := 18) dX5_changeOver_18 fl_X5_15 rfl k_b1 ?_
  refine s_putI (pc := 21) dX5_changeOver_21 fl_X5_15 rfl rfl k_b0 ?_
  refine r_aload_n (pc := 24) dX5_changeOver_24 rfl ?_
  refine r_aload_n (pc := 25) dX5_changeOver_25 rfl ?_
  refine s_getI (pc := 26) dX5_changeOver_26 fl_X5_18 rfl k_b1 ?_
  refine s_putI (pc := 29) dX5_changeOver_29 fl_X5_18 rfl rfl k_b0 ?_
  refine r_aload_n (pc := 32) dX5_changeOver_32 rfl ?_
  refine r_aload_n (pc := 33) dX5_changeOver_33 rfl ?_
  refine s_getI (pc := 34) dX5_changeOver_34 fl_X5_21 rfl k_b1 ?_
  obtain ⟨r_1, w_2⟩ : ∃ z : Int32, z = gi (ui (ui x b0 1 (gi x b1 1)) b0 2 (gi (ui x b0 1 (gi x b1 1)) b1 2)) b1 3 := ⟨_, rfl⟩
  rw [← w_2]
  have K0 := K0 r_1 w_2
  refine s_putI (pc := 37) dX5_changeOver_37 fl_X5_21 rfl rfl k_b0 ?_
  refine r_aload_n (pc := 40) dX5_changeOver_40 rfl ?_
  refine r_iload_n (pc := 41) dX5_changeOver_41 rfl ?_
  refine s_putI (pc := 42) dX5_changeOver_42 fl_X5_15 rfl rfl k_b1 ?_
  refine r_aload_n (pc := 45) dX5_changeOver_45 rfl ?_
  refine r_iload_n (pc := 46) dX5_changeOver_46 rfl ?_
  refine s_putI (pc := 47) dX5_changeOver_47 fl_X5_18 rfl rfl k_b1 ?_
  refine r_aload_n (pc := 50) dX5_changeOver_50 rfl ?_
  refine r_iload (pc := 51) dX5_changeOver_51 rfl ?_
  refine s_putI (pc := 53) dX5_changeOver_53 fl_X5_21 rfl rfl k_b1 ?_
  exact s_ret rfl dX5_changeOver_56 K0
section
end

/-- day, hour and way of two series change over, fields below m -/
def swK (T : TT) (s t m : Nat) : TT := fun i => if 63 + 12 * s ≤ i ∧ i < 62 + 12 * s + m then T (i - 12 * s + 12 * t) else if 63 + 12 * t ≤ i ∧ i < 62 + 12 * t + m then T (i - 12 * t + 12 * s) else T i
abbrev swT (T : TT) (s t : Nat) : TT := swK T s t 4
theorem so_swS {T : TT} {s t m k : Nat} (hm : m ≤ 4) (h1 : 1 ≤ k) (hk : k < m) : so (swK T s t m) s k = so T t k := by
  unfold so swK
  rw [if_pos (by omega)]
  congr 1
  omega
theorem so_swS' {T : TT} {s t m k : Nat} (hst : s ≠ t) (hm : m ≤ 4) (h1 : 1 ≤ k) (hk : k < m) : so (swK T s t m) t k = so T s k := by
  unfold so swK
  rw [if_neg (by omega), if_pos (by omega)]
  congr 1
  omega
theorem so_swN {T : TT} {s t m j k : Nat} (hm : m ≤ 4) (hk : k < 12) (h : (j ≠ s ∧ j ≠ t) ∨ k = 0 ∨ m ≤ k) : so (swK T s t m) j k = so T j k := by
  unfold so swK
  rw [if_neg (by omega), if_neg (by omega)]
theorem swK_off {T : TT} {s t m i : Nat} (hs : s < 24) (ht : t < 24) (hm : m ≤ 4) (h : i < 62 ∨ 350 ≤ i) : swK T s t m i = T i := by
  unfold swK
  rw [if_neg (by omega), if_neg (by omega)]
theorem swT_swT {T : TT} {s t : Nat} (hst : s ≠ t) : swT (swT T s t) s t = T := by
  funext i
  show (if 63 + 12 * s ≤ i ∧ i < 62 + 12 * s + 4 then swK T s t 4 (i - 12 * s + 12 * t) else if 63 + 12 * t ≤ i ∧ i < 62 + 12 * t + 4 then swK T s t 4 (i - 12 * t + 12 * s) else swK T s t 4 i) = T i
  unfold swK
  by_cases c1 : 63 + 12 * s ≤ i ∧ i < 62 + 12 * s + 4
  · rw [if_pos c1, if_neg (by omega), if_pos (by omega)]
    congr 1
    omega
  · rw [if_neg c1]
    by_cases c2 : 63 + 12 * t ≤ i ∧ i < 62 + 12 * t + 4
    · rw [if_pos c2, if_pos (by omega)]
      congr 1
      omega
    · rw [if_neg c2, if_neg c1, if_neg c2]
theorem Wse.mix {T T' : TT} {C W a b j : Nat} (wa : Wse T C W a) (wb : Wse T C W b) (h0 : ∀ k, k < 12 → k = 0 ∨ 4 ≤ k → so T' j k = so T a k) (h1 : ∀ k, 1 ≤ k → k ≤ 3 → so T' j k = so T b k) : Wse T' C W j := by
  obtain ⟨a1, -, -, -, a5, a6, a7, a8⟩ := wa
  obtain ⟨-, b2, b3, b4, -, -, -, -⟩ := wb
  refine ⟨by rw [h0 0 (by decide) (by decide)]; exact a1, by rw [h1 1 (by decide) (by decide)]; exact b2, by rw [h1 2 (by decide) (by decide)]; exact b3, by rw [h1 3 (by decide) (by decide)]; exact b4, by rw [h0 4 (by decide) (by decide)]; exact a5, by rw [h0 5 (by decide) (by decide), h0 6 (by decide) (by decide)]; exact a6, ?_, ?_⟩
  · intro i hi k j' hk hj
    rw [h0 (7 + k) (by omega) (by omega), h0 (7 + j') (by omega) (by omega)]
    exact a7 i hi k j' hk hj
  · intro i k hk
    rw [h0 (7 + k) (by omega) (by omega)]
    exact a8 i k hk
theorem Wse.swS {T : TT} {C W s t : Nat} (hst : s ≠ t) (ws : Wse T C W s) (wt : Wse T C W t) : Wse (swT T s t) C W s ∧ Wse (swT T s t) C W t :=
  ⟨ws.mix wt (fun k hk h => so_swN (by decide) hk (by omega)) (fun k h1 h3 => so_swS (by decide) h1 (by omega)), wt.mix ws (fun k hk h => so_swN (by decide) hk (by omega)) (fun k h1 h3 => so_swS' hst (by decide) h1 (by omega))⟩
theorem Wse.swA {T : TT} {C W s t S : Nat} (hst : s ≠ t) (hs : s < S) (ht : t < S) (w : ∀ j, j < S → Wse T C W j) : ∀ j, j < S → Wse (swT T s t) C W j := by
  intro j hj
  by_cases c1 : j = s
  · rw [c1]; exact ((w s hs).swS hst (w t ht)).1
  · by_cases c2 : j = t
    · rw [c2]; exact ((w s hs).swS hst (w t ht)).2
    · exact (w j hj).cg (fun k hk => so_swN (by decide) hk (Or.inl ⟨c1, c2⟩))
theorem WF.sw {T : TT} {W C S A N s t : Nat} (F : WF T W C S A N) (hst : s ≠ t) (hs : s < S) (ht : t < S) : WF (swT T s t) W C S A N := by
  obtain ⟨w1, w2, w3, w4, w5, w6, w7, w8, w9, w10, w11, w12, w13, w14⟩ := F
  have hT : ∀ i, i < 62 ∨ 350 ≤ i → swT T s t i = T i := fun i hi => swK_off (by omega) (by omega) (by decide) hi
  exact ⟨by rw [hT 0 (by omega)]; exact w1, w2, w3, by rw [hT 1 (by omega)]; exact w4, w5, by rw [hT 2 (by omega)]; exact w6, w7, by rw [hT 3 (by omega)]; exact w8, w9, by rw [hT 4 (by omega)]; exact w10, w11, fun h hh => by rw [hT _ (by omega), hT _ (by omega)]; exact w12 h hh, Wse.swA hst hs ht w13, fun a ha => (w14 a ha).cg (fun k hk => hT _ (by omega))⟩
theorem bas_sw {T : TT} {s t j : Nat} : bas (swT T s t) j = bas T j := by
  unfold bas
  rw [so_swN (by decide) (by decide) (by omega), so_swN (by decide) (by decide) (by omega), so_swN (by decide) (by decide) (by omega), so_swN (by decide) (by decide) (by omega)]
theorem SEA.swp {x z : Cn} {q p p' : Nat} {T : TT} {W C S A N s t : Nat} (E : SEA x q T W C S A N) (hs : s < S) (ht : t < S) (hst : s ≠ t) (hp : gr x (q + 3) s = some p) (hp' : gr x (q + 3) t = some p') (h1 : z.2 = x.2) (h2 : ∀ b k, ¬ ((b = p ∨ b = p') ∧ 1 ≤ k ∧ k ≤ 3) → gi z b k = gi x b k) (h3 : ∀ k, 1 ≤ k → k ≤ 3 → gi z p k = gi x p' k ∧ gi z p' k = gi x p k) : SEA z q (swT T s t) W C S A N := by
  have F := E.2.2.2.sw hst hs ht
  obtain ⟨e1, e2, ⟨v0, v1, v2, v3, v4, v5, v6, v7⟩, w1, w2, w3, w4, w5, w6, w7, w8, w9, w10, w11, w12, w13, w14⟩ := E
  obtain ⟨r1, r2, r3, r4, r5, r6, r7, r8, r9⟩ := id e2
  have hg : ∀ b k, gr z b k = gr x b k := fun b k => by unfold gr; rw [h1]
  obtain ⟨j, hj, ej⟩ := r6 s (by omega)
  have ep : p = q + 6 + j := Option.some.inj (hp.symm.trans ej)
  obtain ⟨j', hj', ej'⟩ := r6 t (by omega)
  have ep' : p' = q + 6 + j' := Option.some.inj (hp'.symm.trans ej')
  have hT : ∀ i, i < 62 ∨ 350 ≤ i → swT T s t i = T i := fun i hi => swK_off (by omega) (by omega) (by decide) hi
  refine ⟨e1, e2.keep h1, ⟨?_, ?_, ?_, ?_, ?_, ?_, ?_, ?_⟩, F⟩
  · rw [h2 q 0 (by omega), hT 0 (by omega)]; exact v0
  · rw [h2 q 1 (by omega), hT 4 (by omega)]; exact v1
  · rw [h2 q 2 (by omega), hT 5 (by omega)]; exact v2
  · rw [h2 q 3 (by omega), hT 2 (by omega)]; exact v3
  · rw [h2 q 4 (by omega), hT 3 (by omega)]; exact v4
  · intro h hh
    rw [h2 (q + 1) h (by omega), h2 (q + 2) h (by omega), hT _ (by omega), hT _ (by omega)]
    exact v5 h hh
  · intro i pi hi hpi
    rw [hg] at hpi
    have g0 := v6 i pi hi hpi
    by_cases c1 : i = s
    · subst c1
      have : pi = p := Option.some.inj (hpi.symm.trans hp)
      subst this
      refine ⟨fun k hk h7 => ?_, ?_⟩
      · by_cases c2 : 1 ≤ k ∧ k ≤ 3
        · rw [(h3 k c2.1 c2.2).1, so_swS (by decide) c2.1 (by omega)]
          exact (v6 t p' ht hp').1 k hk h7
        · rw [h2 pi k (fun u => c2 u.2), so_swN (by decide) hk (by omega)]
          exact g0.1 k hk h7
      · rw [h2 pi 7 (by omega), bas_sw, so_swN (by decide) (by decide) (by omega)]
        exact g0.2
    · by_cases c2 : i = t
      · subst c2
        have : pi = p' := Option.some.inj (hpi.symm.trans hp')
        subst this
        refine ⟨fun k hk h7 => ?_, ?_⟩
        · by_cases c2 : 1 ≤ k ∧ k ≤ 3
          · rw [(h3 k c2.1 c2.2).2, so_swS' hst (by decide) c2.1 (by omega)]
            exact (v6 s p hs hp).1 k hk h7
          · rw [h2 pi k (fun u => c2 u.2), so_swN (by decide) hk (by omega)]
            exact g0.1 k hk h7
        · rw [h2 pi 7 (by omega), bas_sw, so_swN (by decide) (by decide) (by omega)]
          exact g0.2
      · have n1 : pi ≠ p := fun e => c1 (r7 i s (by omega) (by omega) (by rw [hpi, hp, e]))
        have n2 : pi ≠ p' := fun e => c2 (r7 i t (by omega) (by omega) (by rw [hpi, hp', e]))
        exact g0.cg (fun k _ => h2 pi k (fun u => u.1.elim n1 n2)) (fun k hk => so_swN (by decide) hk (Or.inl ⟨c1, c2⟩))
  · intro i pi hi hpi
    rw [hg] at hpi
    obtain ⟨j2, hj2, ej2⟩ := r8 i (by omega)
    have ep2 : pi = q + 30 + j2 := Option.some.inj (hpi.symm.trans ej2)
    exact (v7 i pi hi hpi).cg (fun k _ => h2 pi k (by omega)) (fun k hk => hT _ (by omega))
theorem sn_X8_canBe {x : Cn} {Q : Int32 → Cn → Prop} {t : Nat} (M : MRf x t) (ht : kk KW t = some (20, 518)) {W S N : Nat} (t0 : gi x t 0 = nI W) (hW : W ≤ 30) (t4 : gi x t 2 = nI S) (hS : S ≤ 24) (t8 : gi x t 4 = nI N) (hN : N ≤ W) {d way bits b wo : Int32} {h : Nat} (hh : h < 24) (hw : way = 0 ∨ way = 1) (hb : ∀ i, i < 32 → tb bits i = true → N ≤ i → i < W) (hwo : ∀ s, s < 24 → (tb wo s = true ↔ nI s = b)) (k : Q (bP (fitC (gi x t) S N d h way bits wo)) x) : mSI mX8_canBe [.ref 717, .int bits, .int d, .int (nI h), .int way, .int b] KW x Q := by
  have key : ∀ n w, w + n = W → (∀ i, i < w → tb bits i = true → N ≤ i → ¬ gi x t (6 + 2 * h) ≤ nI (nW (gi x t) S i d (nI h) 0 wo) ∧ (¬ way = 1 → ¬ gi x t (7 + 2 * h) ≤ nI (nW (gi x t) S i d (nI h) 1 wo))) → GI mX8_canBe 3 [some (.ref 717), some (.int bits), some (.int d), some (.int (nI h)), some (.int way), some (.int b), some (.int (nI w))] [] KW x Q := by
    intro n
    induction n with
    | zero =>
      intro w hw2 g
      refine v_X8_canBe_3 km M.2.2.1 ht ⟨v0 (k := 0) (by decide) rfl rfl, fun _ => ?_, fun z => absurd (by rw [t0]; exact nI_le (by omega) (by omega)) z⟩
      exact (bP_k k).1 (fun i hi h1 h2 => g i (by have := hb i hi h1 h2; omega) h1 h2)
    | succ n ih =>
      intro w hw2 g
      have nx : (tb bits w = true → N ≤ w → ¬ gi x t (6 + 2 * h) ≤ nI (nW (gi x t) S w d (nI h) 0 wo) ∧ (¬ way = 1 → ¬ gi x t (7 + 2 * h) ≤ nI (nW (gi x t) S w d (nI h) 1 wo))) → GI mX8_canBe 3 [some (.ref 717), some (.int bits), some (.int d), some (.int (nI h)), some (.int way), some (.int b), some (.int (nI w + 1))] [] KW x Q := by
        intro gg
        rw [nI_1]
        refine ih (w + 1) (by omega) (fun i hi => ?_)
        by_cases c : i = w
        · rw [c]; exact gg
        · exact g i (by omega)
      refine v_X8_canBe_3 km M.2.2.1 ht ⟨v0 (k := 0) (by decide) rfl rfl, fun z => absurd (by rw [t0] at z; exact z) (nI_ge (by omega) (by omega)), fun _ => ⟨v0 (k := 4) (by decide) rfl rfl, ?_⟩⟩
      rw [f_has_tb _ (by omega), tb_and, t8, t0, tb_fn hW hN (by omega) (by omega)]
      refine ⟨fun z => ?_, fun z => nx (fun z1 z2 => absurd (by rw [z1, decide_eq_true (by omega)]; rfl) z)⟩
      simp only [Bool.and_eq_true, decide_eq_true_eq] at z
      refine sp_X8_loadBut M ht t4 hS (by omega) ⟨M.2.2.1, ?_⟩
      rw [ixh1, ixh, nI_clamp (show 6 + 2 * h < 2 ^ 31 by omega), nI_clamp (show 7 + 2 * h < 2 ^ 31 by omega), ldB_nW0 hwo S hS]
      refine ⟨vp_in_nI (by omega) (by decide), fun z2 => ⟨fun z3 => nx (fun _ _ => ⟨Int32.not_le.mpr z2, fun u => absurd (hw.resolve_left z3) u⟩), fun z3 => ?_⟩, fun z2 => ?_⟩
      · refine sp_X8_loadBut M ht t4 hS (by omega) ⟨M.2.2.1, vp_in_nI (by omega) (by decide), ?_⟩
        rw [ldB_nW1 hwo S hS]
        refine ⟨fun z4 => nx (fun _ _ => ⟨Int32.not_le.mpr z2, fun _ => Int32.not_le.mpr z4⟩), fun z4 => ?_⟩
        exact (bP_k k).2 (fun f => (f w (by omega) z.1 z.2.1).2 (by rw [z3]; decide) (Int32.not_lt.mp z4))
      · exact (bP_k k).2 (fun f => (f w (by omega) z.1 z.2.1).1 (Int32.not_lt.mp z2))
  exact v_X8_canBe_0 (key W 0 (by omega) (fun i hi => absurd hi (by omega)))
theorem sn_X8_canBeAt {x : Cn} {Q : Int32 → Cn → Prop} {T : TT} {n : Nat} {H : Nat → TT} (r : RS x T n H) {W C S N : Nat} (t0 : T 0 = nI W) (hW : W ≤ 30) (t4 : T 2 = nI S) (hS : S ≤ 24) (t8 : T 4 = nI N) (hN : N ≤ W) {s h : Nat} (hs : s < 24) (hh : h < 24) (w : Wse T C W s) (k : Q (bP (fitC T S N (so T s 1) h (so T s 3) (bas T s) (1 <<< (nI s &&& 31)))) x) : mSI mX8_canBeAt [.ref 717, .int (nI s), .int (nI h)] KW x Q := by
  refine v_X8_canBeAt_0 km r.1.2.2.1 km1 ⟨l24_nI (by omega) rfl, ?_⟩
  rw [nI_clamp (by omega)]
  have k' : Q (bP (fitC (gi x 718) S N (so T s 1) h (so T s 3) (bas T s) (1 <<< (nI s &&& 31)))) x := by rw [r.2.1]; exact k
  rw [r.2.1]
  exact sn_X8_canBe r.1 km1 (by rw [r.2.1]; exact t0) hW (by rw [r.2.1]; exact t4) hS (by rw [r.2.1]; exact t8) hN hh w.2.2.2.1 (fun i hi h1 h2 => bas_W w h1) (wo_1 (by omega)) ⟨bP_01 _, k'⟩
/-- two may change over -/
def csw (T : TT) (S N s t : Nat) : Prop := ¬ so T s 0 = so T t 0 ∧ fitC (swT T s t) S N (so (swT T s t) s 1) (shr (swT T s t) s) (so (swT T s t) s 3) (bas (swT T s t) s) ((1 <<< (nI s &&& 31)) ||| (1 <<< (nI t &&& 31))) ∧ fitC (swT T s t) S N (so (swT T s t) t 1) (shr (swT T s t) t) (so (swT T s t) t 3) (bas (swT T s t) t) (1 <<< (nI t &&& 31))
/-- one out by its day: as left out -/
theorem fitC_7 {T : TT} {S N s t d h : Nat} {way bits : Int32} (hS : S ≤ 24) (ht : t < 24) (hd : d < 7) (hh : h < 24) : fitC (uT T (62 + 12 * t + 1) 7) S N (nI d) h way bits (1 <<< (nI s &&& 31)) ↔ fitC T S N (nI d) h way bits ((1 <<< (nI s &&& 31)) ||| (1 <<< (nI t &&& 31))) := by
  have e : ∀ i io, nW (uT T (62 + 12 * t + 1) 7) S i (nI d) (nI h) io (1 <<< (nI s &&& 31)) = nW T S i (nI d) (nI h) io ((1 <<< (nI s &&& 31)) ||| (1 <<< (nI t &&& 31))) := by
    intro i io
    refine cnt_congr S (fun j hj => ?_)
    unfold cW
    by_cases c : j = t
    · subst c
      have e1 : so (uT T (62 + 12 * j + 1) 7) j 1 = 7 := by rw [so_uT _ _ _ _ _ _ (by decide) (by decide), if_pos ⟨rfl, rfl⟩]
      have n7 : ¬ (7 : Int32) = nI d := fun g => by
        have := (nI_eq (a := 7) (b := d) (by decide) (by omega)).mp g
        omega
      have t1 : tb ((1 : Int32) <<< (nI s &&& 31) ||| (1 <<< (nI j &&& 31))) j = true := by
        rw [tb_or, (wo_1 ht j ht).mpr rfl, Bool.or_true]
      rw [decide_eq_false (fun u => n7 (e1 ▸ u.1)), decide_eq_false (fun u => u.2.2.1 t1)]
      rfl
    · have e1 : ∀ k, k < 12 → so (uT T (62 + 12 * t + 1) 7) j k = so T j k := fun k hk => by rw [so_uT _ _ _ _ _ _ (by decide) hk, if_neg (fun u => c u.1)]
      have t1 : tb ((1 : Int32) <<< (nI t &&& 31)) j = false := by
        cases hq : tb ((1 : Int32) <<< (nI t &&& 31)) j
        · rfl
        · exact absurd ((nI_eq (by omega) (by omega)).mp ((wo_1 ht j (by omega)).mp hq)) c
      rw [e1 1 (by decide), e1 2 (by decide), e1 3 (by decide), bas_cg e1, tb_or, t1, Bool.or_false]
  have eT : ∀ i, i < 62 → uT T (62 + 12 * t + 1) 7 i = T i := fun i hi => uT_ne _ _ (by omega)
  unfold fitC
  simp only [e, eT (6 + 2 * h) (by omega), eT (7 + 2 * h) (by omega)]
set_option maxHeartbeats 2000000 in
theorem v_X5_changeOver_0 {K : Sh} {x : Cn} {Q : Cn → Prop} {b0 : Nat} {b1 : Nat}  (k_b0 : kk K b0 = some (5, 0)) (k_b1 : kk K b1 = some (5, 0)) (K0 : ∀ r_1 : Int32, r_1 = gi (ui (ui x b0 1 (gi x b1 1)) b0 2 (gi (ui x b0 1 (gi x b1 1)) b1 2)) b1 3 → (Q (ui (ui (ui (ui (ui (ui x b0 1 (gi x b1 1)) b0 2 (gi (ui x b0 1 (gi x b1 1)) b1 2)) b0 3 r_1) b1 1 (gi x b0 1)) b1 2 (gi x b0 2)) b1 3 (gi x b0 3)))) : mSV mX5_changeOver [.ref b0, .ref b1] K x Q := by
  refine s_V (by decide) (by simp [Value.category]) (Nat.le_of_ble_eq_true rfl) ?_
  show mGM mX5_changeOver 0 [some (.ref b0), some (.ref b1), none, none, none] [] (hp K x) (PV K Q)
  refine r_aload_n (pc := 0) dX5_changeOver_0 rfl ?_
  refine s_getI (pc := 1) dX5_changeOver_1 fl_X5_15 rfl k_b0 ?_
  refine r_istore_n (pc := 4) dX5_changeOver_4 (by decide) ?_
  refine r_aload_n (pc := 5) (L := [some (.ref b0), some (.ref b1), some (.int (gi x b0 1)), none, none]) dX5_changeOver_5 rfl ?_
  refine s_getI (pc := 6) dX5_changeOver_6 fl_X5_18 rfl k_b0 ?_
  refine r_istore_n (pc := 9) dX5_changeOver_9 (by decide) ?_
  refine r_aload_n (pc := 10) (L := [some (.ref b0), some (.ref b1), some (.int (gi x b0 1)), some (.int (gi x b0 2)), none]) dX5_changeOver_10 rfl ?_
  refine s_getI (pc := 11) dX5_changeOver_11 fl_X5_21 rfl k_b0 ?_
  refine r_istore (pc := 14) dX5_changeOver_14 (by decide) ?_
  refine r_aload_n (pc := 16) (L := [some (.ref b0), some (.ref b1), some (.int (gi x b0 1)), some (.int (gi x b0 2)), some (.int (gi x b0 3))]) dX5_changeOver_16 rfl ?_
  refine r_aload_n (pc := 17) dX5_changeOver_17 rfl ?_
  refine s_getI (pc := 18) dX5_changeOver_18 fl_X5_15 rfl k_b1 ?_
  refine s_putI (pc := 21) dX5_changeOver_21 fl_X5_15 rfl rfl k_b0 ?_
  refine r_aload_n (pc := 24) dX5_changeOver_24 rfl ?_
  refine r_aload_n (pc := 25) dX5_changeOver_25 rfl ?_
  refine s_getI (pc := 26) dX5_changeOver_26 fl_X5_18 rfl k_b1 ?_
  refine s_putI (pc := 29) dX5_changeOver_29 fl_X5_18 rfl rfl k_b0 ?_
  refine r_aload_n (pc := 32) dX5_changeOver_32 rfl ?_
  refine r_aload_n (pc := 33) dX5_changeOver_33 rfl ?_
  refine s_getI (pc := 34) dX5_changeOver_34 fl_X5_21 rfl k_b1 ?_
  obtain ⟨r_1, w_2⟩ : ∃ z : Int32, z = gi (ui (ui x b0 1 (gi x b1 1)) b0 2 (gi (ui x b0 1 (gi x b1 1)) b1 2)) b1 3 := ⟨_, rfl⟩
  rw [← w_2]
  have K0 := K0 r_1 w_2
  refine s_putI (pc := 37) dX5_changeOver_37 fl_X5_21 rfl rfl k_b0 ?_
  refine r_aload_n (pc := 40) dX5_changeOver_40 rfl ?_
  refine r_iload_n (pc := 41) dX5_changeOver_41 rfl ?_
  refine s_putI (pc := 42) dX5_changeOver_42 fl_X5_15 rfl rfl k_b1 ?_
  refine r_aload_n (pc := 45) dX5_changeOver_45 rfl ?_
  refine r_iload_n (pc := 46) dX5_changeOver_46 rfl ?_
  refine s_putI (pc := 47) dX5_changeOver_47 fl_X5_18 rfl rfl k_b1 ?_
  refine r_aload_n (pc := 50) dX5_changeOver_50 rfl ?_
  refine r_iload (pc := 51) dX5_changeOver_51 rfl ?_
  refine s_putI (pc := 53) dX5_changeOver_53 fl_X5_21 rfl rfl k_b1 ?_
  exact s_ret rfl dX5_changeOver_56 K0
section
theorem sp_X5_changeOver {x : Cn} {Q : Cn → Prop} {p p' : Nat} (h1 : kk KW p = some (5, 0)) (h2 : kk KW p' = some (5, 0)) (hne : p ≠ p') (k : ∀ z : Cn, z.2 = x.2 → (∀ b i, ¬ ((b = p ∨ b = p') ∧ 1 ≤ i ∧ i ≤ 3) → gi z b i = gi x b i) → (∀ i, 1 ≤ i → i ≤ 3 → gi z p i = gi x p' i ∧ gi z p' i = gi x p i) → Q z) : mSV mX5_changeOver [.ref p, .ref p'] KW x Q := by
  refine v_X5_changeOver_0 h1 h2 (fun r hr => ?_)
  have e2 : gi (ui x p 1 (gi x p' 1)) p' 2 = gi x p' 2 := by rw [gi_ui, if_neg (fun u => hne u.1.symm)]
  have e3 : r = gi x p' 3 := by
    rw [hr, gi_ui, if_neg (fun u => hne u.1.symm), gi_ui, if_neg (fun u => hne u.1.symm)]
  rw [e2, e3]
  refine k _ rfl (fun b i hb => ?_) (fun i i1 i3 => ?_)
  · simp only [gi_ui]
    rw [if_neg (fun u => hb ⟨Or.inr u.1, by omega⟩), if_neg (fun u => hb ⟨Or.inr u.1, by omega⟩), if_neg (fun u => hb ⟨Or.inr u.1, by omega⟩), if_neg (fun u => hb ⟨Or.inl u.1, by omega⟩), if_neg (fun u => hb ⟨Or.inl u.1, by omega⟩), if_neg (fun u => hb ⟨Or.inl u.1, by omega⟩)]
  · have : i = 1 ∨ i = 2 ∨ i = 3 := by omega
    have hne' : ¬ p' = p := fun u => hne u.symm
    rcases this with rfl | rfl | rfl <;> simp [gi_ui, hne, hne']
theorem AC.swp {x y z : Cn} {W C S A N n s t p p' : Nat} {T : TT} {H : Nat → TT} (a : AC x y W C S A N n T H) (hs : s < S) (ht : t < S) (hst : s ≠ t) (hp : gr y 5 s = some p) (hp' : gr y 5 t = some p') (h1 : z.2 = y.2) (h2 : ∀ b k, ¬ ((b = p ∨ b = p') ∧ 1 ≤ k ∧ k ≤ 3) → gi z b k = gi y b k) (h3 : ∀ k, 1 ≤ k → k ≤ 3 → gi z p k = gi y p' k ∧ gi z p' k = gi y p k) : AC x z W C S A N n (swT T s t) H := by
  have E := a.2.2.2.2
  have hS24 : S ≤ 24 := E.nums.2.2.2.2.2.2.1
  obtain ⟨j, hj, ej⟩ := E.2.1.2.2.2.2.2.1 s (by omega)
  have ep : p = 2 + 6 + j := Option.some.inj (hp.symm.trans ej)
  obtain ⟨j', hj', ej'⟩ := E.2.1.2.2.2.2.2.1 t (by omega)
  have ep' : p' = 2 + 6 + j' := Option.some.inj (hp'.symm.trans ej')
  exact a.up (fun b k g => h2 b k (by omega)) h1 (E.swp hs ht hst hp hp' h1 h2 h3)
end
set_option maxHeartbeats 2000000 in
theorem v_X7_whySwapFails_0 {K : Sh} {x : Cn} {Q : Int32 → Cn → Prop} {b0 : Nat} {l1 : Int32} {l2 : Int32} {b0_2 : Nat} {b0_2_7 : Nat} {n_b0_2_7 : Nat} (k_b0 : kk K b0 = some (7, 0)) (g_b0_2 : gr x b0 2 = some b0_2) (k_b0_2 : kk K b0_2 = some (4, 0)) (g_b0_2_7 : gr x b0_2 7 = some b0_2_7) (k_b0_2_7 : kk K b0_2_7 = some (23, n_b0_2_7)) (K0 : vp_in l1 n_b0_2_7 ∧ (∃ c_2 : Nat, gr x b0_2_7 ((l1 : Int32).toNatClampNeg) = some c_2 ∧ (vp_in l2 n_b0_2_7 ∧ (∃ c_5 : Nat, gr x b0_2_7 ((l2 : Int32).toNatClampNeg) = some c_5 ∧ (kk K c_2 = some (5, 0) ∧ ((¬ (gi x c_2 4) = 0 → (Q (-5) x)) ∧ ((gi x c_2 4) = 0 → (kk K c_5 = some (5, 0) ∧ (((gi x c_5 4) = 0 → ((¬ (gi x c_2 0) = (gi x c_5 0) → (mSV mX5_changeOver [.ref c_2, .ref c_5] K x (fun y_12 => gr y_12 b0 2 = some b0_2 ∧ (mSI mX4_hasPlace [.ref b0_2, .int (gi y_12 c_2 1), .int (gi y_12 c_2 2), .int (gi y_12 c_2 3), .int (f_held y_12 c_2), .int ((1 <<< (l1 &&& 31)) ||| (1 <<< (l2 &&& 31)))] K y_12 (fun r_15 y_14 => (r_15 = 0 → (mSV mX5_changeOver [.ref c_2, .ref c_5] K y_14 (fun y_17 => Q (-6) y_17))) ∧ (¬ r_15 = 0 → (gr y_14 b0 2 = some b0_2 ∧ (mSI mX4_hasPlace [.ref b0_2, .int (gi y_14 c_5 1), .int (gi y_14 c_5 2), .int (gi y_14 c_5 3), .int (f_held y_14 c_5), .int (1 <<< (l2 &&& 31))] K y_14 (fun r_20 y_19 => (r_20 = 0 → (mSV mX5_changeOver [.ref c_2, .ref c_5] K y_19 (fun y_22 => Q (-6) y_22))) ∧ (¬ r_20 = 0 → (mSV mX5_changeOver [.ref c_2, .ref c_5] K y_19 (fun y_23 => Q 0 y_23)))))))))))) ∧ ((gi x c_2 0) = (gi x c_5 0) → (Q (-6) x)))) ∧ (¬ (gi x c_5 4) = 0 → (Q (-5) x))))))))))) : mSI mX7_whySwapFails [.ref b0, .int l1, .int l2] K x Q := by
  refine s_I (by decide) (by simp [Value.category]) (Nat.le_of_ble_eq_true rfl) ?_
  show mGM mX7_whySwapFails 0 [some (.ref b0), some (.int l1), some (.int l2), none, none, none] [] (hp K x) (PI K Q)
  refine r_aload_n (pc := 0) dX7_whySwapFails_0 rfl ?_
  refine s_getR (pc := 1) dX7_whySwapFails_1 fl_X7_20 rfl k_b0 g_b0_2 ?_
  refine s_getR (pc := 4) dX7_whySwapFails_4 fl_X7_135 rfl k_b0_2 g_b0_2_7 ?_
  refine r_iload_n (pc := 7) dX7_whySwapFails_7 rfl ?_
  obtain ⟨i_1, K0⟩ := K0
  obtain ⟨c_2, g_3, K0⟩ := K0
  refine s_aald (pc := 8) dX7_whySwapFails_8 (by decide) rfl k_b0_2_7 i_1 g_3 ?_
  refine r_astore_n (pc := 9) dX7_whySwapFails_9 (by decide) ?_
  refine r_aload_n (pc := 10) (L := [some (.ref b0), some (.int l1), some (.int l2), some (.ref c_2), none, none]) dX7_whySwapFails_10 rfl ?_
  refine s_getR (pc := 11) dX7_whySwapFails_11 fl_X7_20 rfl k_b0 g_b0_2 ?_
  refine s_getR (pc := 14) dX7_whySwapFails_14 fl_X7_135 rfl k_b0_2 g_b0_2_7 ?_
  refine r_iload_n (pc := 17) dX7_whySwapFails_17 rfl ?_
  obtain ⟨i_4, K0⟩ := K0
  obtain ⟨c_5, g_6, K0⟩ := K0
  refine s_aald (pc := 18) dX7_whySwapFails_18 (by decide) rfl k_b0_2_7 i_4 g_6 ?_
  refine r_astore (pc := 19) dX7_whySwapFails_19 (by decide) ?_
  refine r_aload_n (pc := 21) (L := [some (.ref b0), some (.int l1), some (.int l2), some (.ref c_2), some (.ref c_5), none]) dX7_whySwapFails_21 rfl ?_
  obtain ⟨e_7, K0⟩ := K0
  refine s_getI (pc := 22) dX7_whySwapFails_22 fl_X7_153 rfl e_7 ?_
  refine r_if_ne (pc := 25) (tgt := 36) dX7_whySwapFails_25 (by decide) (fun q => ?_) (fun q => ?_)
  · have K0 := K0.1 q
    refine r_bipush (pc := 36) (v := (-5)) dX7_whySwapFails_36 (by decide) ?_
    exact s_iret rfl dX7_whySwapFails_38 K0
  · have K0 := K0.2 q
    refine r_aload (pc := 28) dX7_whySwapFails_28 rfl ?_
    obtain ⟨e_9, K0⟩ := K0
    refine s_getI (pc := 30) dX7_whySwapFails_30 fl_X7_153 rfl e_9 ?_
    refine r_if_eq (pc := 33) (tgt := 39) dX7_whySwapFails_33 (by decide) (fun q => ?_) (fun q => ?_)
    · have K0 := K0.1 q
      refine r_aload_n (pc := 39) dX7_whySwapFails_39 rfl ?_
      refine s_getI (pc := 40) dX7_whySwapFails_40 fl_X7_139 rfl e_7 ?_
      refine r_aload (pc := 43) dX7_whySwapFails_43 rfl ?_
      refine s_getI (pc := 45) dX7_whySwapFails_45 fl_X7_139 rfl e_9 ?_
      refine r_icmp_ne (pc := 48) (tgt := 54) dX7_whySwapFails_48 (by decide) (fun q => ?_) (fun q => ?_)
      · have K0 := K0.1 q
        refine r_aload_n (pc := 54) dX7_whySwapFails_54 rfl ?_
        refine r_aload (pc := 55) dX7_whySwapFails_55 rfl ?_
        refine s_VV (pc := 57) mX5_changeOver (ci := 5) (a := c_2) (As := [.ref c_5]) dX7_whySwapFails_57 lk_X7_354 in_X5_changeOver mo_X5_changeOver ⟨by decide, rfl⟩ ⟨by decide, by decide⟩ (Nat.le_of_ble_eq_true rfl) e_7 (mSV_mono K0 (fun y_12 K0 => ?_))
        refine r_aload_n (pc := 60) dX7_whySwapFails_60 rfl ?_
        obtain ⟨g_13, K0⟩ := K0
        refine s_getR (pc := 61) dX7_whySwapFails_61 fl_X7_20 rfl k_b0 g_13 ?_
        refine r_aload_n (pc := 64) dX7_whySwapFails_64 rfl ?_
        refine s_getI (pc := 65) dX7_whySwapFails_65 fl_X7_144 rfl e_7 ?_
        refine r_aload_n (pc := 68) dX7_whySwapFails_68 rfl ?_
        refine s_getI (pc := 69) dX7_whySwapFails_69 fl_X7_147 rfl e_7 ?_
        refine r_aload_n (pc := 72) dX7_whySwapFails_72 rfl ?_
        refine s_getI (pc := 73) dX7_whySwapFails_73 fl_X7_150 rfl e_7 ?_
        refine r_aload_n (pc := 76) dX7_whySwapFails_76 rfl ?_
        refine s_VI (pc := 77) mX5_heldBits (ci := 5) (a := c_2) (As := []) dX7_whySwapFails_77 lk_X7_272 in_X5_heldBits mo_X5_heldBits ⟨by decide, rfl⟩ ⟨by decide, by decide⟩ (Nat.le_of_ble_eq_true rfl) e_7 (sp_X5_heldBits e_7 ?_)
        refine r_iconst (pc := 80) (v := 1) dX7_whySwapFails_80 (by decide) ?_
        refine r_iload_n (pc := 81) dX7_whySwapFails_81 rfl ?_
        refine r_ishl (pc := 82) dX7_whySwapFails_82 ?_
        refine r_iconst (pc := 83) (v := 1) dX7_whySwapFails_83 (by decide) ?_
        refine r_iload_n (pc := 84) dX7_whySwapFails_84 rfl ?_
        refine r_ishl (pc := 85) dX7_whySwapFails_85 ?_
        refine r_ior (pc := 86) dX7_whySwapFails_86 ?_
        refine s_VI (pc := 87) mX4_hasPlace (ci := 4) (a := b0_2) (As := [.int (gi y_12 c_2 1), .int (gi y_12 c_2 2), .int (gi y_12 c_2 3), .int (f_held y_12 c_2), .int ((1 <<< (l1 &&& 31)) ||| (1 <<< (l2 &&& 31)))]) dX7_whySwapFails_87 lk_X7_295 in_X4_hasPlace mo_X4_hasPlace ⟨by decide, rfl⟩ ⟨by decide, by decide⟩ (Nat.le_of_ble_eq_true rfl) k_b0_2 (mSI_mono K0 (fun r_15 y_14 K0 => ?_))
        refine r_if_eq (pc := 90) (tgt := 130) dX7_whySwapFails_90 (by decide) (fun q => ?_) (fun q => ?_)
        · have K0 := K0.1 q
          refine r_iconst (pc := 130) (v := 0) dX7_whySwapFails_130 (by decide) ?_
          refine r_istore (pc := 131) dX7_whySwapFails_131 (by decide) ?_
          refine r_aload_n (pc := 133) (L := [some (.ref b0), some (.int l1), some (.int l2), some (.ref c_2), some (.ref c_5), some (.int 0)]) dX7_whySwapFails_133 rfl ?_
          refine r_aload (pc := 134) dX7_whySwapFails_134 rfl ?_
          refine s_VV (pc := 136) mX5_changeOver (ci := 5) (a := c_2) (As := [.ref c_5]) dX7_whySwapFails_136 lk_X7_354 in_X5_changeOver mo_X5_changeOver ⟨by decide, rfl⟩ ⟨by decide, by decide⟩ (Nat.le_of_ble_eq_true rfl) e_7 (mSV_mono K0 (fun y_17 K0 => ?_))
          refine r_iload (pc := 139) dX7_whySwapFails_139 rfl ?_
          refine r_if_eq (pc := 141) (tgt := 148) dX7_whySwapFails_141 (by decide) (fun _ => ?_) (fun q => by first | exact absurd q (by decide) | exact absurd (by decide) q)
          refine r_bipush (pc := 148) (v := (-6)) dX7_whySwapFails_148 (by decide) ?_
          exact s_iret rfl dX7_whySwapFails_150 K0
        · have K0 := K0.2 q
          refine r_aload_n (pc := 93) dX7_whySwapFails_93 rfl ?_
          obtain ⟨g_18, K0⟩ := K0
          refine s_getR (pc := 94) dX7_whySwapFails_94 fl_X7_20 rfl k_b0 g_18 ?_
          refine r_aload (pc := 97) dX7_whySwapFails_97 rfl ?_
          refine s_getI (pc := 99) dX7_whySwapFails_99 fl_X7_144 rfl e_9 ?_
          refine r_aload (pc := 102) dX7_whySwapFails_102 rfl ?_
          refine s_getI (pc := 104) dX7_whySwapFails_104 fl_X7_147 rfl e_9 ?_
          refine r_aload (pc := 107) dX7_whySwapFails_107 rfl ?_
          refine s_getI (pc := 109) dX7_whySwapFails_109 fl_X7_150 rfl e_9 ?_
          refine r_aload (pc := 112) dX7_whySwapFails_112 rfl ?_
          refine s_VI (pc := 114) mX5_heldBits (ci := 5) (a := c_5) (As := []) dX7_whySwapFails_114 lk_X7_272 in_X5_heldBits mo_X5_heldBits ⟨by decide, rfl⟩ ⟨by decide, by decide⟩ (Nat.le_of_ble_eq_true rfl) e_9 (sp_X5_heldBits e_9 ?_)
          refine r_iconst (pc := 117) (v := 1) dX7_whySwapFails_117 (by decide) ?_
          refine r_iload_n (pc := 118) dX7_whySwapFails_118 rfl ?_
          refine r_ishl (pc := 119) dX7_whySwapFails_119 ?_
          refine s_VI (pc := 120) mX4_hasPlace (ci := 4) (a := b0_2) (As := [.int (gi y_14 c_5 1), .int (gi y_14 c_5 2), .int (gi y_14 c_5 3), .int (f_held y_14 c_5), .int (1 <<< (l2 &&& 31))]) dX7_whySwapFails_120 lk_X7_295 in_X4_hasPlace mo_X4_hasPlace ⟨by decide, rfl⟩ ⟨by decide, by decide⟩ (Nat.le_of_ble_eq_true rfl) k_b0_2 (mSI_mono K0 (fun r_20 y_19 K0 => ?_))
          refine r_if_eq (pc := 123) (tgt := 130) dX7_whySwapFails_123 (by decide) (fun q => ?_) (fun q => ?_)
          · have K0 := K0.1 q
            refine r_iconst (pc := 130) (v := 0) dX7_whySwapFails_130 (by decide) ?_
            refine r_istore (pc := 131) dX7_whySwapFails_131 (by decide) ?_
            refine r_aload_n (pc := 133) (L := [some (.ref b0), some (.int l1), some (.int l2), some (.ref c_2), some (.ref c_5), some (.int 0)]) dX7_whySwapFails_133 rfl ?_
            refine r_aload (pc := 134) dX7_whySwapFails_134 rfl ?_
            refine s_VV (pc := 136) mX5_changeOver (ci := 5) (a := c_2) (As := [.ref c_5]) dX7_whySwapFails_136 lk_X7_354 in_X5_changeOver mo_X5_changeOver ⟨by decide, rfl⟩ ⟨by decide, by decide⟩ (Nat.le_of_ble_eq_true rfl) e_7 (mSV_mono K0 (fun y_22 K0 => ?_))
            refine r_iload (pc := 139) dX7_whySwapFails_139 rfl ?_
            refine r_if_eq (pc := 141) (tgt := 148) dX7_whySwapFails_141 (by decide) (fun _ => ?_) (fun q => by first | exact absurd q (by decide) | exact absurd (by decide) q)
            refine r_bipush (pc := 148) (v := (-6)) dX7_whySwapFails_148 (by decide) ?_
            exact s_iret rfl dX7_whySwapFails_150 K0
          · have K0 := K0.2 q
            refine r_iconst (pc := 126) (v := 1) dX7_whySwapFails_126 (by decide) ?_
            refine r_goto (pc := 127) (tgt := 131) dX7_whySwapFails_127 (by decide) ?_
            refine r_istore (pc := 131) dX7_whySwapFails_131 (by decide) ?_
            refine r_aload_n (pc := 133) (L := [some (.ref b0), some (.int l1), some (.int l2), some (.ref c_2), some (.ref c_5), some (.int 1)]) dX7_whySwapFails_133 rfl ?_
            refine r_aload (pc := 134) dX7_whySwapFails_134 rfl ?_
            refine s_VV (pc := 136) mX5_changeOver (ci := 5) (a := c_2) (As := [.ref c_5]) dX7_whySwapFails_136 lk_X7_354 in_X5_changeOver mo_X5_changeOver ⟨by decide, rfl⟩ ⟨by decide, by decide⟩ (Nat.le_of_ble_eq_true rfl) e_7 (mSV_mono K0 (fun y_23 K0 => ?_))
            refine r_iload (pc := 139) dX7_whySwapFails_139 rfl ?_
            refine r_if_eq (pc := 141) (tgt := 148) dX7_whySwapFails_141 (by decide) (fun q => by first | exact absurd q (by decide) | exact absurd (by decide) q) (fun _ => ?_)
            refine r_iconst (pc := 144) (v := 0) dX7_whySwapFails_144 (by decide) ?_
            refine r_goto (pc := 145) (tgt := 150) dX7_whySwapFails_145 (by decide) ?_
            exact s_iret rfl dX7_whySwapFails_150 K0
      · have K0 := K0.2 q
        refine r_bipush (pc := 51) (v := (-6)) dX7_whySwapFails_51 (by decide) ?_
        exact s_iret rfl dX7_whySwapFails_53 K0
    · have K0 := K0.2 q
      refine r_bipush (pc := 36) (v := (-5)) dX7_whySwapFails_36 (by decide) ?_
      exact s_iret rfl dX7_whySwapFails_38 K0
section
theorem sp_X7_whySwapFails {x y : Cn} {Q : Int32 → Cn → Prop} {W C S A N n s t : Nat} {T : TT} {H : Nat → TT} (a : AC x y W C S A N n T H) (hs : s < S) (ht : t < S) (k1 : ¬ (so T s 4 = 0 ∧ so T t 4 = 0) → Q (-5) y) (k2 : so T s 4 = 0 ∧ so T t 4 = 0 → ¬ csw T S N s t → ∀ z, AC x z W C S A N n T H → Q (-6) z) (k3 : so T s 4 = 0 ∧ so T t 4 = 0 → csw T S N s t → ∀ z, AC x z W C S A N n T H → Q 0 z) : mSI mX7_whySwapFails [.ref 0, .int (nI s), .int (nI t)] KW y Q := by
  have E := a.2.2.2.2
  have hS : S ≤ 24 := E.nums.2.2.2.2.2.2.1
  obtain ⟨p, p1, p2, p3, p4, p5, p6⟩ := E.ser hs
  obtain ⟨p', q1, q2, q3, q4, q5, q6⟩ := E.ser ht
  refine v_X7_whySwapFails_0 k0 a.2.1.2.1 (ks0 E.1) E.2.1.2.2.1 (ks3 E.1) ?_
  rw [nI_clamp (show s < 2 ^ 31 by omega), nI_clamp (show t < 2 ^ 31 by omega)]
  refine ⟨vp_in_nI (by omega) (by decide), p, p1, vp_in_nI (by omega) (by decide), p', q1, p2, ?_⟩
  rw [p3.1 4 (by decide) (by decide), q3.1 4 (by decide) (by decide), p3.1 0 (by decide) (by decide), q3.1 0 (by decide) (by decide)]
  refine ⟨fun z => k1 (fun u => z u.1), fun z1 => ⟨q2, fun z2 => ⟨fun z3 => ?_, fun z3 => k2 ⟨z1, z2⟩ (fun u => u.1 z3) y a⟩, fun z2 => k1 (fun u => z2 u.2)⟩⟩
  have hst : s ≠ t := fun u => z3 (by rw [u])
  have hne : p ≠ p' := fun u => hst (E.2.1.2.2.2.2.2.2.1 s t (by omega) (by omega) (by rw [p1, q1, u]))
  have back : ∀ (v : Cn) (G : Cn → Prop), AC x v W C S A N n (swT T s t) H → gr v 5 s = some p → gr v 5 t = some p' → (∀ w, AC x w W C S A N n T H → G w) → mSV mX5_changeOver [.ref p, .ref p'] KW v G := by
    intro v G av g1 g2 k
    refine sp_X5_changeOver p2 q2 hne (fun w w1 w2 w3 => k w ?_)
    have := av.swp hs ht hst g1 g2 w1 w2 w3
    rw [swT_swT hst] at this
    exact this
  refine sp_X5_changeOver p2 q2 hne (fun v v1 v2 v3 => ?_)
  have av := a.swp hs ht hst p1 q1 v1 v2 v3
  have hgv : ∀ b k, gr v b k = gr y b k := fun b k => by unfold gr; rw [v1]
  have Ev := av.2.2.2.2
  obtain ⟨p0, pp1, pp2, pp3, pp4, pp5, pp6⟩ := Ev.ser hs
  have e0 : p0 = p := Option.some.inj (pp1.symm.trans ((hgv 5 s).trans p1))
  subst e0
  have hd := pp6.dh
  refine ⟨av.2.1.2.1, ?_⟩
  rw [pp3.1 1 (by decide) (by decide), pp3.1 2 (by decide) (by decide), pp3.1 3 (by decide) (by decide), pp4, hd.2.2.2]
  refine sp_X4_hasPlace Ev hd.2.2.1 (fun w f => ?_)
  have aw := av.e7 f
  have hgw : ∀ b k, gr w b k = gr y b k := fun b k => by unfold gr; rw [f.1, v1]
  refine ⟨fun z => back w _ aw ((hgw 5 s).trans p1) ((hgw 5 t).trans q1) (k2 ⟨z1, z2⟩ (fun u => bP_z.mp z u.2.1)), fun z4 => ?_⟩
  have Ew := aw.2.2.2.2
  obtain ⟨p0', qq1, qq2, qq3, qq4, qq5, qq6⟩ := Ew.ser ht
  have e0' : p0' = p' := Option.some.inj (qq1.symm.trans ((hgw 5 t).trans q1))
  subst e0'
  have hd' := qq6.dh
  refine ⟨aw.2.1.2.1, ?_⟩
  rw [qq3.1 1 (by decide) (by decide), qq3.1 2 (by decide) (by decide), qq3.1 3 (by decide) (by decide), qq4, hd'.2.2.2]
  refine sp_X4_hasPlace Ew hd'.2.2.1 (fun w2 f2 => ?_)
  have aw2 := aw.e7 f2
  have hgw2 : ∀ b k, gr w2 b k = gr y b k := fun b k => by unfold gr; rw [f2.1, f.1, v1]
  refine ⟨fun z => back w2 _ aw2 ((hgw2 5 s).trans p1) ((hgw2 5 t).trans q1) (k2 ⟨z1, z2⟩ (fun u => bP_z.mp z u.2.2)), fun z5 => back w2 _ aw2 ((hgw2 5 s).trans p1) ((hgw2 5 t).trans q1) (k3 ⟨z1, z2⟩ ⟨z3, ?_, ?_⟩)⟩
  · exact Classical.byContradiction (fun g => z4 (bP_z.mpr g))
  · exact Classical.byContradiction (fun g => z5 (bP_z.mpr g))
end
set_option maxHeartbeats 2000000 in
theorem v_X8_changesOver_0 {K : Sh} {x : Cn} {Q : Cn → Prop} {b0 : Nat} {l1 : Int32} {l2 : Int32}   (K0 : GV mX8_changesOver 2 [some (.ref b0), some (.int l1), some (.int l2), some (.int 1), none] [] K x Q) : mSV mX8_changesOver [.ref b0, .int l1, .int l2] K x Q := by
  refine s_V (by decide) (by simp [Value.category]) (Nat.le_of_ble_eq_true rfl) ?_
  show mGM mX8_changesOver 0 [some (.ref b0), some (.int l1), some (.int l2), none, none] [] (hp K x) (PV K Q)
  refine r_iconst (pc := 0) (v := 1) dX8_changesOver_0 (by decide) ?_
  refine r_istore_n (pc := 1) dX8_changesOver_1 (by decide) ?_
  exact r_le (L' := [some (.ref b0), some (.int l1), some (.int l2), some (.int 1), none]) ⟨rfl, ⟨rfl, ⟨rfl, ⟨rfl, trivial⟩⟩⟩⟩ K0
set_option maxHeartbeats 2000000 in
theorem v_X8_changesOver_2 {K : Sh} {x : Cn} {Q : Cn → Prop} {b0 : Nat} {l1 : Int32} {l2 : Int32} {l3 : Int32} {b0_3 : Nat} {n_b0_3 : Nat} (k_b0 : kk K b0 = some (8, 0)) (g_b0_3 : gr x b0 3 = some b0_3) (k_b0_3 : kk K b0_3 = some (20, n_b0_3)) (K0 : (3 < l3 → (Q x)) ∧ (¬ 3 < l3 → ((l24 l1 n_b0_3) ∧ ((l12 l3) ∧ ((l24 l2 n_b0_3) ∧ (mSV mX8_lays [.ref b0, .int l1, .int l3, .int (so (gi x b0_3) (l2 : Int32).toNatClampNeg (l3 : Int32).toNatClampNeg)] K x (fun y_5 => mSV mX8_lays [.ref b0, .int l2, .int l3, .int (so (gi x b0_3) (l1 : Int32).toNatClampNeg (l3 : Int32).toNatClampNeg)] K y_5 (fun y_6 => GV mX8_changesOver 2 [some (.ref b0), some (.int l1), some (.int l2), some (.int (l3 + 1)), none] [] K y_6 Q)))))))) : GV mX8_changesOver 2 [some (.ref b0), some (.int l1), some (.int l2), some (.int l3), none] [] K x Q := by
  show mGM mX8_changesOver 2 [some (.ref b0), some (.int l1), some (.int l2), some (.int l3), none] [] (hp K x) (PV K Q)
  refine r_iload_n (pc := 2) dX8_changesOver_2 rfl ?_
  refine r_iconst (pc := 3) (v := 3) dX8_changesOver_3 (by decide) ?_
  refine r_icmp_gt (pc := 4) (tgt := 41) dX8_changesOver_4 (by decide) (fun q => ?_) (fun q => ?_)
  · have K0 := K0.1 q
    exact s_ret rfl dX8_changesOver_41 K0
  · have K0 := K0.2 q
    refine r_aload_n (pc := 7) dX8_changesOver_7 rfl ?_
    refine r_iload_n (pc := 8) dX8_changesOver_8 rfl ?_
    refine r_iload_n (pc := 9) dX8_changesOver_9 rfl ?_
    obtain ⟨p_2, K0⟩ := K0
    obtain ⟨p_3, K0⟩ := K0
    refine s_VI (pc := 10) mX8_one (ci := 8) (a := b0) (As := [.int l1, .int l3]) dX8_changesOver_10 lk_X8_67 in_X8_one mo_X8_one ⟨by decide, rfl⟩ ⟨by decide, by decide⟩ (Nat.le_of_ble_eq_true rfl) k_b0 (sr_X8_one k_b0 g_b0_3 k_b0_3 p_2 p_3 ?_)
    refine r_istore (pc := 13) dX8_changesOver_13 (by decide) ?_
    refine r_aload_n (pc := 15) (L := [some (.ref b0), some (.int l1), some (.int l2), some (.int l3), some (.int (so (gi x b0_3) (l1 : Int32).toNatClampNeg (l3 : Int32).toNatClampNeg))]) dX8_changesOver_15 rfl ?_
    refine r_iload_n (pc := 16) dX8_changesOver_16 rfl ?_
    refine r_iload_n (pc := 17) dX8_changesOver_17 rfl ?_
    refine r_aload_n (pc := 18) dX8_changesOver_18 rfl ?_
    refine r_iload_n (pc := 19) dX8_changesOver_19 rfl ?_
    refine r_iload_n (pc := 20) dX8_changesOver_20 rfl ?_
    obtain ⟨p_4, K0⟩ := K0
    refine s_VI (pc := 21) mX8_one (ci := 8) (a := b0) (As := [.int l2, .int l3]) dX8_changesOver_21 lk_X8_67 in_X8_one mo_X8_one ⟨by decide, rfl⟩ ⟨by decide, by decide⟩ (Nat.le_of_ble_eq_true rfl) k_b0 (sr_X8_one k_b0 g_b0_3 k_b0_3 p_4 p_3 ?_)
    refine s_VV (pc := 24) mX8_lays (ci := 8) (a := b0) (As := [.int l1, .int l3, .int (so (gi x b0_3) (l2 : Int32).toNatClampNeg (l3 : Int32).toNatClampNeg)]) dX8_changesOver_24 lk_X8_230 in_X8_lays mo_X8_lays ⟨by decide, rfl⟩ ⟨by decide, by decide⟩ (Nat.le_of_ble_eq_true rfl) k_b0 (mSV_mono K0 (fun y_5 K0 => ?_))
    refine r_aload_n (pc := 27) dX8_changesOver_27 rfl ?_
    refine r_iload_n (pc := 28) dX8_changesOver_28 rfl ?_
    refine r_iload_n (pc := 29) dX8_changesOver_29 rfl ?_
    refine r_iload (pc := 30) dX8_changesOver_30 rfl ?_
    refine s_VV (pc := 32) mX8_lays (ci := 8) (a := b0) (As := [.int l2, .int l3, .int (so (gi x b0_3) (l1 : Int32).toNatClampNeg (l3 : Int32).toNatClampNeg)]) dX8_changesOver_32 lk_X8_230 in_X8_lays mo_X8_lays ⟨by decide, rfl⟩ ⟨by decide, by decide⟩ (Nat.le_of_ble_eq_true rfl) k_b0 (mSV_mono K0 (fun y_6 K0 => ?_))
    refine r_iinc (pc := 35) (v := l3 + 1) dX8_changesOver_35 rfl rfl (by decide) ?_
    refine r_goto (pc := 38) (L := [some (.ref b0), some (.int l1), some (.int l2), some (.int (l3 + 1)), some (.int (so (gi x b0_3) (l1 : Int32).toNatClampNeg (l3 : Int32).toNatClampNeg))]) (tgt := 2) dX8_changesOver_38 (by decide) ?_
    exact r_le (L' := [some (.ref b0), some (.int l1), some (.int l2), some (.int (l3 + 1)), none]) ⟨rfl, ⟨rfl, ⟨rfl, ⟨rfl, trivial⟩⟩⟩⟩ K0
section
theorem sp_X8_changesOver {x : Cn} {Q : Cn → Prop} {n s t : Nat} {T : TT} {H : Nat → TT} (r : RS x T n H) (hs : s < 24) (ht : t < 24) (hst : s ≠ t) (q : ∀ y, RFr x y → RS y (swT T s t) n H → Q y) : mSV mX8_changesOver [.ref 717, .int (nI s), .int (nI t)] KW x Q := by
  have key : ∀ c m y, m + c = 4 → 1 ≤ m → RFr x y → RS y (swK T s t m) n H → GV mX8_changesOver 2 [some (.ref 717), some (.int (nI s)), some (.int (nI t)), some (.int (nI m)), none] [] KW y Q := by
    intro c
    induction c with
    | zero =>
      intro m y hm h0 f r1
      have : m = 4 := by omega
      subst this
      exact v_X8_changesOver_2 km r1.1.2.2.1 km1 ⟨fun _ => q y f r1, fun z => absurd (by decide) z⟩
    | succ c ih =>
      intro m y hm h0 f r1
      refine v_X8_changesOver_2 km r1.1.2.2.1 km1 ⟨fun z => absurd z (nI_nlt (a := 3) (b := m) (by omega) (by decide)), fun _ => ⟨l24_nI hs rfl, ⟨nI_pos' (by omega), nI_lt (b := 12) (by omega) (by decide)⟩, l24_nI ht rfl, ?_⟩⟩
      rw [nI_1, nI_clamp (show m < 2 ^ 31 by omega), nI_clamp (show s < 2 ^ 31 by omega), nI_clamp (show t < 2 ^ 31 by omega)]
      refine sp_X8_lays (k := m) r1.1 km1 hs (by omega) ?_
      have r2 := r1.u8 (k := 62 + 12 * s + m) (v := so (gi y 718) t m)
      refine sp_X8_lays (k := m) r2.1 km1 ht (by omega) (ih (m + 1) _ (by omega) (by omega) f.u8.u8 ?_)
      have r3 := r2.u8 (k := 62 + 12 * t + m) (v := so (gi y 718) s m)
      have e : uT (uT (swK T s t m) (62 + 12 * s + m) (so (gi y 718) t m)) (62 + 12 * t + m) (so (gi y 718) s m) = swK T s t (m + 1) := by
        funext i
        rw [r1.2.1, so_swN (by omega) (by omega) (by omega), so_swN (by omega) (by omega) (by omega)]
        unfold uT
        by_cases c1 : i = 62 + 12 * t + m
        · rw [if_pos c1]
          unfold swK so
          rw [if_neg (by omega), if_pos (by omega)]
          congr 1
          omega
        · rw [if_neg c1]
          by_cases c2 : i = 62 + 12 * s + m
          · rw [if_pos c2]
            unfold swK so
            rw [if_pos (by omega)]
            congr 1
            omega
          · rw [if_neg c2]
            unfold swK
            by_cases c3 : 63 + 12 * s ≤ i ∧ i < 62 + 12 * s + m
            · rw [if_pos c3, if_pos (by omega)]
            · rw [if_neg c3, if_neg (show ¬ (63 + 12 * s ≤ i ∧ i < 62 + 12 * s + (m + 1)) by omega)]
              by_cases c4 : 63 + 12 * t ≤ i ∧ i < 62 + 12 * t + m
              · rw [if_pos c4, if_pos (by omega)]
              · rw [if_neg c4, if_neg (by omega)]
      rw [e] at r3
      exact r3
  refine v_X8_changesOver_0 (key 3 1 x (by omega) (by omega) (RFr.rf x) ?_)
  have e : swK T s t 1 = T := by
    funext i
    unfold swK
    rw [if_neg (by omega), if_neg (by omega)]
  rw [e]
  exact r
end
set_option maxHeartbeats 2000000 in
theorem v_X8_canSwap_0 {K : Sh} {x : Cn} {Q : Int32 → Cn → Prop} {b0 : Nat} {l1 : Int32} {l2 : Int32} {b0_3 : Nat} {n_b0_3 : Nat} (k_b0 : kk K b0 = some (8, 0)) (g_b0_3 : gr x b0 3 = some b0_3) (k_b0_3 : kk K b0_3 = some (20, n_b0_3)) (K0 : (l24 l1 n_b0_3) ∧ ((l24 l2 n_b0_3) ∧ ((¬ (so (gi x b0_3) (l1 : Int32).toNatClampNeg 0) = (so (gi x b0_3) (l2 : Int32).toNatClampNeg 0) → (mSV mX8_changesOver [.ref b0, .int l1, .int l2] K x (fun y_4 => gr y_4 b0 3 = some b0_3 ∧ (mSV mX8_lays [.ref b0, .int l2, .int 1, .int 7] K y_4 (fun y_6 => gr y_6 b0 3 = some b0_3 ∧ (mSI mX8_canBeAt [.ref b0, .int l1, .int (so (gi y_6 b0_3) (l1 : Int32).toNatClampNeg 2)] K y_6 (fun r_9 y_8 => mSV mX8_lays [.ref b0, .int l2, .int 1, .int (so (gi y_4 b0_3) (l2 : Int32).toNatClampNeg 1)] K y_8 (fun y_10 => (r_9 = 0 → (mSV mX8_changesOver [.ref b0, .int l1, .int l2] K y_10 (fun y_12 => Q 0 y_12))) ∧ (¬ r_9 = 0 → (gr y_10 b0 3 = some b0_3 ∧ (mSI mX8_canBeAt [.ref b0, .int l2, .int (so (gi y_10 b0_3) (l2 : Int32).toNatClampNeg 2)] K y_10 (fun r_15 y_14 => (r_15 = 0 → (mSV mX8_changesOver [.ref b0, .int l1, .int l2] K y_14 (fun y_17 => Q 0 y_17))) ∧ (¬ r_15 = 0 → (mSV mX8_changesOver [.ref b0, .int l1, .int l2] K y_14 (fun y_18 => Q 1 y_18))))))))))))))) ∧ ((so (gi x b0_3) (l1 : Int32).toNatClampNeg 0) = (so (gi x b0_3) (l2 : Int32).toNatClampNeg 0) → (Q 0 x))))) : mSI mX8_canSwap [.ref b0, .int l1, .int l2] K x Q := by
  refine s_I (by decide) (by simp [Value.category]) (Nat.le_of_ble_eq_true rfl) ?_
  show mGM mX8_canSwap 0 [some (.ref b0), some (.int l1), some (.int l2), none, none] [] (hp K x) (PI K Q)
  refine r_aload_n (pc := 0) dX8_canSwap_0 rfl ?_
  refine r_iload_n (pc := 1) dX8_canSwap_1 rfl ?_
  refine r_iconst (pc := 2) (v := 0) dX8_canSwap_2 (by decide) ?_
  obtain ⟨p_1, K0⟩ := K0
  refine s_VI (pc := 3) mX8_one (ci := 8) (a := b0) (As := [.int l1, .int 0]) dX8_canSwap_3 lk_X8_67 in_X8_one mo_X8_one ⟨by decide, rfl⟩ ⟨by decide, by decide⟩ (Nat.le_of_ble_eq_true rfl) k_b0 (sr_X8_one k_b0 g_b0_3 k_b0_3 p_1 ⟨by decide, by decide⟩ ?_)
  refine r_aload_n (pc := 6) dX8_canSwap_6 rfl ?_
  refine r_iload_n (pc := 7) dX8_canSwap_7 rfl ?_
  refine r_iconst (pc := 8) (v := 0) dX8_canSwap_8 (by decide) ?_
  obtain ⟨p_2, K0⟩ := K0
  refine s_VI (pc := 9) mX8_one (ci := 8) (a := b0) (As := [.int l2, .int 0]) dX8_canSwap_9 lk_X8_67 in_X8_one mo_X8_one ⟨by decide, rfl⟩ ⟨by decide, by decide⟩ (Nat.le_of_ble_eq_true rfl) k_b0 (sr_X8_one k_b0 g_b0_3 k_b0_3 p_2 ⟨by decide, by decide⟩ ?_)
  refine r_icmp_ne (pc := 12) (tgt := 17) dX8_canSwap_12 (by decide) (fun q => ?_) (fun q => ?_)
  · have K0 := K0.1 q
    refine r_aload_n (pc := 17) dX8_canSwap_17 rfl ?_
    refine r_iload_n (pc := 18) dX8_canSwap_18 rfl ?_
    refine r_iload_n (pc := 19) dX8_canSwap_19 rfl ?_
    refine s_VV (pc := 20) mX8_changesOver (ci := 8) (a := b0) (As := [.int l1, .int l2]) dX8_canSwap_20 lk_X8_379 in_X8_changesOver mo_X8_changesOver ⟨by decide, rfl⟩ ⟨by decide, by decide⟩ (Nat.le_of_ble_eq_true rfl) k_b0 (mSV_mono K0 (fun y_4 K0 => ?_))
    refine r_aload_n (pc := 23) dX8_canSwap_23 rfl ?_
    refine r_iload_n (pc := 24) dX8_canSwap_24 rfl ?_
    refine r_iconst (pc := 25) (v := 1) dX8_canSwap_25 (by decide) ?_
    obtain ⟨g_5, K0⟩ := K0
    refine s_VI (pc := 26) mX8_one (ci := 8) (a := b0) (As := [.int l2, .int 1]) dX8_canSwap_26 lk_X8_67 in_X8_one mo_X8_one ⟨by decide, rfl⟩ ⟨by decide, by decide⟩ (Nat.le_of_ble_eq_true rfl) k_b0 (sr_X8_one k_b0 g_5 k_b0_3 p_2 ⟨by decide, by decide⟩ ?_)
    refine r_istore_n (pc := 29) dX8_canSwap_29 (by decide) ?_
    refine r_aload_n (pc := 30) (L := [some (.ref b0), some (.int l1), some (.int l2), some (.int (so (gi y_4 b0_3) (l2 : Int32).toNatClampNeg 1)), none]) dX8_canSwap_30 rfl ?_
    refine r_iload_n (pc := 31) dX8_canSwap_31 rfl ?_
    refine r_iconst (pc := 32) (v := 1) dX8_canSwap_32 (by decide) ?_
    refine r_bipush (pc := 33) (v := 7) dX8_canSwap_33 (by decide) ?_
    refine s_VV (pc := 35) mX8_lays (ci := 8) (a := b0) (As := [.int l2, .int 1, .int 7]) dX8_canSwap_35 lk_X8_230 in_X8_lays mo_X8_lays ⟨by decide, rfl⟩ ⟨by decide, by decide⟩ (Nat.le_of_ble_eq_true rfl) k_b0 (mSV_mono K0 (fun y_6 K0 => ?_))
    refine r_aload_n (pc := 38) dX8_canSwap_38 rfl ?_
    refine r_iload_n (pc := 39) dX8_canSwap_39 rfl ?_
    refine r_aload_n (pc := 40) dX8_canSwap_40 rfl ?_
    refine r_iload_n (pc := 41) dX8_canSwap_41 rfl ?_
    refine r_iconst (pc := 42) (v := 2) dX8_canSwap_42 (by decide) ?_
    obtain ⟨g_7, K0⟩ := K0
    refine s_VI (pc := 43) mX8_one (ci := 8) (a := b0) (As := [.int l1, .int 2]) dX8_canSwap_43 lk_X8_67 in_X8_one mo_X8_one ⟨by decide, rfl⟩ ⟨by decide, by decide⟩ (Nat.le_of_ble_eq_true rfl) k_b0 (sr_X8_one k_b0 g_7 k_b0_3 p_1 ⟨by decide, by decide⟩ ?_)
    refine s_VI (pc := 46) mX8_canBeAt (ci := 8) (a := b0) (As := [.int l1, .int (so (gi y_6 b0_3) (l1 : Int32).toNatClampNeg 2)]) dX8_canSwap_46 lk_X8_360 in_X8_canBeAt mo_X8_canBeAt ⟨by decide, rfl⟩ ⟨by decide, by decide⟩ (Nat.le_of_ble_eq_true rfl) k_b0 (mSI_mono K0 (fun r_9 y_8 K0 => ?_))
    refine r_istore (pc := 49) dX8_canSwap_49 (by decide) ?_
    refine r_aload_n (pc := 51) (L := [some (.ref b0), some (.int l1), some (.int l2), some (.int (so (gi y_4 b0_3) (l2 : Int32).toNatClampNeg 1)), some (.int r_9)]) dX8_canSwap_51 rfl ?_
    refine r_iload_n (pc := 52) dX8_canSwap_52 rfl ?_
    refine r_iconst (pc := 53) (v := 1) dX8_canSwap_53 (by decide) ?_
    refine r_iload_n (pc := 54) dX8_canSwap_54 rfl ?_
    refine s_VV (pc := 55) mX8_lays (ci := 8) (a := b0) (As := [.int l2, .int 1, .int (so (gi y_4 b0_3) (l2 : Int32).toNatClampNeg 1)]) dX8_canSwap_55 lk_X8_230 in_X8_lays mo_X8_lays ⟨by decide, rfl⟩ ⟨by decide, by decide⟩ (Nat.le_of_ble_eq_true rfl) k_b0 (mSV_mono K0 (fun y_10 K0 => ?_))
    refine r_iload (pc := 58) dX8_canSwap_58 rfl ?_
    refine r_if_eq (pc := 60) (tgt := 81) dX8_canSwap_60 (by decide) (fun q => ?_) (fun q => ?_)
    · have K0 := K0.1 q
      refine r_iconst (pc := 81) (v := 0) dX8_canSwap_81 (by decide) ?_
      refine r_istore (pc := 82) dX8_canSwap_82 (by decide) ?_
      refine r_aload_n (pc := 84) (L := [some (.ref b0), some (.int l1), some (.int l2), some (.int (so (gi y_4 b0_3) (l2 : Int32).toNatClampNeg 1)), some (.int 0)]) dX8_canSwap_84 rfl ?_
      refine r_iload_n (pc := 85) dX8_canSwap_85 rfl ?_
      refine r_iload_n (pc := 86) dX8_canSwap_86 rfl ?_
      refine s_VV (pc := 87) mX8_changesOver (ci := 8) (a := b0) (As := [.int l1, .int l2]) dX8_canSwap_87 lk_X8_379 in_X8_changesOver mo_X8_changesOver ⟨by decide, rfl⟩ ⟨by decide, by decide⟩ (Nat.le_of_ble_eq_true rfl) k_b0 (mSV_mono K0 (fun y_12 K0 => ?_))
      refine r_iload (pc := 90) dX8_canSwap_90 rfl ?_
      exact s_zret rfl (by decide) dX8_canSwap_92 K0
    · have K0 := K0.2 q
      refine r_aload_n (pc := 63) dX8_canSwap_63 rfl ?_
      refine r_iload_n (pc := 64) dX8_canSwap_64 rfl ?_
      refine r_aload_n (pc := 65) dX8_canSwap_65 rfl ?_
      refine r_iload_n (pc := 66) dX8_canSwap_66 rfl ?_
      refine r_iconst (pc := 67) (v := 2) dX8_canSwap_67 (by decide) ?_
      obtain ⟨g_13, K0⟩ := K0
      refine s_VI (pc := 68) mX8_one (ci := 8) (a := b0) (As := [.int l2, .int 2]) dX8_canSwap_68 lk_X8_67 in_X8_one mo_X8_one ⟨by decide, rfl⟩ ⟨by decide, by decide⟩ (Nat.le_of_ble_eq_true rfl) k_b0 (sr_X8_one k_b0 g_13 k_b0_3 p_2 ⟨by decide, by decide⟩ ?_)
      refine s_VI (pc := 71) mX8_canBeAt (ci := 8) (a := b0) (As := [.int l2, .int (so (gi y_10 b0_3) (l2 : Int32).toNatClampNeg 2)]) dX8_canSwap_71 lk_X8_360 in_X8_canBeAt mo_X8_canBeAt ⟨by decide, rfl⟩ ⟨by decide, by decide⟩ (Nat.le_of_ble_eq_true rfl) k_b0 (mSI_mono K0 (fun r_15 y_14 K0 => ?_))
      refine r_if_eq (pc := 74) (tgt := 81) dX8_canSwap_74 (by decide) (fun q => ?_) (fun q => ?_)
      · have K0 := K0.1 q
        refine r_iconst (pc := 81) (v := 0) dX8_canSwap_81 (by decide) ?_
        refine r_istore (pc := 82) dX8_canSwap_82 (by decide) ?_
        refine r_aload_n (pc := 84) (L := [some (.ref b0), some (.int l1), some (.int l2), some (.int (so (gi y_4 b0_3) (l2 : Int32).toNatClampNeg 1)), some (.int 0)]) dX8_canSwap_84 rfl ?_
        refine r_iload_n (pc := 85) dX8_canSwap_85 rfl ?_
        refine r_iload_n (pc := 86) dX8_canSwap_86 rfl ?_
        refine s_VV (pc := 87) mX8_changesOver (ci := 8) (a := b0) (As := [.int l1, .int l2]) dX8_canSwap_87 lk_X8_379 in_X8_changesOver mo_X8_changesOver ⟨by decide, rfl⟩ ⟨by decide, by decide⟩ (Nat.le_of_ble_eq_true rfl) k_b0 (mSV_mono K0 (fun y_17 K0 => ?_))
        refine r_iload (pc := 90) dX8_canSwap_90 rfl ?_
        exact s_zret rfl (by decide) dX8_canSwap_92 K0
      · have K0 := K0.2 q
        refine r_iconst (pc := 77) (v := 1) dX8_canSwap_77 (by decide) ?_
        refine r_goto (pc := 78) (tgt := 82) dX8_canSwap_78 (by decide) ?_
        refine r_istore (pc := 82) dX8_canSwap_82 (by decide) ?_
        refine r_aload_n (pc := 84) (L := [some (.ref b0), some (.int l1), some (.int l2), some (.int (so (gi y_4 b0_3) (l2 : Int32).toNatClampNeg 1)), some (.int 1)]) dX8_canSwap_84 rfl ?_
        refine r_iload_n (pc := 85) dX8_canSwap_85 rfl ?_
        refine r_iload_n (pc := 86) dX8_canSwap_86 rfl ?_
        refine s_VV (pc := 87) mX8_changesOver (ci := 8) (a := b0) (As := [.int l1, .int l2]) dX8_canSwap_87 lk_X8_379 in_X8_changesOver mo_X8_changesOver ⟨by decide, rfl⟩ ⟨by decide, by decide⟩ (Nat.le_of_ble_eq_true rfl) k_b0 (mSV_mono K0 (fun y_18 K0 => ?_))
        refine r_iload (pc := 90) dX8_canSwap_90 rfl ?_
        exact s_zret rfl (by decide) dX8_canSwap_92 K0
  · have K0 := K0.2 q
    refine r_iconst (pc := 15) (v := 0) dX8_canSwap_15 (by decide) ?_
    exact s_zret rfl (by decide) dX8_canSwap_16 K0
section
theorem sq_X8_canSwap {y : Cn} {Q : Int32 → Cn → Prop} {T : TT} {W C S A N n s t : Nat} {H : Nat → TT} (r : RS y T n H) (F : WF T W C S A N) (hs : s < S) (ht : t < S) (k : ∀ z, RFr y z → RS z T n H → Q (bP (csw T S N s t)) z) : mSI mX8_canSwap [.ref 717, .int (nI s), .int (nI t)] KW y Q := by
  have hS : S ≤ 24 := F.2.2.2.2.2.2.1
  have hW : W ≤ 30 := F.2.2.1
  have hN : N ≤ W := F.2.2.2.2.2.2.2.2.2.2.1
  refine v_X8_canSwap_0 km r.1.2.2.1 km1 ⟨l24_nI (by omega) rfl, l24_nI (by omega) rfl, ?_⟩
  rw [nI_clamp (show s < 2 ^ 31 by omega), nI_clamp (show t < 2 ^ 31 by omega)]
  have hno : ∀ z, RFr y z → RS z T n H → ¬ csw T S N s t → Q 0 z := fun z f r1 c => by
    have := k z f r1
    rw [bP_f c] at this
    exact this
  refine ⟨fun z1 => ?_, fun z1 => hno y (RFr.rf y) r (fun u => u.1 (by rw [r.2.1] at z1; exact z1))⟩
  rw [r.2.1] at z1
  have hst : s ≠ t := fun u => z1 (by rw [u])
  have F' := F.sw hst hs ht
  have ws := F'.2.2.2.2.2.2.2.2.2.2.2.2.1 s hs
  have wt := F'.2.2.2.2.2.2.2.2.2.2.2.2.1 t ht
  have hd := ws.dh
  have hd' := wt.dh
  refine sp_X8_changesOver r (by omega) (by omega) hst (fun v f1 r1 => ⟨r1.1.2.2.1, sp_X8_lays (k := 1) r1.1 km1 (by omega) (by decide) ?_⟩)
  have r2 := r1.u8 (k := 62 + 12 * t + 1) (v := 7)
  have es : ∀ k, k < 12 → so (uT (swT T s t) (62 + 12 * t + 1) 7) s k = so (swT T s t) s k := fun k hk => by rw [so_uT _ _ _ _ _ _ (by decide) hk, if_neg (fun u => hst u.1)]
  refine ⟨r2.1.2.2.1, ?_⟩
  rw [r2.2.1, es 2 (by decide), hd.2.2.2]
  refine sn_X8_canBeAt r2 (W := W) (C := C) (S := S) (N := N) (by rw [uT_ne _ _ (by omega)]; exact F'.1) hW (by rw [uT_ne _ _ (by omega)]; exact F'.2.2.2.2.2.1) hS (by rw [uT_ne _ _ (by omega)]; exact F'.2.2.2.2.2.2.2.2.2.1) hN (by omega) hd.2.2.1 (ws.cg es) ?_
  rw [es 1 (by decide), es 3 (by decide), bas_cg es, hd.2.1, bP_congr (fitC_7 hS (by omega) hd.1 hd.2.2.1)]
  refine sp_X8_lays (k := 1) r2.1 km1 (by omega) (by decide) ?_
  have r3 := r2.u8 (k := 62 + 12 * t + 1) (v := so (gi v 718) t 1)
  have e3 : uT (uT (swT T s t) (62 + 12 * t + 1) 7) (62 + 12 * t + 1) (so (gi v 718) t 1) = swT T s t := by
    rw [r1.2.1]
    funext i
    unfold uT
    by_cases c1 : i = 62 + 12 * t + 1
    · rw [if_pos c1, c1]; rfl
    · rw [if_neg c1, if_neg c1]
  rw [e3] at r3
  have f3 := (f1.u8 (k := 62 + 12 * t + 1) (v := 7)).u8 (k := 62 + 12 * t + 1) (v := so (gi v 718) t 1)
  have back : ∀ (w : Cn) (G : Cn → Prop), RS w (swT T s t) n H → (∀ u, RFr w u → RS u T n H → G u) → mSV mX8_changesOver [.ref 717, .int (nI s), .int (nI t)] KW w G := by
    intro w G rw1 kk1
    refine sp_X8_changesOver rw1 (by omega) (by omega) hst (fun u f r4 => kk1 u f ?_)
    rw [swT_swT hst] at r4
    exact r4
  refine ⟨fun z2 => back _ _ r3 (fun u f r4 => hno u (f3.tr f) r4 (fun g => bP_z.mp z2 (by rw [← hd.2.1]; exact g.2.1))), fun z2 => ⟨r3.1.2.2.1, ?_⟩⟩
  rw [r3.2.1, hd'.2.2.2]
  refine sn_X8_canBeAt r3 (W := W) (C := C) (S := S) (N := N) F'.1 hW F'.2.2.2.2.2.1 hS F'.2.2.2.2.2.2.2.2.2.1 hN (by omega) hd'.2.2.1 wt ?_
  refine ⟨fun z3 => back _ _ r3 (fun u f r4 => hno u (f3.tr f) r4 (fun g => bP_z.mp z3 g.2.2)), fun z3 => back _ _ r3 (fun u f r4 => ?_)⟩
  have yes : csw T S N s t := ⟨z1, by rw [hd.2.1]; exact Classical.byContradiction (fun g => z2 (bP_z.mpr g)), Classical.byContradiction (fun g => z3 (bP_z.mpr g))⟩
  have := k u (f3.tr f) r4
  rw [bP_t yes] at this
  exact this
end
set_option maxHeartbeats 2000000 in
theorem v_X7_swap_0 {K : Sh} {x : Cn} {Q : Int32 → Cn → Prop} {b0 : Nat} {l1 : Int32} {l2 : Int32} {b0_2 : Nat} (k_b0 : kk K b0 = some (7, 0)) (g_b0_2 : gr x b0 2 = some b0_2) (k_b0_2 : kk K b0_2 = some (4, 0)) (K0 : (¬ (0 ≤ l1 ∧ l1 < gi x b0_2 3) → (Q (-2) x)) ∧ ((0 ≤ l1 ∧ l1 < gi x b0_2 3) → (((0 ≤ l2 ∧ l2 < gi x b0_2 3) → (mSI mX7_whySwapFails [.ref b0, .int l1, .int l2] K x (fun r_4 y_3 => (r_4 = 0 → (mSV mX7_remember [.ref b0] K y_3 (fun y_6 => gr y_6 b0 2 = some b0_2 ∧ (∃ c_8 : Nat, gr y_6 b0_2 7 = some c_8 ∧ (∃ n_11 : Nat, kk K c_8 = some (23, n_11) ∧ (vp_in l1 n_11 ∧ (∃ c_13 : Nat, gr y_6 c_8 ((l1 : Int32).toNatClampNeg) = some c_13 ∧ (vp_in l2 n_11 ∧ (∃ c_16 : Nat, gr y_6 c_8 ((l2 : Int32).toNatClampNeg) = some c_16 ∧ (kk K c_13 = some (5, 0) ∧ (mSV mX5_changeOver [.ref c_13, .ref c_16] K y_6 (fun y_19 => Q 1 y_19)))))))))))) ∧ (¬ r_4 = 0 → (Q r_4 y_3))))) ∧ (¬ (0 ≤ l2 ∧ l2 < gi x b0_2 3) → (Q (-2) x))))) : mSI mX7_swap [.ref b0, .int l1, .int l2] K x Q := by
  refine s_I (by decide) (by simp [Value.category]) (Nat.le_of_ble_eq_true rfl) ?_
  show mGM mX7_swap 0 [some (.ref b0), some (.int l1), some (.int l2), none] [] (hp K x) (PI K Q)
  refine r_aload_n (pc := 0) dX7_swap_0 rfl ?_
  refine r_iload_n (pc := 1) dX7_swap_1 rfl ?_
  refine s_VI (pc := 2) mX7_isSeries (ci := 7) (a := b0) (As := [.int l1]) dX7_swap_2 lk_X7_132 in_X7_isSeries mo_X7_isSeries ⟨by decide, rfl⟩ ⟨by decide, by decide⟩ (Nat.le_of_ble_eq_true rfl) k_b0 (sp_X7_isSeries k_b0 g_b0_2 k_b0_2 ?_)
  refine r_if_eq (pc := 5) (tgt := 16) dX7_swap_5 (by decide) (fun q => ?_) (fun q => ?_)
  · have q := (b2i_z _).mp q
    have K0 := K0.1 q
    refine r_bipush (pc := 16) (v := (-2)) dX7_swap_16 (by decide) ?_
    exact s_iret rfl dX7_swap_18 K0
  · have q := b2i_nz q
    have K0 := K0.2 q
    refine r_aload_n (pc := 8) dX7_swap_8 rfl ?_
    refine r_iload_n (pc := 9) dX7_swap_9 rfl ?_
    refine s_VI (pc := 10) mX7_isSeries (ci := 7) (a := b0) (As := [.int l2]) dX7_swap_10 lk_X7_132 in_X7_isSeries mo_X7_isSeries ⟨by decide, rfl⟩ ⟨by decide, by decide⟩ (Nat.le_of_ble_eq_true rfl) k_b0 (sp_X7_isSeries k_b0 g_b0_2 k_b0_2 ?_)
    refine r_if_ne (pc := 13) (tgt := 19) dX7_swap_13 (by decide) (fun q => ?_) (fun q => ?_)
    · have q := b2i_nz q
      have K0 := K0.1 q
      refine r_aload_n (pc := 19) dX7_swap_19 rfl ?_
      refine r_iload_n (pc := 20) dX7_swap_20 rfl ?_
      refine r_iload_n (pc := 21) dX7_swap_21 rfl ?_
      refine s_VI (pc := 22) mX7_whySwapFails (ci := 7) (a := b0) (As := [.int l1, .int l2]) dX7_swap_22 lk_X7_330 in_X7_whySwapFails mo_X7_whySwapFails ⟨by decide, rfl⟩ ⟨by decide, by decide⟩ (Nat.le_of_ble_eq_true rfl) k_b0 (mSI_mono K0 (fun r_4 y_3 K0 => ?_))
      refine r_istore_n (pc := 25) dX7_swap_25 (by decide) ?_
      refine r_iload_n (pc := 26) (L := [some (.ref b0), some (.int l1), some (.int l2), some (.int r_4)]) dX7_swap_26 rfl ?_
      refine r_if_eq (pc := 27) (tgt := 32) dX7_swap_27 (by decide) (fun q => ?_) (fun q => ?_)
      · have K0 := K0.1 q
        refine r_aload_n (pc := 32) dX7_swap_32 rfl ?_
        refine s_VV (pc := 33) mX7_remember (ci := 7) (a := b0) (As := []) dX7_swap_33 lk_X7_333 in_X7_remember mo_X7_remember ⟨by decide, rfl⟩ ⟨by decide, by decide⟩ (Nat.le_of_ble_eq_true rfl) k_b0 (mSV_mono K0 (fun y_6 K0 => ?_))
        refine r_aload_n (pc := 36) dX7_swap_36 rfl ?_
        obtain ⟨g_7, K0⟩ := K0
        refine s_getR (pc := 37) dX7_swap_37 fl_X7_20 rfl k_b0 g_7 ?_
        obtain ⟨c_8, g_9, K0⟩ := K0
        refine s_getR (pc := 40) dX7_swap_40 fl_X7_135 rfl k_b0_2 g_9 ?_
        refine r_iload_n (pc := 43) dX7_swap_43 rfl ?_
        obtain ⟨n_11, e_10, K0⟩ := K0
        obtain ⟨i_12, K0⟩ := K0
        obtain ⟨c_13, g_14, K0⟩ := K0
        refine s_aald (pc := 44) dX7_swap_44 (by decide) rfl e_10 i_12 g_14 ?_
        refine r_aload_n (pc := 45) dX7_swap_45 rfl ?_
        refine s_getR (pc := 46) dX7_swap_46 fl_X7_20 rfl k_b0 g_7 ?_
        refine s_getR (pc := 49) dX7_swap_49 fl_X7_135 rfl k_b0_2 g_9 ?_
        refine r_iload_n (pc := 52) dX7_swap_52 rfl ?_
        obtain ⟨i_15, K0⟩ := K0
        obtain ⟨c_16, g_17, K0⟩ := K0
        refine s_aald (pc := 53) dX7_swap_53 (by decide) rfl e_10 i_15 g_17 ?_
        obtain ⟨e_18, K0⟩ := K0
        refine s_VV (pc := 54) mX5_changeOver (ci := 5) (a := c_13) (As := [.ref c_16]) dX7_swap_54 lk_X7_354 in_X5_changeOver mo_X5_changeOver ⟨by decide, rfl⟩ ⟨by decide, by decide⟩ (Nat.le_of_ble_eq_true rfl) e_18 (mSV_mono K0 (fun y_19 K0 => ?_))
        refine r_iconst (pc := 57) (v := 1) dX7_swap_57 (by decide) ?_
        exact s_iret rfl dX7_swap_58 K0
      · have K0 := K0.2 q
        refine r_iload_n (pc := 30) dX7_swap_30 rfl ?_
        exact s_iret rfl dX7_swap_31 K0
    · have q := (b2i_z _).mp q
      have K0 := K0.2 q
      refine r_bipush (pc := 16) (v := (-2)) dX7_swap_16 (by decide) ?_
      exact s_iret rfl dX7_swap_18 K0
set_option maxHeartbeats 2000000 in
theorem v_X8_swap_0 {K : Sh} {x : Cn} {Q : Int32 → Cn → Prop} {b0 : Nat} {l1 : Int32} {l2 : Int32} {b0_1 : Nat} {n_b0_1 : Nat} {b0_3 : Nat} {n_b0_3 : Nat} (k_b0 : kk K b0 = some (8, 0)) (g_b0_1 : gr x b0 1 = some b0_1) (k_b0_1 : kk K b0_1 = some (20, n_b0_1)) (g_b0_3 : gr x b0 3 = some b0_3) (k_b0_3 : kk K b0_3 = some (20, n_b0_3)) (K0 : vp_in 2 n_b0_1 ∧ ((¬ (0 ≤ l1 ∧ l1 ≤ gi x b0_1 2 - 1) → (Q (-2) x)) ∧ ((0 ≤ l1 ∧ l1 ≤ gi x b0_1 2 - 1) → (((0 ≤ l2 ∧ l2 ≤ gi x b0_1 2 - 1) → ((l24 l1 n_b0_3) ∧ (((so (gi x b0_3) (l1 : Int32).toNatClampNeg 4 = 1) → (Q (-5) x)) ∧ (¬ (so (gi x b0_3) (l1 : Int32).toNatClampNeg 4 = 1) → ((l24 l2 n_b0_3) ∧ ((¬ (so (gi x b0_3) (l2 : Int32).toNatClampNeg 4 = 1) → (mSI mX8_canSwap [.ref b0, .int l1, .int l2] K x (fun r_9 y_8 => (¬ r_9 = 0 → (mSV mX8_keeps [.ref b0] K y_8 (fun y_11 => mSV mX8_changesOver [.ref b0, .int l1, .int l2] K y_11 (fun y_12 => Q 1 y_12)))) ∧ (r_9 = 0 → (Q (-6) y_8))))) ∧ ((so (gi x b0_3) (l2 : Int32).toNatClampNeg 4 = 1) → (Q (-5) x)))))))) ∧ (¬ (0 ≤ l2 ∧ l2 ≤ gi x b0_1 2 - 1) → (Q (-2) x)))))) : mSI mX8_swap [.ref b0, .int l1, .int l2] K x Q := by
  refine s_I (by decide) (by simp [Value.category]) (Nat.le_of_ble_eq_true rfl) ?_
  show mGM mX8_swap 0 [some (.ref b0), some (.int l1), some (.int l2)] [] (hp K x) (PI K Q)
  refine r_aload_n (pc := 0) dX8_swap_0 rfl ?_
  refine r_iload_n (pc := 1) dX8_swap_1 rfl ?_
  obtain ⟨i_1, K0⟩ := K0
  refine s_VI (pc := 2) mX8_isSeries (ci := 8) (a := b0) (As := [.int l1]) dX8_swap_2 lk_X8_273 in_X8_isSeries mo_X8_isSeries ⟨by decide, rfl⟩ ⟨by decide, by decide⟩ (Nat.le_of_ble_eq_true rfl) k_b0 (sp_X8_isSeries k_b0 g_b0_1 k_b0_1 i_1 ?_)
  refine r_if_eq (pc := 5) (tgt := 16) dX8_swap_5 (by decide) (fun q => ?_) (fun q => ?_)
  · have q := (b2i_z _).mp q
    have K0 := K0.1 q
    refine r_bipush (pc := 16) (v := (-2)) dX8_swap_16 (by decide) ?_
    exact s_iret rfl dX8_swap_18 K0
  · have q := b2i_nz q
    have K0 := K0.2 q
    refine r_aload_n (pc := 8) dX8_swap_8 rfl ?_
    refine r_iload_n (pc := 9) dX8_swap_9 rfl ?_
    refine s_VI (pc := 10) mX8_isSeries (ci := 8) (a := b0) (As := [.int l2]) dX8_swap_10 lk_X8_273 in_X8_isSeries mo_X8_isSeries ⟨by decide, rfl⟩ ⟨by decide, by decide⟩ (Nat.le_of_ble_eq_true rfl) k_b0 (sp_X8_isSeries k_b0 g_b0_1 k_b0_1 i_1 ?_)
    refine r_if_ne (pc := 13) (tgt := 19) dX8_swap_13 (by decide) (fun q => ?_) (fun q => ?_)
    · have q := b2i_nz q
      have K0 := K0.1 q
      refine r_aload_n (pc := 19) dX8_swap_19 rfl ?_
      refine r_iload_n (pc := 20) dX8_swap_20 rfl ?_
      obtain ⟨p_4, K0⟩ := K0
      refine s_VI (pc := 21) mX8_isNew (ci := 8) (a := b0) (As := [.int l1]) dX8_swap_21 lk_X8_382 in_X8_isNew mo_X8_isNew ⟨by decide, rfl⟩ ⟨by decide, by decide⟩ (Nat.le_of_ble_eq_true rfl) k_b0 (sr_X8_isNew k_b0 g_b0_3 k_b0_3 p_4 ?_)
      refine r_if_ne (pc := 24) (tgt := 35) dX8_swap_24 (by decide) (fun q => ?_) (fun q => ?_)
      · have q := b2i_nz q
        have K0 := K0.1 q
        refine r_bipush (pc := 35) (v := (-5)) dX8_swap_35 (by decide) ?_
        exact s_iret rfl dX8_swap_37 K0
      · have q := (b2i_z _).mp q
        have K0 := K0.2 q
        refine r_aload_n (pc := 27) dX8_swap_27 rfl ?_
        refine r_iload_n (pc := 28) dX8_swap_28 rfl ?_
        obtain ⟨p_6, K0⟩ := K0
        refine s_VI (pc := 29) mX8_isNew (ci := 8) (a := b0) (As := [.int l2]) dX8_swap_29 lk_X8_382 in_X8_isNew mo_X8_isNew ⟨by decide, rfl⟩ ⟨by decide, by decide⟩ (Nat.le_of_ble_eq_true rfl) k_b0 (sr_X8_isNew k_b0 g_b0_3 k_b0_3 p_6 ?_)
        refine r_if_eq (pc := 32) (tgt := 38) dX8_swap_32 (by decide) (fun q => ?_) (fun q => ?_)
        · have q := (b2i_z _).mp q
          have K0 := K0.1 q
          refine r_aload_n (pc := 38) dX8_swap_38 rfl ?_
          refine r_iload_n (pc := 39) dX8_swap_39 rfl ?_
          refine r_iload_n (pc := 40) dX8_swap_40 rfl ?_
          refine s_VI (pc := 41) mX8_canSwap (ci := 8) (a := b0) (As := [.int l1, .int l2]) dX8_swap_41 lk_X8_385 in_X8_canSwap mo_X8_canSwap ⟨by decide, rfl⟩ ⟨by decide, by decide⟩ (Nat.le_of_ble_eq_true rfl) k_b0 (mSI_mono K0 (fun r_9 y_8 K0 => ?_))
          refine r_if_ne (pc := 44) (tgt := 50) dX8_swap_44 (by decide) (fun q => ?_) (fun q => ?_)
          · have K0 := K0.1 q
            refine r_aload_n (pc := 50) dX8_swap_50 rfl ?_
            refine s_VV (pc := 51) mX8_keeps (ci := 8) (a := b0) (As := []) dX8_swap_51 lk_X8_366 in_X8_keeps mo_X8_keeps ⟨by decide, rfl⟩ ⟨by decide, by decide⟩ (Nat.le_of_ble_eq_true rfl) k_b0 (mSV_mono K0 (fun y_11 K0 => ?_))
            refine r_aload_n (pc := 54) dX8_swap_54 rfl ?_
            refine r_iload_n (pc := 55) dX8_swap_55 rfl ?_
            refine r_iload_n (pc := 56) dX8_swap_56 rfl ?_
            refine s_VV (pc := 57) mX8_changesOver (ci := 8) (a := b0) (As := [.int l1, .int l2]) dX8_swap_57 lk_X8_379 in_X8_changesOver mo_X8_changesOver ⟨by decide, rfl⟩ ⟨by decide, by decide⟩ (Nat.le_of_ble_eq_true rfl) k_b0 (mSV_mono K0 (fun y_12 K0 => ?_))
            refine r_iconst (pc := 60) (v := 1) dX8_swap_60 (by decide) ?_
            exact s_iret rfl dX8_swap_61 K0
          · have K0 := K0.2 q
            refine r_bipush (pc := 47) (v := (-6)) dX8_swap_47 (by decide) ?_
            exact s_iret rfl dX8_swap_49 K0
        · have q := b2i_nz q
          have K0 := K0.2 q
          refine r_bipush (pc := 35) (v := (-5)) dX8_swap_35 (by decide) ?_
          exact s_iret rfl dX8_swap_37 K0
    · have q := (b2i_z _).mp q
      have K0 := K0.2 q
      refine r_bipush (pc := 16) (v := (-2)) dX8_swap_16 (by decide) ?_
      exact s_iret rfl dX8_swap_18 K0
section
theorem sq_X8_swap {y : Cn} {Q : Int32 → Cn → Prop} {T : TT} {W C S A N n : Nat} {H : Nat → TT} {a b : Int32} (r : RS y T n H) (F : WF T W C S A N) (k1 : ¬ ((0 ≤ a ∧ a < nI S) ∧ (0 ≤ b ∧ b < nI S)) → Q (-2) y) (k2 : ∀ s t, a = nI s → b = nI t → s < S → t < S → ¬ (so T s 4 = 0 ∧ so T t 4 = 0) → Q (-5) y) (k3 : ∀ s t, a = nI s → b = nI t → s < S → t < S → so T s 4 = 0 ∧ so T t 4 = 0 → ¬ csw T S N s t → ∀ z, RFr y z → RS z T n H → Q (-6) z) (k4 : ∀ s t, a = nI s → b = nI t → s < S → t < S → so T s 4 = 0 ∧ so T t 4 = 0 → csw T S N s t → ∀ z, RFr y z → RS z (swT T s t) (pn n) (push H n T) → Q 1 z) : mSI mX8_swap [.ref 717, .int a, .int b] KW y Q := by
  have hS : S ≤ 24 := F.2.2.2.2.2.2.1
  refine v_X8_swap_0 km r.1.1 km1 r.1.2.2.1 km1 ⟨v0 (k := 2) (by decide) rfl rfl, ?_⟩
  rw [r.2.1, F.2.2.2.2.2.1, inN' (by omega), inN' (by omega)]
  refine ⟨fun z => k1 (fun u => z u.1), fun z1 => ⟨fun z2 => ?_, fun z => k1 (fun u => z u.2)⟩⟩
  obtain ⟨s, hs, rfl⟩ := inN (by omega) z1
  obtain ⟨t, ht, rfl⟩ := inN (by omega) z2
  have o1 := (F.2.2.2.2.2.2.2.2.2.2.2.2.1 s hs).2.2.2.2.1
  have o2 := (F.2.2.2.2.2.2.2.2.2.2.2.2.1 t ht).2.2.2.2.1
  rw [nI_clamp (show s < 2 ^ 31 by omega), nI_clamp (show t < 2 ^ 31 by omega)]
  refine ⟨l24_nI (by omega) rfl, fun z3 => k2 s t rfl rfl hs ht (fun u => absurd (u.1.symm.trans z3) (by decide)), fun z3 => ⟨l24_nI (by omega) rfl, fun z4 => ?_, fun z4 => k2 s t rfl rfl hs ht (fun u => absurd (u.2.symm.trans z4) (by decide))⟩⟩
  have c0 : so T s 4 = 0 ∧ so T t 4 = 0 := ⟨o1.resolve_right z3, o2.resolve_right z4⟩
  refine sq_X8_canSwap r F hs ht (fun v f1 r1 => ⟨fun z5 => ?_, fun z5 => k3 s t rfl rfl hs ht c0 (bP_z.mp z5) v f1 r1⟩)
  have yes : csw T S N s t := Classical.byContradiction (fun g => z5 (bP_z.mpr g))
  have hst : s ≠ t := fun u => yes.1 (by rw [u])
  exact r1.keeps (fun w f2 r2 => sp_X8_changesOver r2 (by omega) (by omega) hst (fun u f3 r3 => k4 s t rfl rfl hs ht c0 yes u (f1.tr (f2.tr f3)) r3))
end
set_option maxHeartbeats 2000000 in
theorem v_X7_partners_0 {K : Sh} {x : Cn} {Q : Int32 → Cn → Prop} {b0 : Nat} {l1 : Int32} {b0_2 : Nat} (k_b0 : kk K b0 = some (7, 0)) (g_b0_2 : gr x b0 2 = some b0_2) (k_b0_2 : kk K b0_2 = some (4, 0)) (K0 : ((0 ≤ l1 ∧ l1 < gi x b0_2 3) → (GI mX7_partners 15 [some (.ref b0), some (.int l1), some (.int 0), some (.int 0)] [] K x Q)) ∧ (¬ (0 ≤ l1 ∧ l1 < gi x b0_2 3) → (Q (-2) x))) : mSI mX7_partners [.ref b0, .int l1] K x Q := by
  refine s_I (by decide) (by simp [Value.category]) (Nat.le_of_ble_eq_true rfl) ?_
  show mGM mX7_partners 0 [some (.ref b0), some (.int l1), none, none] [] (hp K x) (PI K Q)
  refine r_aload_n (pc := 0) dX7_partners_0 rfl ?_
  refine r_iload_n (pc := 1) dX7_partners_1 rfl ?_
  refine s_VI (pc := 2) mX7_isSeries (ci := 7) (a := b0) (As := [.int l1]) dX7_partners_2 lk_X7_132 in_X7_isSeries mo_X7_isSeries ⟨by decide, rfl⟩ ⟨by decide, by decide⟩ (Nat.le_of_ble_eq_true rfl) k_b0 (sp_X7_isSeries k_b0 g_b0_2 k_b0_2 ?_)
  refine r_if_ne (pc := 5) (tgt := 11) dX7_partners_5 (by decide) (fun q => ?_) (fun q => ?_)
  · have q := b2i_nz q
    have K0 := K0.1 q
    refine r_iconst (pc := 11) (v := 0) dX7_partners_11 (by decide) ?_
    refine r_istore_n (pc := 12) dX7_partners_12 (by decide) ?_
    refine r_iconst (pc := 13) (L := [some (.ref b0), some (.int l1), some (.int 0), none]) (v := 0) dX7_partners_13 (by decide) ?_
    refine r_istore_n (pc := 14) dX7_partners_14 (by decide) ?_
    exact r_le (L' := [some (.ref b0), some (.int l1), some (.int 0), some (.int 0)]) ⟨rfl, ⟨rfl, ⟨rfl, ⟨rfl, trivial⟩⟩⟩⟩ K0
  · have q := (b2i_z _).mp q
    have K0 := K0.2 q
    refine r_bipush (pc := 8) (v := (-2)) dX7_partners_8 (by decide) ?_
    exact s_iret rfl dX7_partners_10 K0
set_option maxHeartbeats 2000000 in
theorem v_X7_partners_15 {K : Sh} {x : Cn} {Q : Int32 → Cn → Prop} {b0 : Nat} {l1 : Int32} {l2 : Int32} {l3 : Int32} {b0_2 : Nat} (k_b0 : kk K b0 = some (7, 0)) (g_b0_2 : gr x b0 2 = some b0_2) (k_b0_2 : kk K b0_2 = some (4, 0)) (K0 : ((gi x b0_2 3) ≤ l3 → (Q l2 x)) ∧ (¬ (gi x b0_2 3) ≤ l3 → (mSI mX7_whySwapFails [.ref b0, .int l1, .int l3] K x (fun r_3 y_2 => (¬ r_3 = 0 → (GI mX7_partners 15 [some (.ref b0), some (.int l1), some (.int l2), some (.int (l3 + 1))] [] K y_2 Q)) ∧ (r_3 = 0 → (GI mX7_partners 15 [some (.ref b0), some (.int l1), some (.int (l2 ||| (1 <<< (l3 &&& 31)))), some (.int (l3 + 1))] [] K y_2 Q)))))) : GI mX7_partners 15 [some (.ref b0), some (.int l1), some (.int l2), some (.int l3)] [] K x Q := by
  show mGM mX7_partners 15 [some (.ref b0), some (.int l1), some (.int l2), some (.int l3)] [] (hp K x) (PI K Q)
  refine r_iload_n (pc := 15) dX7_partners_15 rfl ?_
  refine r_aload_n (pc := 16) dX7_partners_16 rfl ?_
  refine s_getR (pc := 17) dX7_partners_17 fl_X7_20 rfl k_b0 g_b0_2 ?_
  refine s_getI (pc := 20) dX7_partners_20 fl_X7_97 rfl k_b0_2 ?_
  refine r_icmp_ge (pc := 23) (tgt := 47) dX7_partners_23 (by decide) (fun q => ?_) (fun q => ?_)
  · have K0 := K0.1 q
    refine r_iload_n (pc := 47) dX7_partners_47 rfl ?_
    exact s_iret rfl dX7_partners_48 K0
  · have K0 := K0.2 q
    refine r_aload_n (pc := 26) dX7_partners_26 rfl ?_
    refine r_iload_n (pc := 27) dX7_partners_27 rfl ?_
    refine r_iload_n (pc := 28) dX7_partners_28 rfl ?_
    refine s_VI (pc := 29) mX7_whySwapFails (ci := 7) (a := b0) (As := [.int l1, .int l3]) dX7_partners_29 lk_X7_330 in_X7_whySwapFails mo_X7_whySwapFails ⟨by decide, rfl⟩ ⟨by decide, by decide⟩ (Nat.le_of_ble_eq_true rfl) k_b0 (mSI_mono K0 (fun r_3 y_2 K0 => ?_))
    refine r_if_ne (pc := 32) (tgt := 41) dX7_partners_32 (by decide) (fun q => ?_) (fun q => ?_)
    · have K0 := K0.1 q
      refine r_iinc (pc := 41) (v := l3 + 1) dX7_partners_41 rfl rfl (by decide) ?_
      refine r_goto (pc := 44) (L := [some (.ref b0), some (.int l1), some (.int l2), some (.int (l3 + 1))]) (tgt := 15) dX7_partners_44 (by decide) ?_
      exact r_le (L' := [some (.ref b0), some (.int l1), some (.int l2), some (.int (l3 + 1))]) ⟨rfl, ⟨rfl, ⟨rfl, ⟨rfl, trivial⟩⟩⟩⟩ K0
    · have K0 := K0.2 q
      refine r_iload_n (pc := 35) dX7_partners_35 rfl ?_
      refine r_iconst (pc := 36) (v := 1) dX7_partners_36 (by decide) ?_
      refine r_iload_n (pc := 37) dX7_partners_37 rfl ?_
      refine r_ishl (pc := 38) dX7_partners_38 ?_
      refine r_ior (pc := 39) dX7_partners_39 ?_
      refine r_istore_n (pc := 40) dX7_partners_40 (by decide) ?_
      refine r_iinc (pc := 41) (L := [some (.ref b0), some (.int l1), some (.int (l2 ||| (1 <<< (l3 &&& 31)))), some (.int l3)]) (v := l3 + 1) dX7_partners_41 rfl rfl (by decide) ?_
      refine r_goto (pc := 44) (L := [some (.ref b0), some (.int l1), some (.int (l2 ||| (1 <<< (l3 &&& 31)))), some (.int (l3 + 1))]) (tgt := 15) dX7_partners_44 (by decide) ?_
      exact r_le (L' := [some (.ref b0), some (.int l1), some (.int (l2 ||| (1 <<< (l3 &&& 31)))), some (.int (l3 + 1))]) ⟨rfl, ⟨rfl, ⟨rfl, ⟨rfl, trivial⟩⟩⟩⟩ K0
set_option maxHeartbeats 2000000 in
theorem v_X8_partners_0 {K : Sh} {x : Cn} {Q : Int32 → Cn → Prop} {b0 : Nat} {l1 : Int32} {b0_1 : Nat} {n_b0_1 : Nat} (k_b0 : kk K b0 = some (8, 0)) (g_b0_1 : gr x b0 1 = some b0_1) (k_b0_1 : kk K b0_1 = some (20, n_b0_1)) (K0 : vp_in 2 n_b0_1 ∧ (((0 ≤ l1 ∧ l1 ≤ gi x b0_1 2 - 1) → (GI mX8_partners 15 [some (.ref b0), some (.int l1), some (.int 0), some (.int 0)] [] K x Q)) ∧ (¬ (0 ≤ l1 ∧ l1 ≤ gi x b0_1 2 - 1) → (Q (-2) x)))) : mSI mX8_partners [.ref b0, .int l1] K x Q := by
  refine s_I (by decide) (by simp [Value.category]) (Nat.le_of_ble_eq_true rfl) ?_
  show mGM mX8_partners 0 [some (.ref b0), some (.int l1), none, none] [] (hp K x) (PI K Q)
  refine r_aload_n (pc := 0) dX8_partners_0 rfl ?_
  refine r_iload_n (pc := 1) dX8_partners_1 rfl ?_
  obtain ⟨i_1, K0⟩ := K0
  refine s_VI (pc := 2) mX8_isSeries (ci := 8) (a := b0) (As := [.int l1]) dX8_partners_2 lk_X8_273 in_X8_isSeries mo_X8_isSeries ⟨by decide, rfl⟩ ⟨by decide, by decide⟩ (Nat.le_of_ble_eq_true rfl) k_b0 (sp_X8_isSeries k_b0 g_b0_1 k_b0_1 i_1 ?_)
  refine r_if_ne (pc := 5) (tgt := 11) dX8_partners_5 (by decide) (fun q => ?_) (fun q => ?_)
  · have q := b2i_nz q
    have K0 := K0.1 q
    refine r_iconst (pc := 11) (v := 0) dX8_partners_11 (by decide) ?_
    refine r_istore_n (pc := 12) dX8_partners_12 (by decide) ?_
    refine r_iconst (pc := 13) (L := [some (.ref b0), some (.int l1), some (.int 0), none]) (v := 0) dX8_partners_13 (by decide) ?_
    refine r_istore_n (pc := 14) dX8_partners_14 (by decide) ?_
    exact r_le (L' := [some (.ref b0), some (.int l1), some (.int 0), some (.int 0)]) ⟨rfl, ⟨rfl, ⟨rfl, ⟨rfl, trivial⟩⟩⟩⟩ K0
  · have q := (b2i_z _).mp q
    have K0 := K0.2 q
    refine r_bipush (pc := 8) (v := (-2)) dX8_partners_8 (by decide) ?_
    exact s_iret rfl dX8_partners_10 K0
set_option maxHeartbeats 2000000 in
theorem v_X8_partners_15 {K : Sh} {x : Cn} {Q : Int32 → Cn → Prop} {b0 : Nat} {l1 : Int32} {l2 : Int32} {l3 : Int32} {b0_1 : Nat} {n_b0_1 : Nat} {b0_3 : Nat} {n_b0_3 : Nat} (k_b0 : kk K b0 = some (8, 0)) (g_b0_1 : gr x b0 1 = some b0_1) (k_b0_1 : kk K b0_1 = some (20, n_b0_1)) (g_b0_3 : gr x b0 3 = some b0_3) (k_b0_3 : kk K b0_3 = some (20, n_b0_3)) (K0 : vp_in 2 n_b0_1 ∧ (((gi x b0_1 2) ≤ l3 → (Q l2 x)) ∧ (¬ (gi x b0_1 2) ≤ l3 → ((l24 l1 n_b0_3) ∧ (((so (gi x b0_3) (l1 : Int32).toNatClampNeg 4 = 1) → (GI mX8_partners 15 [some (.ref b0), some (.int l1), some (.int (l2 ||| 0)), some (.int (l3 + 1))] [] K x Q)) ∧ (¬ (so (gi x b0_3) (l1 : Int32).toNatClampNeg 4 = 1) → ((l24 l3 n_b0_3) ∧ (((so (gi x b0_3) (l3 : Int32).toNatClampNeg 4 = 1) → (GI mX8_partners 15 [some (.ref b0), some (.int l1), some (.int (l2 ||| 0)), some (.int (l3 + 1))] [] K x Q)) ∧ (¬ (so (gi x b0_3) (l3 : Int32).toNatClampNeg 4 = 1) → (mSI mX8_canSwap [.ref b0, .int l1, .int l3] K x (fun r_8 y_7 => (r_8 = 0 → (GI mX8_partners 15 [some (.ref b0), some (.int l1), some (.int (l2 ||| 0)), some (.int (l3 + 1))] [] K y_7 Q)) ∧ (¬ r_8 = 0 → (GI mX8_partners 15 [some (.ref b0), some (.int l1), some (.int (l2 ||| (1 <<< (l3 &&& 31)))), some (.int (l3 + 1))] [] K y_7 Q))))))))))))) : GI mX8_partners 15 [some (.ref b0), some (.int l1), some (.int l2), some (.int l3)] [] K x Q := by
  show mGM mX8_partners 15 [some (.ref b0), some (.int l1), some (.int l2), some (.int l3)] [] (hp K x) (PI K Q)
  refine r_iload_n (pc := 15) dX8_partners_15 rfl ?_
  refine r_aload_n (pc := 16) dX8_partners_16 rfl ?_
  refine s_getR (pc := 17) dX8_partners_17 fl_X8_9 rfl k_b0 g_b0_1 ?_
  refine r_iconst (pc := 20) (v := 2) dX8_partners_20 (by decide) ?_
  obtain ⟨i_1, K0⟩ := K0
  refine s_iald (pc := 21) dX8_partners_21 k_b0_1 i_1 ?_
  refine r_icmp_ge (pc := 22) (tgt := 66) dX8_partners_22 (by decide) (fun q => ?_) (fun q => ?_)
  · have K0 := K0.1 q
    refine r_iload_n (pc := 66) dX8_partners_66 rfl ?_
    exact s_iret rfl dX8_partners_67 K0
  · have K0 := K0.2 q
    refine r_iload_n (pc := 25) dX8_partners_25 rfl ?_
    refine r_aload_n (pc := 26) dX8_partners_26 rfl ?_
    refine r_iload_n (pc := 27) dX8_partners_27 rfl ?_
    obtain ⟨p_3, K0⟩ := K0
    refine s_VI (pc := 28) mX8_isNew (ci := 8) (a := b0) (As := [.int l1]) dX8_partners_28 lk_X8_382 in_X8_isNew mo_X8_isNew ⟨by decide, rfl⟩ ⟨by decide, by decide⟩ (Nat.le_of_ble_eq_true rfl) k_b0 (sr_X8_isNew k_b0 g_b0_3 k_b0_3 p_3 ?_)
    refine r_if_ne (pc := 31) (tgt := 57) dX8_partners_31 (by decide) (fun q => ?_) (fun q => ?_)
    · have q := b2i_nz q
      have K0 := K0.1 q
      refine r_iconst (pc := 57) (v := 0) dX8_partners_57 (by decide) ?_
      refine r_ior (pc := 58) dX8_partners_58 ?_
      refine r_istore_n (pc := 59) dX8_partners_59 (by decide) ?_
      refine r_iinc (pc := 60) (L := [some (.ref b0), some (.int l1), some (.int (l2 ||| 0)), some (.int l3)]) (v := l3 + 1) dX8_partners_60 rfl rfl (by decide) ?_
      refine r_goto (pc := 63) (L := [some (.ref b0), some (.int l1), some (.int (l2 ||| 0)), some (.int (l3 + 1))]) (tgt := 15) dX8_partners_63 (by decide) ?_
      exact r_le (L' := [some (.ref b0), some (.int l1), some (.int (l2 ||| 0)), some (.int (l3 + 1))]) ⟨rfl, ⟨rfl, ⟨rfl, ⟨rfl, trivial⟩⟩⟩⟩ K0
    · have q := (b2i_z _).mp q
      have K0 := K0.2 q
      refine r_aload_n (pc := 34) dX8_partners_34 rfl ?_
      refine r_iload_n (pc := 35) dX8_partners_35 rfl ?_
      obtain ⟨p_5, K0⟩ := K0
      refine s_VI (pc := 36) mX8_isNew (ci := 8) (a := b0) (As := [.int l3]) dX8_partners_36 lk_X8_382 in_X8_isNew mo_X8_isNew ⟨by decide, rfl⟩ ⟨by decide, by decide⟩ (Nat.le_of_ble_eq_true rfl) k_b0 (sr_X8_isNew k_b0 g_b0_3 k_b0_3 p_5 ?_)
      refine r_if_ne (pc := 39) (tgt := 57) dX8_partners_39 (by decide) (fun q => ?_) (fun q => ?_)
      · have q := b2i_nz q
        have K0 := K0.1 q
        refine r_iconst (pc := 57) (v := 0) dX8_partners_57 (by decide) ?_
        refine r_ior (pc := 58) dX8_partners_58 ?_
        refine r_istore_n (pc := 59) dX8_partners_59 (by decide) ?_
        refine r_iinc (pc := 60) (L := [some (.ref b0), some (.int l1), some (.int (l2 ||| 0)), some (.int l3)]) (v := l3 + 1) dX8_partners_60 rfl rfl (by decide) ?_
        refine r_goto (pc := 63) (L := [some (.ref b0), some (.int l1), some (.int (l2 ||| 0)), some (.int (l3 + 1))]) (tgt := 15) dX8_partners_63 (by decide) ?_
        exact r_le (L' := [some (.ref b0), some (.int l1), some (.int (l2 ||| 0)), some (.int (l3 + 1))]) ⟨rfl, ⟨rfl, ⟨rfl, ⟨rfl, trivial⟩⟩⟩⟩ K0
      · have q := (b2i_z _).mp q
        have K0 := K0.2 q
        refine r_aload_n (pc := 42) dX8_partners_42 rfl ?_
        refine r_iload_n (pc := 43) dX8_partners_43 rfl ?_
        refine r_iload_n (pc := 44) dX8_partners_44 rfl ?_
        refine s_VI (pc := 45) mX8_canSwap (ci := 8) (a := b0) (As := [.int l1, .int l3]) dX8_partners_45 lk_X8_385 in_X8_canSwap mo_X8_canSwap ⟨by decide, rfl⟩ ⟨by decide, by decide⟩ (Nat.le_of_ble_eq_true rfl) k_b0 (mSI_mono K0 (fun r_8 y_7 K0 => ?_))
        refine r_if_eq (pc := 48) (tgt := 57) dX8_partners_48 (by decide) (fun q => ?_) (fun q => ?_)
        · have K0 := K0.1 q
          refine r_iconst (pc := 57) (v := 0) dX8_partners_57 (by decide) ?_
          refine r_ior (pc := 58) dX8_partners_58 ?_
          refine r_istore_n (pc := 59) dX8_partners_59 (by decide) ?_
          refine r_iinc (pc := 60) (L := [some (.ref b0), some (.int l1), some (.int (l2 ||| 0)), some (.int l3)]) (v := l3 + 1) dX8_partners_60 rfl rfl (by decide) ?_
          refine r_goto (pc := 63) (L := [some (.ref b0), some (.int l1), some (.int (l2 ||| 0)), some (.int (l3 + 1))]) (tgt := 15) dX8_partners_63 (by decide) ?_
          exact r_le (L' := [some (.ref b0), some (.int l1), some (.int (l2 ||| 0)), some (.int (l3 + 1))]) ⟨rfl, ⟨rfl, ⟨rfl, ⟨rfl, trivial⟩⟩⟩⟩ K0
        · have K0 := K0.2 q
          refine r_iconst (pc := 51) (v := 1) dX8_partners_51 (by decide) ?_
          refine r_iload_n (pc := 52) dX8_partners_52 rfl ?_
          refine r_ishl (pc := 53) dX8_partners_53 ?_
          refine r_goto (pc := 54) (tgt := 58) dX8_partners_54 (by decide) ?_
          refine r_ior (pc := 58) dX8_partners_58 ?_
          refine r_istore_n (pc := 59) dX8_partners_59 (by decide) ?_
          refine r_iinc (pc := 60) (L := [some (.ref b0), some (.int l1), some (.int (l2 ||| (1 <<< (l3 &&& 31)))), some (.int l3)]) (v := l3 + 1) dX8_partners_60 rfl rfl (by decide) ?_
          refine r_goto (pc := 63) (L := [some (.ref b0), some (.int l1), some (.int (l2 ||| (1 <<< (l3 &&& 31)))), some (.int (l3 + 1))]) (tgt := 15) dX8_partners_63 (by decide) ?_
          exact r_le (L' := [some (.ref b0), some (.int l1), some (.int (l2 ||| (1 <<< (l3 &&& 31)))), some (.int (l3 + 1))]) ⟨rfl, ⟨rfl, ⟨rfl, ⟨rfl, trivial⟩⟩⟩⟩ K0
theorem eq_swap (a b : Int32) : Both mX7_swap mX8_swap [.int a, .int b] := by
  intro x R
  obtain ⟨W, C, S, A, N, n, H, ac, rs, nm⟩ := R.ac
  have E := ac.2.2.2.2
  have hn := E.nums
  have hS : S ≤ 24 := hn.2.2.2.2.2.2.1
  have hC : C ≤ 8 := hn.2.2.2.2.2.1
  refine v_X7_swap_0 k0 R.1.2.1 (ks0 E.1) ?_
  rw [hn.2.2.1]
  have no : ¬ ((0 ≤ a ∧ a < nI S) ∧ (0 ≤ b ∧ b < nI S)) → mSI mX8_swap [.ref 717, .int a, .int b] KW x (fun r' z => -2 = r' ∧ Rel z) := fun z => by
    have h0 : ∀ s t, a = nI s → b = nI t → s < S → t < S → False := fun s t e1 e2 hs ht => z ⟨by rw [e1]; exact ⟨nI_pos' (by omega), nI_lt hs (by omega)⟩, by rw [e2]; exact ⟨nI_pos' (by omega), nI_lt ht (by omega)⟩⟩
    exact sq_X8_swap rs E.2.2.2 (fun _ => ⟨rfl, R⟩) (fun s t e1 e2 hs ht => (h0 s t e1 e2 hs ht).elim) (fun s t e1 e2 hs ht => (h0 s t e1 e2 hs ht).elim) (fun s t e1 e2 hs ht => (h0 s t e1 e2 hs ht).elim)
  refine ⟨fun z => no (fun u => z u.1), fun z1 => ⟨fun z2 => ?_, fun z => no (fun u => z u.2)⟩⟩
  obtain ⟨s, hs, rfl⟩ := inN (by omega) z1
  obtain ⟨t, ht, rfl⟩ := inN (by omega) z2
  have un : ∀ s' t', nI s = nI s' → nI t = nI t' → s' < S → t' < S → s' = s ∧ t' = t := fun s' t' e1 e2 h1 h2 => ⟨((nI_eq (by omega) (by omega)).mp e1).symm, ((nI_eq (by omega) (by omega)).mp e2).symm⟩
  refine sp_X7_whySwapFails ac hs ht (fun c => ⟨fun z => absurd z (by decide), fun _ => ?_⟩) (fun c0 c v av => ⟨fun z => absurd z (by decide), fun _ => ?_⟩) (fun c0 c v av => ⟨fun _ => ?_, fun z => absurd rfl z⟩)
  · refine sq_X8_swap rs E.2.2.2 (fun u => absurd ⟨z1, z2⟩ u) (fun s' t' e1 e2 hs' ht' _ => ⟨rfl, R⟩) (fun s' t' e1 e2 hs' ht' c1 => ?_) (fun s' t' e1 e2 hs' ht' c1 => ?_)
    · obtain ⟨rfl, rfl⟩ := un s' t' e1 e2 hs' ht'; exact absurd c1 c
    · obtain ⟨rfl, rfl⟩ := un s' t' e1 e2 hs' ht'; exact absurd c1 c
  · refine sq_X8_swap (av.rs rs) E.2.2.2 (fun u => absurd ⟨z1, z2⟩ u) (fun s' t' e1 e2 hs' ht' c1 => ?_) (fun s' t' e1 e2 hs' ht' c1 c2 w f2 r2 => ⟨rfl, av.fin R nm (fun _ _ => rfl) f2 r2⟩) (fun s' t' e1 e2 hs' ht' c1 c2 => ?_)
    · obtain ⟨rfl, rfl⟩ := un s' t' e1 e2 hs' ht'; exact absurd c0 c1
    · obtain ⟨rfl, rfl⟩ := un s' t' e1 e2 hs' ht'; exact absurd c2 c
  · refine av.rem (fun _ _ => rfl) (fun y ay y1 y2 => ?_)
    have Ey := ay.2.2.2.2
    obtain ⟨p, p1, p2, p3, p4, p5, p6⟩ := Ey.ser hs
    obtain ⟨p', q1, q2, q3, q4, q5, q6⟩ := Ey.ser ht
    have hst : s ≠ t := fun u => c.1 (by rw [u])
    have hne : p ≠ p' := fun u => hst (Ey.2.1.2.2.2.2.2.2.1 s t (by omega) (by omega) (by rw [p1, q1, u]))
    rw [nI_clamp (show s < 2 ^ 31 by omega), nI_clamp (show t < 2 ^ 31 by omega)]
    refine ⟨ay.2.1.2.1, 5, Ey.2.1.2.2.1, 24, ks3 E.1, vp_in_nI (by omega) (by decide), p, p1, vp_in_nI (by omega) (by decide), p', q1, p2, sp_X5_changeOver p2 q2 hne (fun w w1 w2 w3 => ?_)⟩
    have aw := ay.swp hs ht hst p1 q1 w1 w2 w3
    refine sq_X8_swap (aw.rs rs) E.2.2.2 (fun u => absurd ⟨z1, z2⟩ u) (fun s' t' e1 e2 hs' ht' c1 => ?_) (fun s' t' e1 e2 hs' ht' c1 c2 => ?_) (fun s' t' e1 e2 hs' ht' c1 c2 u f2 r2 => ⟨rfl, ?_⟩)
    · obtain ⟨rfl, rfl⟩ := un s' t' e1 e2 hs' ht'; exact absurd c0 c1
    · obtain ⟨rfl, rfl⟩ := un s' t' e1 e2 hs' ht'; exact absurd c c2
    · obtain ⟨rfl, rfl⟩ := un s' t' e1 e2 hs' ht'
      exact aw.fin R nm (fun c hc => swK_off (by omega) (by omega) (by decide) (by omega)) f2 r2
theorem eq_partners (a : Int32) : Both mX7_partners mX8_partners [.int a] := by
  intro x R
  obtain ⟨W, C, S, A, N, n, H, ac, rs, nm⟩ := R.ac
  have E := ac.2.2.2.2
  have hn := E.nums
  have hS : S ≤ 24 := hn.2.2.2.2.2.2.1
  have F := E.2.2.2
  have t2 : gi x 718 2 = nI S := F.2.2.2.2.2.1
  refine v_X7_partners_0 k0 R.1.2.1 (ks0 E.1) ?_
  rw [hn.2.2.1]
  refine ⟨fun z => ?_, fun z => v_X8_partners_0 km rs.1.1 km1 ⟨v0 (k := 2) (by decide) rfl rfl, fun u => absurd (by rw [t2, inN' (by omega)] at u; exact u) z, fun _ => ⟨rfl, R⟩⟩⟩
  obtain ⟨s, hs, rfl⟩ := inN (by omega) z
  let c : Nat → Int32 := fun t => bP ((so (gi x 718) s 4 = 0 ∧ so (gi x 718) t 4 = 0) ∧ csw (gi x 718) S N s t)
  refine lp_acc (orP c) (fun t acc => ∀ v, AC x v W C S A N n (gi x 718) H → GI mX7_partners 15 [some (.ref 0), some (.int (nI s)), some (.int acc), some (.int (nI t))] [] KW v _) S 0 ?_ (fun t acc ht n1 => ?_) x ac
  · intro v av
    refine v_X7_partners_15 k0 av.2.1.2.1 (ks0 E.1) ⟨fun _ => ?_, fun z => absurd (by rw [av.2.2.2.2.nums.2.2.1]; exact Int32.le_refl _) z⟩
    have rv := av.rs rs
    refine v_X8_partners_0 km rv.1.1 km1 ⟨v0 (k := 2) (by decide) rfl rfl, fun _ => ?_, fun u => absurd (by rw [rv.2.1, t2, inN' (by omega)]; exact ⟨nI_pos' (by omega), nI_lt hs (by omega)⟩) u⟩
    refine lp_acc (orP c) (fun t acc => ∀ w, RFr v w → RS w (gi x 718) n H → GI mX8_partners 15 [some (.ref 717), some (.int (nI s)), some (.int acc), some (.int (nI t))] [] KW w _) S 0 ?_ (fun t acc ht n1 => ?_) v (RFr.rf v) rv
    · intro w f rw1
      exact v_X8_partners_15 km rw1.1.1 km1 rw1.1.2.2.1 km1 ⟨v0 (k := 2) (by decide) rfl rfl, fun _ => ⟨rfl, av.fin R nm (fun _ _ => rfl) f rw1⟩, fun z => absurd (by rw [rw1.2.1, t2]; exact Int32.le_refl _) z⟩
    · intro w f rw1
      have o1 := (F.2.2.2.2.2.2.2.2.2.2.2.2.1 s hs).2.2.2.2.1
      have o2 := (F.2.2.2.2.2.2.2.2.2.2.2.2.1 t ht).2.2.2.2.1
      have nx0 : ∀ w, RFr v w → RS w (gi x 718) n H → ¬ ((so (gi x 718) s 4 = 0 ∧ so (gi x 718) t 4 = 0) ∧ csw (gi x 718) S N s t) → GI mX8_partners 15 [some (.ref 717), some (.int (nI s)), some (.int (acc ||| 0)), some (.int (nI (t + 1)))] [] KW w _ := fun w f rw1 g => by
        rw [show acc ||| 0 = acc by simp]
        exact n1 acc (by unfold orP; rw [if_pos (bP_f g)]) w f rw1
      refine v_X8_partners_15 km rw1.1.1 km1 rw1.1.2.2.1 km1 ⟨v0 (k := 2) (by decide) rfl rfl, fun z => absurd (by rw [rw1.2.1, t2] at z; exact z) (nI_ge ht (by omega)), fun _ => ⟨l24_nI (by omega) rfl, ?_⟩⟩
      rw [nI_1, rw1.2.1, nI_clamp (show s < 2 ^ 31 by omega), nI_clamp (show t < 2 ^ 31 by omega)]
      refine ⟨fun z3 => nx0 w f rw1 (fun u => absurd (u.1.1.symm.trans z3) (by decide)), fun z3 => ⟨l24_nI (by omega) rfl, fun z4 => nx0 w f rw1 (fun u => absurd (u.1.2.symm.trans z4) (by decide)), fun z4 => sq_X8_canSwap rw1 F hs ht (fun w2 f2 r2 => ⟨fun z5 => nx0 w2 (f.tr f2) r2 (fun u => bP_z.mp z5 u.2), fun z5 => ?_⟩)⟩⟩
      have yes : csw (gi x 718) S N s t := Classical.byContradiction (fun g => z5 (bP_z.mpr g))
      exact n1 _ (by unfold orP; rw [if_neg (fun g => bP_z.mp g ⟨⟨o1.resolve_right z3, o2.resolve_right z4⟩, yes⟩)]) w2 (f.tr f2) r2
  · intro v av
    refine v_X7_partners_15 k0 av.2.1.2.1 (ks0 E.1) ⟨fun z => absurd (by rw [av.2.2.2.2.nums.2.2.1] at z; exact z) (nI_ge ht (by omega)), fun _ => ?_⟩
    rw [nI_1]
    refine sp_X7_whySwapFails av hs ht (fun c1 => ⟨fun _ => ?_, fun z => absurd z (by decide)⟩) (fun c0 c1 w aw => ⟨fun _ => ?_, fun z => absurd z (by decide)⟩) (fun c0 c1 w aw => ⟨fun z => absurd rfl z, fun _ => ?_⟩)
    · exact n1 acc (by unfold orP; rw [if_pos (bP_f (fun u => c1 u.1))]) v av
    · exact n1 acc (by unfold orP; rw [if_pos (bP_f (fun u => c1 u.2))]) w aw
    · exact n1 _ (by unfold orP; rw [if_neg (fun g => bP_z.mp g ⟨c0, c1⟩)]) w aw


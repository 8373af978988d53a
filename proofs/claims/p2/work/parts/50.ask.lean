def askT (T : TT) (A : Nat) (f : Nat → Int32) : TT := fun i => if i = 3 then nI (A + 1) else if 350 + 7 * A ≤ i ∧ i < 357 + 7 * A then f (i - (350 + 7 * A)) else T i
theorem askT_off {T : TT} {A : Nat} {f : Nat → Int32} {i : Nat} (h3 : i ≠ 3) (h : ¬ (350 + 7 * A ≤ i ∧ i < 357 + 7 * A)) : askT T A f i = T i := by
  unfold askT
  rw [if_neg h3, if_neg h]
theorem ao_askT {T : TT} {A : Nat} {f : Nat → Int32} {k : Nat} (h : k < 7) : ao (askT T A f) A k = f k := by
  unfold ao askT
  rw [if_neg (by omega), if_pos (by omega)]
  congr 1
  omega
/-- one ask more -/
theorem SEA.addA {x z : Cn} {q p : Nat} {T T' : TT} {W C S A N : Nat} (E : SEA x q T W C S A N) (hA : A < 24) (hp : gr x (q + 4) A = some p) (h1 : z.2 = x.2) (h2 : ∀ b k, q ≤ b → b < q + 54 → b ≠ p → ¬ (b = q ∧ k = 4) → b ≠ q + 5 → gi z b k = gi x b k) (h3 : gi z q 4 = nI (A + 1)) (h4 : ASR z p T' A) (hT : ∀ i, i < 518 → i ≠ 3 → ¬ (350 + 7 * A ≤ i ∧ i < 357 + 7 * A) → T' i = T i) (hT3 : T' 3 = nI (A + 1)) (hw : Was T' C W A) : SEA z q T' W C S (A + 1) N := by
  obtain ⟨e1, e2, ⟨v0, v1, v2, v3, v4, v5, v6, v7⟩, w1, w2, w3, w4, w5, w6, w7, w8, w9, w10, w11, w12, w13, w14⟩ := E
  obtain ⟨r1, r2, r3, r4, r5, r6, r7, r8, r9⟩ := id e2
  have hg : ∀ b k, gr z b k = gr x b k := fun b k => by unfold gr; rw [h1]
  obtain ⟨j, hj, ej⟩ := r8 A hA
  have ep : p = q + 30 + j := Option.some.inj (hp.symm.trans ej)
  refine ⟨e1, e2.keep h1, ⟨?_, ?_, ?_, ?_, ?_, ?_, ?_, ?_⟩, ?_⟩
  · rw [h2 q 0 (by omega) (by omega) (by omega) (by omega) (by omega), hT 0 (by decide) (by decide) (by omega)]; exact v0
  · rw [h2 q 1 (by omega) (by omega) (by omega) (by omega) (by omega), hT 4 (by decide) (by decide) (by omega)]; exact v1
  · rw [h2 q 2 (by omega) (by omega) (by omega) (by omega) (by omega), hT 5 (by decide) (by decide) (by omega)]; exact v2
  · rw [h2 q 3 (by omega) (by omega) (by omega) (by omega) (by omega), hT 2 (by decide) (by decide) (by omega)]; exact v3
  · rw [h3, hT3]
  · intro h hh
    rw [h2 (q + 1) h (by omega) (by omega) (by omega) (by omega) (by omega), h2 (q + 2) h (by omega) (by omega) (by omega) (by omega) (by omega), hT _ (by omega) (by omega) (by omega), hT _ (by omega) (by omega) (by omega)]
    exact v5 h hh
  · intro s p' hs hp'
    rw [hg] at hp'
    obtain ⟨j', hj', ej'⟩ := r6 s (by omega)
    have ep' : p' = q + 6 + j' := Option.some.inj (hp'.symm.trans ej')
    exact (v6 s p' hs hp').cg (fun k _ => h2 p' k (by omega) (by omega) (by omega) (by omega) (by omega)) (fun k hk => hT _ (by omega) (by omega) (by omega))
  · intro a p' ha hp'
    rw [hg] at hp'
    by_cases c : a = A
    · rw [c] at hp' ⊢
      have : p' = p := Option.some.inj (hp'.symm.trans hp)
      rw [this]; exact h4
    · have hne : p' ≠ p := fun e => c (r9 a A (by omega) hA (by rw [hp', hp, e]))
      obtain ⟨j', hj', ej'⟩ := r8 a (by omega)
      have ep' : p' = q + 30 + j' := Option.some.inj (hp'.symm.trans ej')
      exact (v7 a p' (by omega) hp').cg (fun k _ => h2 p' k (by omega) (by omega) hne (by omega) (by omega)) (fun k hk => hT _ (by omega) (by omega) (by omega))
  · refine ⟨by rw [hT 0 (by decide) (by decide) (by omega)]; exact w1, w2, w3, by rw [hT 1 (by decide) (by decide) (by omega)]; exact w4, w5, by rw [hT 2 (by decide) (by decide) (by omega)]; exact w6, w7, hT3, by omega, by rw [hT 4 (by decide) (by decide) (by omega)]; exact w10, w11, fun h hh => by rw [hT _ (by omega) (by omega) (by omega), hT _ (by omega) (by omega) (by omega)]; exact w12 h hh, fun s hs => (w13 s hs).cg (fun k hk => hT _ (by omega) (by omega) (by omega)), fun a ha => ?_⟩
    by_cases c : a = A
    · rw [c]; exact hw
    · exact (w14 a (by omega)).cg (fun k hk => hT _ (by omega) (by omega) (by omega))
set_option maxHeartbeats 2000000 in
theorem v_X8_addsAsk_0 {K : Sh} {x : Cn} {Q : Cn → Prop} {b0 : Nat}   (K0 : GV mX8_addsAsk 2 [some (.ref b0), some (.int 0)] [] K x Q) : mSV mX8_addsAsk [.ref b0] K x Q := by
  refine s_V (by decide) (by simp [Value.category]) (Nat.le_of_ble_eq_true rfl) ?_
  show mGM mX8_addsAsk 0 [some (.ref b0), none] [] (hp K x) (PV K Q)
  refine r_iconst (pc := 0) (v := 0) dX8_addsAsk_0 (by decide) ?_
  refine r_istore_n (pc := 1) dX8_addsAsk_1 (by decide) ?_
  exact r_le (L' := [some (.ref b0), some (.int 0)]) ⟨rfl, ⟨rfl, trivial⟩⟩ K0
set_option maxHeartbeats 2000000 in
theorem v_X8_addsAsk_2 {K : Sh} {x : Cn} {Q : Cn → Prop} {b0 : Nat} {l1 : Int32} {b0_3 : Nat} {n_b0_3 : Nat} {b0_15 : Nat} {n_b0_15 : Nat} (k_b0 : kk K b0 = some (8, 0)) (g_b0_3 : gr x b0 3 = some b0_3) (k_b0_3 : kk K b0_3 = some (20, n_b0_3)) (g_b0_15 : gr x b0 15 = some b0_15) (k_b0_15 : kk K b0_15 = some (20, n_b0_15)) (K0 : (7 ≤ l1 → (vp_in 3 n_b0_3 ∧ (Q (ui x b0_3 3 ((gi x b0_3 3) + 1))))) ∧ (¬ 7 ≤ l1 → (vp_in 3 n_b0_3 ∧ (vp_in l1 n_b0_15 ∧ (vp_in ((350 + (7 * (gi x b0_3 3))) + l1) n_b0_3 ∧ (GV mX8_addsAsk 2 [some (.ref b0), some (.int (l1 + 1))] [] K (ui x b0_3 (((350 + (7 * (gi x b0_3 3))) + l1) : Int32).toNatClampNeg (gi x b0_15 (l1 : Int32).toNatClampNeg)) Q)))))) : GV mX8_addsAsk 2 [some (.ref b0), some (.int l1)] [] K x Q := by
  show mGM mX8_addsAsk 2 [some (.ref b0), some (.int l1)] [] (hp K x) (PV K Q)
  refine r_iload_n (pc := 2) dX8_addsAsk_2 rfl ?_
  refine r_bipush (pc := 3) (v := 7) dX8_addsAsk_3 (by decide) ?_
  refine r_icmp_ge (pc := 5) (tgt := 40) dX8_addsAsk_5 (by decide) (fun q => ?_) (fun q => ?_)
  · have K0 := K0.1 q
    refine r_aload_n (pc := 40) dX8_addsAsk_40 rfl ?_
    refine s_getR (pc := 41) dX8_addsAsk_41 fl_X8_16 rfl k_b0 g_b0_3 ?_
    refine r_iconst (pc := 44) (v := 3) dX8_addsAsk_44 (by decide) ?_
    refine r_dup2 (pc := 45) dX8_addsAsk_45 rfl rfl ?_
    obtain ⟨i_2, K0⟩ := K0
    refine s_iald (pc := 46) dX8_addsAsk_46 k_b0_3 i_2 ?_
    refine r_iconst (pc := 47) (v := 1) dX8_addsAsk_47 (by decide) ?_
    refine r_iadd (pc := 48) dX8_addsAsk_48 ?_
    refine s_iast (pc := 49) dX8_addsAsk_49 k_b0_3 i_2 ?_
    exact s_ret rfl dX8_addsAsk_50 K0
  · have K0 := K0.2 q
    refine r_aload_n (pc := 8) dX8_addsAsk_8 rfl ?_
    refine s_getR (pc := 9) dX8_addsAsk_9 fl_X8_16 rfl k_b0 g_b0_3 ?_
    refine r_sipush (pc := 12) (v := 350) dX8_addsAsk_12 (by decide) ?_
    refine r_bipush (pc := 15) (v := 7) dX8_addsAsk_15 (by decide) ?_
    refine r_aload_n (pc := 17) dX8_addsAsk_17 rfl ?_
    refine s_getR (pc := 18) dX8_addsAsk_18 fl_X8_16 rfl k_b0 g_b0_3 ?_
    refine r_iconst (pc := 21) (v := 3) dX8_addsAsk_21 (by decide) ?_
    obtain ⟨i_3, K0⟩ := K0
    refine s_iald (pc := 22) dX8_addsAsk_22 k_b0_3 i_3 ?_
    refine r_imul (pc := 23) dX8_addsAsk_23 ?_
    refine r_iadd (pc := 24) dX8_addsAsk_24 ?_
    refine r_iload_n (pc := 25) dX8_addsAsk_25 rfl ?_
    refine r_iadd (pc := 26) dX8_addsAsk_26 ?_
    refine r_aload_n (pc := 27) dX8_addsAsk_27 rfl ?_
    refine s_getR (pc := 28) dX8_addsAsk_28 fl_X8_27 rfl k_b0 g_b0_15 ?_
    refine r_iload_n (pc := 31) dX8_addsAsk_31 rfl ?_
    obtain ⟨i_4, K0⟩ := K0
    refine s_iald (pc := 32) dX8_addsAsk_32 k_b0_15 i_4 ?_
    obtain ⟨i_5, K0⟩ := K0
    refine s_iast (pc := 33) dX8_addsAsk_33 k_b0_3 i_5 ?_
    refine r_iinc (pc := 34) (v := l1 + 1) dX8_addsAsk_34 rfl rfl (by decide) ?_
    refine r_goto (pc := 37) (L := [some (.ref b0), some (.int (l1 + 1))]) (tgt := 2) dX8_addsAsk_37 (by decide) ?_
    exact r_le (L' := [some (.ref b0), some (.int (l1 + 1))]) ⟨rfl, ⟨rfl, trivial⟩⟩ K0
section
theorem sp_X8_addsAsk {x : Cn} {Q : Cn → Prop} {t A : Nat} {f : Nat → Int32} (M : MRf x t) (ht : kk KW t = some (20, 518)) (ht2 : t ≠ 721) (h3 : gi x t 3 = nI A) (hA : A < 24) (hf : ∀ k, k < 7 → gi x 721 k = f k) (q : ∀ y, y.2 = x.2 → (∀ a k, a ≠ t → gi y a k = gi x a k) → gi y t = askT (gi x t) A f → Q y) : mSV mX8_addsAsk [.ref 717] KW x Q := by
  have key : ∀ c k y, k + c = 7 → y.2 = x.2 → (∀ a k, a ≠ t → gi y a k = gi x a k) → (∀ i, gi y t i = if 350 + 7 * A ≤ i ∧ i < 350 + 7 * A + k then f (i - (350 + 7 * A)) else gi x t i) → GV mX8_addsAsk 2 [some (.ref 717), some (.int (nI k))] [] KW y Q := by
    intro c
    induction c with
    | zero =>
      intro k y hk y1 y2 y3
      have : k = 7 := by omega
      subst this
      have M2 := M.keep y1
      refine v_X8_addsAsk_2 km M2.2.2.1 ht M2.2.2.2.2.1 (show kk KW 721 = some (20, 7) by decide) ⟨fun _ => ⟨v0 (k := 3) (by decide) rfl rfl, ?_⟩, fun z => absurd (Int32.le_refl _) z⟩
      have e3 : gi y t 3 = nI A := by rw [y3, if_neg (by omega)]; exact h3
      rw [e3, nI_1]
      refine q _ y1 (fun a k ha => by rw [gi_ui, if_neg (fun z => ha z.1)]; exact y2 a k ha) ?_
      funext i
      rw [gi_ui]
      unfold askT
      by_cases c3 : i = 3
      · rw [if_pos ⟨rfl, c3⟩, if_pos c3]
      · rw [if_neg (fun z => c3 z.2), if_neg c3, y3]
        by_cases c4 : 350 + 7 * A ≤ i ∧ i < 357 + 7 * A
        · rw [if_pos (by omega), if_pos c4]
        · rw [if_neg (by omega), if_neg c4]
    | succ c ih =>
      intro k y hk y1 y2 y3
      have M2 := M.keep y1
      have e3 : gi y t 3 = nI A := by rw [y3, if_neg (by omega)]; exact h3
      refine v_X8_addsAsk_2 km M2.2.2.1 ht M2.2.2.2.2.1 (show kk KW 721 = some (20, 7) by decide) ⟨fun z => absurd z (nI_ge (b := 7) (by omega) (by decide)), fun _ => ⟨v0 (k := 3) (by decide) rfl rfl, vp_in_nI (by omega) (by decide), ?_⟩⟩
      rw [e3, nI_1, nI_clamp (show k < 2 ^ 31 by omega)]
      refine ⟨iv2 hA k rfl (by omega), ?_⟩
      rw [ic2 hA k rfl (by omega)]
      refine ih (k + 1) _ (by omega) y1 (fun a k ha => by rw [gi_ui, if_neg (fun z => ha z.1)]; exact y2 a k ha) (fun i => ?_)
      rw [gi_ui]
      by_cases c3 : i = 350 + 7 * A + k
      · rw [if_pos ⟨rfl, c3⟩, if_pos (by omega), y2 721 k (Ne.symm ht2), hf k (by omega)]
        congr 1
        omega
      · rw [if_neg (fun z => c3 z.2), y3]
        by_cases c4 : 350 + 7 * A ≤ i ∧ i < 350 + 7 * A + k
        · rw [if_pos c4, if_pos (by omega)]
        · rw [if_neg c4, if_neg (by omega)]
  exact v_X8_addsAsk_0 (key 7 0 x (by omega) rfl (fun _ _ _ => rfl) (fun i => by rw [if_neg (by omega)]))
theorem RS.mv {x z : Cn} {T T' : TT} {n : Nat} {H : Nat → TT} (r : RS x T n H) (h1 : z.2 = x.2) (h2 : ∀ a k, a ≠ 718 → a ≠ 719 → a ≠ 721 → a ≠ 722 → a ≠ 723 → ¬ (a = 717 ∧ k = 18) → gi z a k = gi x a k) (h3 : gi z 718 = T') : RS z T' n H ∧ RFr x z :=
  ⟨⟨r.1.keep h1, h3, by rw [h2 717 19 (by decide) (by decide) (by decide) (by decide) (by decide) (by omega)]; exact r.2.2.1, r.2.2.2.1, fun j hj i hi => by rw [h2 724 _ (by decide) (by decide) (by decide) (by decide) (by decide) (by omega)]; exact r.2.2.2.2 j hj i hi⟩, h1, fun a k a1 a2 a3 a4 a5 a6 a7 => h2 a k a1 a2 a3 a4 a5 (fun u => a7 (by omega))⟩
/-- what an ask may say -/
def okA (C W : Nat) (a b f l e : Int32) : Prop := ∃ c k f' l' e', a = nI c ∧ c < C ∧ b = nI k ∧ k ≤ 6999 ∧ k % 10 ≤ 1 ∧ k / 10 % 100 ≤ 23 ∧ f = nI f' ∧ f' < W ∧ l = nI l' ∧ l' < W ∧ f' + 4 ≤ l' ∧ e = nI e' ∧ e' ≤ 9
theorem ky_1 {k : Nat} (h : k < 2 ^ 31) : nI k / 1000 = nI (k / 1000) := pk_div (d := 1000) h (by decide) (by decide)
theorem ky_2 {k : Nat} (h : k < 2 ^ 31) : (nI k - nI k / 1000 * 1000) / 10 = nI (k / 10 % 100) := by
  have e : nI k - nI k / 1000 * 1000 = nI (k % 1000) := pk_rem (d := 1000) h (by decide) (by decide)
  rw [e]
  have := pk_div (a := k % 1000) (d := 10) (by omega) (by decide) (by decide)
  rw [show (nI (k % 1000) / 10 : Int32) = nI (k % 1000 / 10) from this]
  congr 1
  omega
theorem ky_3 {k : Nat} (h : k < 2 ^ 31) : nI k - nI k / 10 * 10 = nI (k % 10) := pk_rem (d := 10) h (by decide) (by decide)
theorem ky_4 {k : Nat} (h : k < 2 ^ 31) : (nI k / 10) - (nI k / 10) / 100 * 100 = nI (k / 10 % 100) := by
  have e : nI k / 10 = nI (k / 10) := pk_div (d := 10) h (by decide) (by decide)
  rw [e]
  exact pk_rem (d := 100) (by omega) (by decide) (by decide)
def askF (a b f l e : Int32) : Nat → Int32 := fun j => if j = 0 then a else if j = 1 then b / 1000 else if j = 2 then (b / 10) - (b / 10) / 100 * 100 else if j = 3 then b - b / 10 * 10 else if j = 4 then f else if j = 5 then l else e
theorem okA.was {C W A : Nat} {a b f l e : Int32} {T : TT} (h : okA C W a b f l e) : Was (askT T A (askF a b f l e)) C W A := by
  obtain ⟨c, k, f', l', e', h1, h2, h3, h4, h5, h6, h7, h8, h9, h10, h11, h12, h13⟩ := h
  subst h1 h3 h7 h9 h12
  refine ⟨⟨c, h2, by rw [ao_askT (by decide)]; rfl⟩, ⟨k / 1000, by omega, by rw [ao_askT (by decide)]; exact ky_1 (by omega)⟩, ⟨k / 10 % 100, by omega, by rw [ao_askT (by decide)]; exact ky_4 (by omega)⟩, ?_, ⟨f', l', h11, h10, by rw [ao_askT (by decide)]; rfl, by rw [ao_askT (by decide)]; rfl⟩, ⟨e', h13, by rw [ao_askT (by decide)]; rfl⟩⟩
  rw [ao_askT (by decide), show askF (nI c) (nI k) (nI f') (nI l') (nI e') 3 = nI (k % 10) from ky_3 (by omega)]
  have : k % 10 = 0 ∨ k % 10 = 1 := by omega
  rcases this with g | g
  · rw [g]; exact Or.inl rfl
  · rw [g]; exact Or.inr rfl
end
set_option maxHeartbeats 2000000 in
theorem v_X4_addAsk_0 {K : Sh} {x : Cn} {Q : Nat → Cn → Prop} {b0 : Nat} {b0_8 : Nat} {n_b0_8 : Nat} (k_b0 : kk K b0 = some (4, 0)) (g_b0_8 : gr x b0 8 = some b0_8) (k_b0_8 : kk K b0_8 = some (24, n_b0_8)) (K0 : vp_in (if 23 < (gi x b0 4) then 23 else (gi x b0 4)) n_b0_8 ∧ (∃ c_2 : Nat, gr x b0_8 (((if 23 < (gi x b0 4) then 23 else (gi x b0 4)) : Int32).toNatClampNeg) = some c_2 ∧ (Q c_2 (ui x b0 4 ((if 23 < (gi x b0 4) then 23 else (gi x b0 4)) + 1))))) : mSR mX4_addAsk [.ref b0] K x Q := by
  refine s_R (by decide) (by simp [Value.category]) (Nat.le_of_ble_eq_true rfl) ?_
  show mGM mX4_addAsk 0 [some (.ref b0), none] [] (hp K x) (PR K Q)
  refine r_aload_n (pc := 0) dX4_addAsk_0 rfl ?_
  refine s_getI (pc := 1) dX4_addAsk_1 fl_X4_24 rfl k_b0 ?_
  refine r_bipush (pc := 4) (v := 23) dX4_addAsk_4 (by decide) ?_
  refine r_mmin (pc := 6) dX4_addAsk_6 lk_X4_58 mw_min ⟨by decide, by decide⟩ (Nat.le_of_ble_eq_true rfl) ?_
  refine r_istore_n (pc := 9) dX4_addAsk_9 (by decide) ?_
  refine r_aload_n (pc := 10) (L := [some (.ref b0), some (.int (if 23 < (gi x b0 4) then 23 else (gi x b0 4)))]) dX4_addAsk_10 rfl ?_
  refine r_iload_n (pc := 11) dX4_addAsk_11 rfl ?_
  refine r_iconst (pc := 12) (v := 1) dX4_addAsk_12 (by decide) ?_
  refine r_iadd (pc := 13) dX4_addAsk_13 ?_
  refine s_putI (pc := 14) dX4_addAsk_14 fl_X4_24 rfl rfl k_b0 ?_
  refine r_aload_n (pc := 17) dX4_addAsk_17 rfl ?_
  refine s_getR (pc := 18) dX4_addAsk_18 fl_X4_42 rfl k_b0 g_b0_8 ?_
  refine r_iload_n (pc := 21) dX4_addAsk_21 rfl ?_
  obtain ⟨i_1, K0⟩ := K0
  obtain ⟨c_2, g_3, K0⟩ := K0
  refine s_aald (pc := 22) dX4_addAsk_22 (by decide) rfl k_b0_8 i_1 g_3 ?_
  exact s_aret rfl dX4_addAsk_23 K0
set_option maxHeartbeats 2000000 in
theorem v_X7_ask_0 {K : Sh} {x : Cn} {Q : Int32 → Cn → Prop} {b0 : Nat} {l1 : Int32} {l2 : Int32} {l3 : Int32} {l4 : Int32} {l5 : Int32} {b0_3 : Nat} {b0_2 : Nat} (k_b0 : kk K b0 = some (7, 0)) (g_b0_3 : gr x b0 3 = some b0_3) (k_b0_3 : kk K b0_3 = some (1, 0)) (g_b0_2 : gr x b0 2 = some b0_2) (k_b0_2 : kk K b0_2 = some (4, 0)) (K0 : (¬ (0 ≤ l1 ∧ l1 < gi x b0_3 0) → (Q (-2) x)) ∧ ((0 ≤ l1 ∧ l1 < gi x b0_3 0) → ((l2 < 0 → (Q (-2) x)) ∧ (¬ l2 < 0 → ((¬ (0 < gi x b0_2 0 ∧ 0 ≤ (l2 / 1000) ∧ (l2 / 1000) < 7) → (Q (-2) x)) ∧ ((0 < gi x b0_2 0 ∧ 0 ≤ (l2 / 1000) ∧ (l2 / 1000) < 7) → ((¬ (0 < gi x b0_2 0 ∧ 0 ≤ ((l2 - l2 / 1000 * 1000) / 10) ∧ ((l2 - l2 / 1000 * 1000) / 10) < 24) → (Q (-2) x)) ∧ ((0 < gi x b0_2 0 ∧ 0 ≤ ((l2 - l2 / 1000 * 1000) / 10) ∧ ((l2 - l2 / 1000 * 1000) / 10) < 24) → ((((l2 - l2 / 10 * 10) = 0 ∨ (l2 - l2 / 10 * 10) = 1) → ((¬ (0 ≤ l3 ∧ l3 < gi x b0_2 0) → (Q (-2) x)) ∧ ((0 ≤ l3 ∧ l3 < gi x b0_2 0) → ((¬ (0 ≤ l4 ∧ l4 < gi x b0_2 0) → (Q (-2) x)) ∧ ((0 ≤ l4 ∧ l4 < gi x b0_2 0) → ((((l4 - l3) + 1) < 5 → (Q (-2) x)) ∧ (¬ ((l4 - l3) + 1) < 5 → (((0 ≤ l5 ∧ l5 ≤ 9) → (((gi x b0_2 4) < 24 → (mSV mX7_remember [.ref b0] K x (fun y_11 => gr y_11 b0 2 = some b0_2 ∧ (mSR mX4_addAsk [.ref b0_2] K y_11 (fun r_14 y_13 => kk K r_14 = some (0, 0) ∧ (mSV mX0_placeAt [.ref r_14, .int l1, .int (l2 / 1000), .int ((l2 - l2 / 1000 * 1000) / 10), .int (l2 - l2 / 10 * 10)] K y_13 (fun y_16 => mSV mX0_span [.ref r_14, .int l3, .int l4, .int l5] K y_16 (fun y_17 => gr y_17 b0 2 = some b0_2 ∧ (Q (gi y_17 b0_2 4) y_17))))))))) ∧ (¬ (gi x b0_2 4) < 24 → (Q (-5) x)))) ∧ (¬ (0 ≤ l5 ∧ l5 ≤ 9) → (Q (-2) x)))))))))) ∧ (¬ ((l2 - l2 / 10 * 10) = 0 ∨ (l2 - l2 / 10 * 10) = 1) → (Q (-2) x))))))))))) : mSI mX7_ask [.ref b0, .int l1, .int l2, .int l3, .int l4, .int l5] K x Q := by
  refine s_I (by decide) (by simp [Value.category]) (Nat.le_of_ble_eq_true rfl) ?_
  show mGM mX7_ask 0 [some (.ref b0), some (.int l1), some (.int l2), some (.int l3), some (.int l4), some (.int l5), none, none, none, none] [] (hp K x) (PI K Q)
  refine r_iload_n (pc := 0) dX7_ask_0 rfl ?_
  refine r_sipush (pc := 1) (v := 1000) dX7_ask_1 (by decide) ?_
  refine r_idiv (pc := 4) dX7_ask_4 (by decide) ?_
  refine r_istore (pc := 5) dX7_ask_5 (by decide) ?_
  refine r_iload_n (pc := 7) (L := [some (.ref b0), some (.int l1), some (.int l2), some (.int l3), some (.int l4), some (.int l5), some (.int (l2 / 1000)), none, none, none]) dX7_ask_7 rfl ?_
  refine r_sipush (pc := 8) (v := 1000) dX7_ask_8 (by decide) ?_
  refine r_irem (pc := 11) dX7_ask_11 (by decide) ?_
  refine r_bipush (pc := 12) (v := 10) dX7_ask_12 (by decide) ?_
  refine r_idiv (pc := 14) dX7_ask_14 (by decide) ?_
  refine r_istore (pc := 15) dX7_ask_15 (by decide) ?_
  refine r_iload_n (pc := 17) (L := [some (.ref b0), some (.int l1), some (.int l2), some (.int l3), some (.int l4), some (.int l5), some (.int (l2 / 1000)), some (.int ((l2 - l2 / 1000 * 1000) / 10)), none, none]) dX7_ask_17 rfl ?_
  refine r_bipush (pc := 18) (v := 10) dX7_ask_18 (by decide) ?_
  refine r_irem (pc := 20) dX7_ask_20 (by decide) ?_
  refine r_istore (pc := 21) dX7_ask_21 (by decide) ?_
  refine r_aload_n (pc := 23) (L := [some (.ref b0), some (.int l1), some (.int l2), some (.int l3), some (.int l4), some (.int l5), some (.int (l2 / 1000)), some (.int ((l2 - l2 / 1000 * 1000) / 10)), some (.int (l2 - l2 / 10 * 10)), none]) dX7_ask_23 rfl ?_
  refine r_iload_n (pc := 24) dX7_ask_24 rfl ?_
  refine s_VI (pc := 25) mX7_isCarrier (ci := 7) (a := b0) (As := [.int l1]) dX7_ask_25 lk_X7_109 in_X7_isCarrier mo_X7_isCarrier ⟨by decide, rfl⟩ ⟨by decide, by decide⟩ (Nat.le_of_ble_eq_true rfl) k_b0 (sp_X7_isCarrier k_b0 g_b0_3 k_b0_3 ?_)
  refine r_if_eq (pc := 28) (tgt := 61) dX7_ask_28 (by decide) (fun q => ?_) (fun q => ?_)
  · have q := (b2i_z _).mp q
    have K0 := K0.1 q
    refine r_bipush (pc := 61) (v := (-2)) dX7_ask_61 (by decide) ?_
    exact s_iret rfl dX7_ask_63 K0
  · have q := b2i_nz q
    have K0 := K0.2 q
    refine r_iload_n (pc := 31) dX7_ask_31 rfl ?_
    refine r_if_lt (pc := 32) (tgt := 61) dX7_ask_32 (by decide) (fun q => ?_) (fun q => ?_)
    · have K0 := K0.1 q
      refine r_bipush (pc := 61) (v := (-2)) dX7_ask_61 (by decide) ?_
      exact s_iret rfl dX7_ask_63 K0
    · have K0 := K0.2 q
      refine r_aload_n (pc := 35) dX7_ask_35 rfl ?_
      refine r_iload (pc := 36) dX7_ask_36 rfl ?_
      refine s_VI (pc := 38) mX7_isDay (ci := 7) (a := b0) (As := [.int (l2 / 1000)]) dX7_ask_38 lk_X7_245 in_X7_isDay mo_X7_isDay ⟨by decide, rfl⟩ ⟨by decide, by decide⟩ (Nat.le_of_ble_eq_true rfl) k_b0 (sp_X7_isDay k_b0 g_b0_2 k_b0_2 ?_)
      refine r_if_eq (pc := 41) (tgt := 61) dX7_ask_41 (by decide) (fun q => ?_) (fun q => ?_)
      · have q := (b2i_z _).mp q
        have K0 := K0.1 q
        refine r_bipush (pc := 61) (v := (-2)) dX7_ask_61 (by decide) ?_
        exact s_iret rfl dX7_ask_63 K0
      · have q := b2i_nz q
        have K0 := K0.2 q
        refine r_aload_n (pc := 44) dX7_ask_44 rfl ?_
        refine r_iload (pc := 45) dX7_ask_45 rfl ?_
        refine s_VI (pc := 47) mX7_isHour (ci := 7) (a := b0) (As := [.int ((l2 - l2 / 1000 * 1000) / 10)]) dX7_ask_47 lk_X7_195 in_X7_isHour mo_X7_isHour ⟨by decide, rfl⟩ ⟨by decide, by decide⟩ (Nat.le_of_ble_eq_true rfl) k_b0 (sp_X7_isHour k_b0 g_b0_2 k_b0_2 ?_)
        refine r_if_eq (pc := 50) (tgt := 61) dX7_ask_50 (by decide) (fun q => ?_) (fun q => ?_)
        · have q := (b2i_z _).mp q
          have K0 := K0.1 q
          refine r_bipush (pc := 61) (v := (-2)) dX7_ask_61 (by decide) ?_
          exact s_iret rfl dX7_ask_63 K0
        · have q := b2i_nz q
          have K0 := K0.2 q
          refine r_iload (pc := 53) dX7_ask_53 rfl ?_
          refine s_SI (pc := 55) mX7_isWay (As := [.int (l2 - l2 / 10 * 10)]) dX7_ask_55 lk_X7_218 st_X7_isWay mo_X7_isWay ⟨by decide, by decide⟩ (Nat.le_of_ble_eq_true rfl) (sp_X7_isWay  ?_)
          refine r_if_ne (pc := 58) (tgt := 64) dX7_ask_58 (by decide) (fun q => ?_) (fun q => ?_)
          · have q := b2i_nz q
            have K0 := K0.1 q
            refine r_aload_n (pc := 64) dX7_ask_64 rfl ?_
            refine r_iload_n (pc := 65) dX7_ask_65 rfl ?_
            refine s_VI (pc := 66) mX7_isWeek (ci := 7) (a := b0) (As := [.int l3]) dX7_ask_66 lk_X7_167 in_X7_isWeek mo_X7_isWeek ⟨by decide, rfl⟩ ⟨by decide, by decide⟩ (Nat.le_of_ble_eq_true rfl) k_b0 (sp_X7_isWeek k_b0 g_b0_2 k_b0_2 ?_)
            refine r_if_eq (pc := 69) (tgt := 102) dX7_ask_69 (by decide) (fun q => ?_) (fun q => ?_)
            · have q := (b2i_z _).mp q
              have K0 := K0.1 q
              refine r_bipush (pc := 102) (v := (-2)) dX7_ask_102 (by decide) ?_
              exact s_iret rfl dX7_ask_104 K0
            · have q := b2i_nz q
              have K0 := K0.2 q
              refine r_aload_n (pc := 72) dX7_ask_72 rfl ?_
              refine r_iload (pc := 73) dX7_ask_73 rfl ?_
              refine s_VI (pc := 75) mX7_isWeek (ci := 7) (a := b0) (As := [.int l4]) dX7_ask_75 lk_X7_167 in_X7_isWeek mo_X7_isWeek ⟨by decide, rfl⟩ ⟨by decide, by decide⟩ (Nat.le_of_ble_eq_true rfl) k_b0 (sp_X7_isWeek k_b0 g_b0_2 k_b0_2 ?_)
              refine r_if_eq (pc := 78) (tgt := 102) dX7_ask_78 (by decide) (fun q => ?_) (fun q => ?_)
              · have q := (b2i_z _).mp q
                have K0 := K0.1 q
                refine r_bipush (pc := 102) (v := (-2)) dX7_ask_102 (by decide) ?_
                exact s_iret rfl dX7_ask_104 K0
              · have q := b2i_nz q
                have K0 := K0.2 q
                refine r_iload (pc := 81) dX7_ask_81 rfl ?_
                refine r_iload_n (pc := 83) dX7_ask_83 rfl ?_
                refine r_isub (pc := 84) dX7_ask_84 ?_
                refine r_iconst (pc := 85) (v := 1) dX7_ask_85 (by decide) ?_
                refine r_iadd (pc := 86) dX7_ask_86 ?_
                refine r_iconst (pc := 87) (v := 5) dX7_ask_87 (by decide) ?_
                refine r_icmp_lt (pc := 88) (tgt := 102) dX7_ask_88 (by decide) (fun q => ?_) (fun q => ?_)
                · have K0 := K0.1 q
                  refine r_bipush (pc := 102) (v := (-2)) dX7_ask_102 (by decide) ?_
                  exact s_iret rfl dX7_ask_104 K0
                · have K0 := K0.2 q
                  refine r_iload (pc := 91) dX7_ask_91 rfl ?_
                  refine r_iconst (pc := 93) (v := 0) dX7_ask_93 (by decide) ?_
                  refine r_bipush (pc := 94) (v := 9) dX7_ask_94 (by decide) ?_
                  refine s_SI (pc := 96) mX7_isWithin (As := [.int l5, .int 0, .int 9]) dX7_ask_96 lk_X7_113 st_X7_isWithin mo_X7_isWithin ⟨by decide, by decide⟩ (Nat.le_of_ble_eq_true rfl) (sp_X7_isWithin  ?_)
                  refine r_if_ne (pc := 99) (tgt := 105) dX7_ask_99 (by decide) (fun q => ?_) (fun q => ?_)
                  · have q := b2i_nz q
                    have K0 := K0.1 q
                    refine r_aload_n (pc := 105) dX7_ask_105 rfl ?_
                    refine s_getR (pc := 106) dX7_ask_106 fl_X7_20 rfl k_b0 g_b0_2 ?_
                    refine s_getI (pc := 109) dX7_ask_109 fl_X7_100 rfl k_b0_2 ?_
                    refine r_bipush (pc := 112) (v := 24) dX7_ask_112 (by decide) ?_
                    refine r_icmp_lt (pc := 114) (tgt := 120) dX7_ask_114 (by decide) (fun q => ?_) (fun q => ?_)
                    · have K0 := K0.1 q
                      refine r_aload_n (pc := 120) dX7_ask_120 rfl ?_
                      refine s_VV (pc := 121) mX7_remember (ci := 7) (a := b0) (As := []) dX7_ask_121 lk_X7_333 in_X7_remember mo_X7_remember ⟨by decide, rfl⟩ ⟨by decide, by decide⟩ (Nat.le_of_ble_eq_true rfl) k_b0 (mSV_mono K0 (fun y_11 K0 => ?_))
                      refine r_aload_n (pc := 124) dX7_ask_124 rfl ?_
                      obtain ⟨g_12, K0⟩ := K0
                      refine s_getR (pc := 125) dX7_ask_125 fl_X7_20 rfl k_b0 g_12 ?_
                      refine s_VR (pc := 128) mX4_addAsk (ci := 4) (a := b0_2) (As := []) dX7_ask_128 lk_X7_361 in_X4_addAsk mo_X4_addAsk ⟨by decide, rfl⟩ ⟨by decide, by decide⟩ (Nat.le_of_ble_eq_true rfl) k_b0_2 (mSR_mono K0 (fun r_14 y_13 K0 => ?_))
                      refine r_astore (pc := 131) dX7_ask_131 (by decide) ?_
                      refine r_aload (pc := 133) (L := [some (.ref b0), some (.int l1), some (.int l2), some (.int l3), some (.int l4), some (.int l5), some (.int (l2 / 1000)), some (.int ((l2 - l2 / 1000 * 1000) / 10)), some (.int (l2 - l2 / 10 * 10)), some (.ref r_14)]) dX7_ask_133 rfl ?_
                      refine r_iload_n (pc := 135) dX7_ask_135 rfl ?_
                      refine r_iload (pc := 136) dX7_ask_136 rfl ?_
                      refine r_iload (pc := 138) dX7_ask_138 rfl ?_
                      refine r_iload (pc := 140) dX7_ask_140 rfl ?_
                      obtain ⟨e_15, K0⟩ := K0
                      refine s_VV (pc := 142) mX0_placeAt (ci := 0) (a := r_14) (As := [.int l1, .int (l2 / 1000), .int ((l2 - l2 / 1000 * 1000) / 10), .int (l2 - l2 / 10 * 10)]) dX7_ask_142 lk_X7_365 in_X0_placeAt mo_X0_placeAt ⟨by decide, rfl⟩ ⟨by decide, by decide⟩ (Nat.le_of_ble_eq_true rfl) e_15 (mSV_mono K0 (fun y_16 K0 => ?_))
                      refine r_aload (pc := 145) dX7_ask_145 rfl ?_
                      refine r_iload_n (pc := 147) dX7_ask_147 rfl ?_
                      refine r_iload (pc := 148) dX7_ask_148 rfl ?_
                      refine r_iload (pc := 150) dX7_ask_150 rfl ?_
                      refine s_VV (pc := 152) mX0_span (ci := 0) (a := r_14) (As := [.int l3, .int l4, .int l5]) dX7_ask_152 lk_X7_369 in_X0_span mo_X0_span ⟨by decide, rfl⟩ ⟨by decide, by decide⟩ (Nat.le_of_ble_eq_true rfl) e_15 (mSV_mono K0 (fun y_17 K0 => ?_))
                      refine r_aload_n (pc := 155) dX7_ask_155 rfl ?_
                      obtain ⟨g_18, K0⟩ := K0
                      refine s_getR (pc := 156) dX7_ask_156 fl_X7_20 rfl k_b0 g_18 ?_
                      refine s_getI (pc := 159) dX7_ask_159 fl_X7_100 rfl k_b0_2 ?_
                      exact s_iret rfl dX7_ask_162 K0
                    · have K0 := K0.2 q
                      refine r_bipush (pc := 117) (v := (-5)) dX7_ask_117 (by decide) ?_
                      exact s_iret rfl dX7_ask_119 K0
                  · have q := (b2i_z _).mp q
                    have K0 := K0.2 q
                    refine r_bipush (pc := 102) (v := (-2)) dX7_ask_102 (by decide) ?_
                    exact s_iret rfl dX7_ask_104 K0
          · have q := (b2i_z _).mp q
            have K0 := K0.2 q
            refine r_bipush (pc := 61) (v := (-2)) dX7_ask_61 (by decide) ?_
            exact s_iret rfl dX7_ask_63 K0
set_option maxHeartbeats 2000000 in
theorem v_X8_ask_0 {K : Sh} {x : Cn} {Q : Int32 → Cn → Prop} {b0 : Nat} {l1 : Int32} {l2 : Int32} {l3 : Int32} {l4 : Int32} {l5 : Int32} {b0_1 : Nat} {n_b0_1 : Nat} (k_b0 : kk K b0 = some (8, 0)) (g_b0_1 : gr x b0 1 = some b0_1) (k_b0_1 : kk K b0_1 = some (20, n_b0_1)) (K0 : vp_in 1 n_b0_1 ∧ ((¬ (0 ≤ l1 ∧ l1 ≤ gi x b0_1 1 - 1) → (Q (-2) x)) ∧ ((0 ≤ l1 ∧ l1 ≤ gi x b0_1 1 - 1) → ((¬ (0 ≤ l2 ∧ l2 ≤ 6999) → (Q (-2) x)) ∧ ((0 ≤ l2 ∧ l2 ≤ 6999) → ((¬ (0 ≤ (l2 - l2 / 10 * 10) ∧ (l2 - l2 / 10 * 10) ≤ 1) → (Q (-2) x)) ∧ ((0 ≤ (l2 - l2 / 10 * 10) ∧ (l2 - l2 / 10 * 10) ≤ 1) → (((0 ≤ ((l2 / 10) - (l2 / 10) / 100 * 100) ∧ ((l2 / 10) - (l2 / 10) / 100 * 100) ≤ 23) → (vp_in 0 n_b0_1 ∧ ((¬ (0 ≤ l3 ∧ l3 ≤ gi x b0_1 0 - 1) → (Q (-2) x)) ∧ ((0 ≤ l3 ∧ l3 ≤ gi x b0_1 0 - 1) → ((¬ (0 ≤ l4 ∧ l4 ≤ gi x b0_1 0 - 1) → (Q (-2) x)) ∧ ((0 ≤ l4 ∧ l4 ≤ gi x b0_1 0 - 1) → ((l4 < (l3 + 4) → (Q (-2) x)) ∧ (¬ l4 < (l3 + 4) → (((0 ≤ l5 ∧ l5 ≤ 9) → (vp_in 3 n_b0_1 ∧ ((¬ (gi x b0_1 3) = 24 → (mSV mX8_keeps [.ref b0] K x (fun y_13 => ∃ c_14 : Nat, gr y_13 b0 15 = some c_14 ∧ (∃ n_17 : Nat, kk K c_14 = some (20, n_17) ∧ (vp_in 0 n_17 ∧ (vp_in 1 n_17 ∧ (vp_in 2 n_17 ∧ (vp_in 3 n_17 ∧ (vp_in 4 n_17 ∧ (vp_in 5 n_17 ∧ (vp_in 6 n_17 ∧ (mSV mX8_addsAsk [.ref b0] K (ui (ui (ui (ui (ui (ui (ui y_13 c_14 0 l1) c_14 1 (l2 / 1000)) c_14 2 ((l2 / 10) - (l2 / 10) / 100 * 100)) c_14 3 (l2 - l2 / 10 * 10)) c_14 4 l3) c_14 5 l4) c_14 6 l5) (fun y_25 => gr y_25 b0 1 = some b0_1 ∧ (Q (gi y_25 b0_1 3) y_25)))))))))))))) ∧ ((gi x b0_1 3) = 24 → (Q (-5) x))))) ∧ (¬ (0 ≤ l5 ∧ l5 ≤ 9) → (Q (-2) x))))))))))) ∧ (¬ (0 ≤ ((l2 / 10) - (l2 / 10) / 100 * 100) ∧ ((l2 / 10) - (l2 / 10) / 100 * 100) ≤ 23) → (Q (-2) x)))))))))) : mSI mX8_ask [.ref b0, .int l1, .int l2, .int l3, .int l4, .int l5] K x Q := by
  refine s_I (by decide) (by simp [Value.category]) (Nat.le_of_ble_eq_true rfl) ?_
  show mGM mX8_ask 0 [some (.ref b0), some (.int l1), some (.int l2), some (.int l3), some (.int l4), some (.int l5), none] [] (hp K x) (PI K Q)
  refine r_iload_n (pc := 0) dX8_ask_0 rfl ?_
  refine r_bipush (pc := 1) (v := 10) dX8_ask_1 (by decide) ?_
  refine r_idiv (pc := 3) dX8_ask_3 (by decide) ?_
  refine r_bipush (pc := 4) (v := 100) dX8_ask_4 (by decide) ?_
  refine r_irem (pc := 6) dX8_ask_6 (by decide) ?_
  refine r_istore (pc := 7) dX8_ask_7 (by decide) ?_
  refine r_aload_n (pc := 9) (L := [some (.ref b0), some (.int l1), some (.int l2), some (.int l3), some (.int l4), some (.int l5), some (.int ((l2 / 10) - (l2 / 10) / 100 * 100))]) dX8_ask_9 rfl ?_
  refine r_iload_n (pc := 10) dX8_ask_10 rfl ?_
  obtain ⟨i_1, K0⟩ := K0
  refine s_VI (pc := 11) mX8_isCarrier (ci := 8) (a := b0) (As := [.int l1]) dX8_ask_11 lk_X8_265 in_X8_isCarrier mo_X8_isCarrier ⟨by decide, rfl⟩ ⟨by decide, by decide⟩ (Nat.le_of_ble_eq_true rfl) k_b0 (sp_X8_isCarrier k_b0 g_b0_1 k_b0_1 i_1 ?_)
  refine r_if_eq (pc := 14) (tgt := 55) dX8_ask_14 (by decide) (fun q => ?_) (fun q => ?_)
  · have q := (b2i_z _).mp q
    have K0 := K0.1 q
    refine r_bipush (pc := 55) (v := (-2)) dX8_ask_55 (by decide) ?_
    exact s_iret rfl dX8_ask_57 K0
  · have q := b2i_nz q
    have K0 := K0.2 q
    refine r_iload_n (pc := 17) dX8_ask_17 rfl ?_
    refine r_i2l (pc := 18) dX8_ask_18 ?_
    refine r_lconst (pc := 19) (v := 0) dX8_ask_19 (by decide) ?_
    refine r_ldc2 (pc := 20) (v := 6999) dX8_ask_20 cn_X8_393 ?_
    refine s_SI (pc := 23) mX8_in (As := [.long ((l2 : Int32).toInt64), .long 0, .long 6999]) dX8_ask_23 lk_X8_45 st_X8_in mo_X8_in ⟨by decide, by decide⟩ (Nat.le_of_ble_eq_true rfl) (sq_X8_in (v := l2) (lo := 0) (hi := 6999) rfl (by decide) (by decide) ?_)
    refine r_if_eq (pc := 26) (tgt := 55) dX8_ask_26 (by decide) (fun q => ?_) (fun q => ?_)
    · have q := (b2i_z _).mp q
      have K0 := K0.1 q
      refine r_bipush (pc := 55) (v := (-2)) dX8_ask_55 (by decide) ?_
      exact s_iret rfl dX8_ask_57 K0
    · have q := b2i_nz q
      have K0 := K0.2 q
      refine r_iload_n (pc := 29) dX8_ask_29 rfl ?_
      refine r_bipush (pc := 30) (v := 10) dX8_ask_30 (by decide) ?_
      refine r_irem (pc := 32) dX8_ask_32 (by decide) ?_
      refine r_i2l (pc := 33) dX8_ask_33 ?_
      refine r_lconst (pc := 34) (v := 0) dX8_ask_34 (by decide) ?_
      refine r_lconst (pc := 35) (v := 1) dX8_ask_35 (by decide) ?_
      refine s_SI (pc := 36) mX8_in (As := [.long (((l2 - l2 / 10 * 10) : Int32).toInt64), .long 0, .long 1]) dX8_ask_36 lk_X8_45 st_X8_in mo_X8_in ⟨by decide, by decide⟩ (Nat.le_of_ble_eq_true rfl) (sq_X8_in (v := (l2 - l2 / 10 * 10)) (lo := 0) (hi := 1) rfl (by decide) (by decide) ?_)
      refine r_if_eq (pc := 39) (tgt := 55) dX8_ask_39 (by decide) (fun q => ?_) (fun q => ?_)
      · have q := (b2i_z _).mp q
        have K0 := K0.1 q
        refine r_bipush (pc := 55) (v := (-2)) dX8_ask_55 (by decide) ?_
        exact s_iret rfl dX8_ask_57 K0
      · have q := b2i_nz q
        have K0 := K0.2 q
        refine r_iload (pc := 42) dX8_ask_42 rfl ?_
        refine r_i2l (pc := 44) dX8_ask_44 ?_
        refine r_lconst (pc := 45) (v := 0) dX8_ask_45 (by decide) ?_
        refine r_ldc2 (pc := 46) (v := 23) dX8_ask_46 cn_X8_55 ?_
        refine s_SI (pc := 49) mX8_in (As := [.long ((((l2 / 10) - (l2 / 10) / 100 * 100) : Int32).toInt64), .long 0, .long 23]) dX8_ask_49 lk_X8_45 st_X8_in mo_X8_in ⟨by decide, by decide⟩ (Nat.le_of_ble_eq_true rfl) (sq_X8_in (v := ((l2 / 10) - (l2 / 10) / 100 * 100)) (lo := 0) (hi := 23) rfl (by decide) (by decide) ?_)
        refine r_if_ne (pc := 52) (tgt := 58) dX8_ask_52 (by decide) (fun q => ?_) (fun q => ?_)
        · have q := b2i_nz q
          have K0 := K0.1 q
          refine r_aload_n (pc := 58) dX8_ask_58 rfl ?_
          refine r_iload_n (pc := 59) dX8_ask_59 rfl ?_
          obtain ⟨i_6, K0⟩ := K0
          refine s_VI (pc := 60) mX8_isWeek (ci := 8) (a := b0) (As := [.int l3]) dX8_ask_60 lk_X8_57 in_X8_isWeek mo_X8_isWeek ⟨by decide, rfl⟩ ⟨by decide, by decide⟩ (Nat.le_of_ble_eq_true rfl) k_b0 (sp_X8_isWeek k_b0 g_b0_1 k_b0_1 i_6 ?_)
          refine r_if_eq (pc := 63) (tgt := 96) dX8_ask_63 (by decide) (fun q => ?_) (fun q => ?_)
          · have q := (b2i_z _).mp q
            have K0 := K0.1 q
            refine r_bipush (pc := 96) (v := (-2)) dX8_ask_96 (by decide) ?_
            exact s_iret rfl dX8_ask_98 K0
          · have q := b2i_nz q
            have K0 := K0.2 q
            refine r_aload_n (pc := 66) dX8_ask_66 rfl ?_
            refine r_iload (pc := 67) dX8_ask_67 rfl ?_
            refine s_VI (pc := 69) mX8_isWeek (ci := 8) (a := b0) (As := [.int l4]) dX8_ask_69 lk_X8_57 in_X8_isWeek mo_X8_isWeek ⟨by decide, rfl⟩ ⟨by decide, by decide⟩ (Nat.le_of_ble_eq_true rfl) k_b0 (sp_X8_isWeek k_b0 g_b0_1 k_b0_1 i_6 ?_)
            refine r_if_eq (pc := 72) (tgt := 96) dX8_ask_72 (by decide) (fun q => ?_) (fun q => ?_)
            · have q := (b2i_z _).mp q
              have K0 := K0.1 q
              refine r_bipush (pc := 96) (v := (-2)) dX8_ask_96 (by decide) ?_
              exact s_iret rfl dX8_ask_98 K0
            · have q := b2i_nz q
              have K0 := K0.2 q
              refine r_iload (pc := 75) dX8_ask_75 rfl ?_
              refine r_iload_n (pc := 77) dX8_ask_77 rfl ?_
              refine r_iconst (pc := 78) (v := 4) dX8_ask_78 (by decide) ?_
              refine r_iadd (pc := 79) dX8_ask_79 ?_
              refine r_icmp_lt (pc := 80) (tgt := 96) dX8_ask_80 (by decide) (fun q => ?_) (fun q => ?_)
              · have K0 := K0.1 q
                refine r_bipush (pc := 96) (v := (-2)) dX8_ask_96 (by decide) ?_
                exact s_iret rfl dX8_ask_98 K0
              · have K0 := K0.2 q
                refine r_iload (pc := 83) dX8_ask_83 rfl ?_
                refine r_i2l (pc := 85) dX8_ask_85 ?_
                refine r_lconst (pc := 86) (v := 0) dX8_ask_86 (by decide) ?_
                refine r_ldc2 (pc := 87) (v := 9) dX8_ask_87 cn_X8_388 ?_
                refine s_SI (pc := 90) mX8_in (As := [.long ((l5 : Int32).toInt64), .long 0, .long 9]) dX8_ask_90 lk_X8_45 st_X8_in mo_X8_in ⟨by decide, by decide⟩ (Nat.le_of_ble_eq_true rfl) (sq_X8_in (v := l5) (lo := 0) (hi := 9) rfl (by decide) (by decide) ?_)
                refine r_if_ne (pc := 93) (tgt := 99) dX8_ask_93 (by decide) (fun q => ?_) (fun q => ?_)
                · have q := b2i_nz q
                  have K0 := K0.1 q
                  refine r_aload_n (pc := 99) dX8_ask_99 rfl ?_
                  refine s_getR (pc := 100) dX8_ask_100 fl_X8_9 rfl k_b0 g_b0_1 ?_
                  refine r_iconst (pc := 103) (v := 3) dX8_ask_103 (by decide) ?_
                  obtain ⟨i_11, K0⟩ := K0
                  refine s_iald (pc := 104) dX8_ask_104 k_b0_1 i_11 ?_
                  refine r_bipush (pc := 105) (v := 24) dX8_ask_105 (by decide) ?_
                  refine r_icmp_ne (pc := 107) (tgt := 113) dX8_ask_107 (by decide) (fun q => ?_) (fun q => ?_)
                  · have K0 := K0.1 q
                    refine r_aload_n (pc := 113) dX8_ask_113 rfl ?_
                    refine s_VV (pc := 114) mX8_keeps (ci := 8) (a := b0) (As := []) dX8_ask_114 lk_X8_366 in_X8_keeps mo_X8_keeps ⟨by decide, rfl⟩ ⟨by decide, by decide⟩ (Nat.le_of_ble_eq_true rfl) k_b0 (mSV_mono K0 (fun y_13 K0 => ?_))
                    refine r_aload_n (pc := 117) dX8_ask_117 rfl ?_
                    obtain ⟨c_14, g_15, K0⟩ := K0
                    refine s_getR (pc := 118) dX8_ask_118 fl_X8_27 rfl k_b0 g_15 ?_
                    refine r_iconst (pc := 121) (v := 0) dX8_ask_121 (by decide) ?_
                    refine r_iload_n (pc := 122) dX8_ask_122 rfl ?_
                    obtain ⟨n_17, e_16, K0⟩ := K0
                    obtain ⟨i_18, K0⟩ := K0
                    refine s_iast (pc := 123) dX8_ask_123 e_16 i_18 ?_
                    refine r_aload_n (pc := 124) dX8_ask_124 rfl ?_
                    refine s_getR (pc := 125) dX8_ask_125 fl_X8_27 rfl k_b0 g_15 ?_
                    refine r_iconst (pc := 128) (v := 1) dX8_ask_128 (by decide) ?_
                    refine r_iload_n (pc := 129) dX8_ask_129 rfl ?_
                    refine r_sipush (pc := 130) (v := 1000) dX8_ask_130 (by decide) ?_
                    refine r_idiv (pc := 133) dX8_ask_133 (by decide) ?_
                    obtain ⟨i_19, K0⟩ := K0
                    refine s_iast (pc := 134) dX8_ask_134 e_16 i_19 ?_
                    refine r_aload_n (pc := 135) dX8_ask_135 rfl ?_
                    refine s_getR (pc := 136) dX8_ask_136 fl_X8_27 rfl k_b0 g_15 ?_
                    refine r_iconst (pc := 139) (v := 2) dX8_ask_139 (by decide) ?_
                    refine r_iload (pc := 140) dX8_ask_140 rfl ?_
                    obtain ⟨i_20, K0⟩ := K0
                    refine s_iast (pc := 142) dX8_ask_142 e_16 i_20 ?_
                    refine r_aload_n (pc := 143) dX8_ask_143 rfl ?_
                    refine s_getR (pc := 144) dX8_ask_144 fl_X8_27 rfl k_b0 g_15 ?_
                    refine r_iconst (pc := 147) (v := 3) dX8_ask_147 (by decide) ?_
                    refine r_iload_n (pc := 148) dX8_ask_148 rfl ?_
                    refine r_bipush (pc := 149) (v := 10) dX8_ask_149 (by decide) ?_
                    refine r_irem (pc := 151) dX8_ask_151 (by decide) ?_
                    obtain ⟨i_21, K0⟩ := K0
                    refine s_iast (pc := 152) dX8_ask_152 e_16 i_21 ?_
                    refine r_aload_n (pc := 153) dX8_ask_153 rfl ?_
                    refine s_getR (pc := 154) dX8_ask_154 fl_X8_27 rfl k_b0 g_15 ?_
                    refine r_iconst (pc := 157) (v := 4) dX8_ask_157 (by decide) ?_
                    refine r_iload_n (pc := 158) dX8_ask_158 rfl ?_
                    obtain ⟨i_22, K0⟩ := K0
                    refine s_iast (pc := 159) dX8_ask_159 e_16 i_22 ?_
                    refine r_aload_n (pc := 160) dX8_ask_160 rfl ?_
                    refine s_getR (pc := 161) dX8_ask_161 fl_X8_27 rfl k_b0 g_15 ?_
                    refine r_iconst (pc := 164) (v := 5) dX8_ask_164 (by decide) ?_
                    refine r_iload (pc := 165) dX8_ask_165 rfl ?_
                    obtain ⟨i_23, K0⟩ := K0
                    refine s_iast (pc := 167) dX8_ask_167 e_16 i_23 ?_
                    refine r_aload_n (pc := 168) dX8_ask_168 rfl ?_
                    refine s_getR (pc := 169) dX8_ask_169 fl_X8_27 rfl k_b0 g_15 ?_
                    refine r_bipush (pc := 172) (v := 6) dX8_ask_172 (by decide) ?_
                    refine r_iload (pc := 174) dX8_ask_174 rfl ?_
                    obtain ⟨i_24, K0⟩ := K0
                    refine s_iast (pc := 176) dX8_ask_176 e_16 i_24 ?_
                    refine r_aload_n (pc := 177) dX8_ask_177 rfl ?_
                    refine s_VV (pc := 178) mX8_addsAsk (ci := 8) (a := b0) (As := []) dX8_ask_178 lk_X8_241 in_X8_addsAsk mo_X8_addsAsk ⟨by decide, rfl⟩ ⟨by decide, by decide⟩ (Nat.le_of_ble_eq_true rfl) k_b0 (mSV_mono K0 (fun y_25 K0 => ?_))
                    refine r_aload_n (pc := 181) dX8_ask_181 rfl ?_
                    obtain ⟨g_26, K0⟩ := K0
                    refine s_getR (pc := 182) dX8_ask_182 fl_X8_9 rfl k_b0 g_26 ?_
                    refine r_iconst (pc := 185) (v := 3) dX8_ask_185 (by decide) ?_
                    refine s_iald (pc := 186) dX8_ask_186 k_b0_1 i_11 ?_
                    exact s_iret rfl dX8_ask_187 K0
                  · have K0 := K0.2 q
                    refine r_bipush (pc := 110) (v := (-5)) dX8_ask_110 (by decide) ?_
                    exact s_iret rfl dX8_ask_112 K0
                · have q := (b2i_z _).mp q
                  have K0 := K0.2 q
                  refine r_bipush (pc := 96) (v := (-2)) dX8_ask_96 (by decide) ?_
                  exact s_iret rfl dX8_ask_98 K0
        · have q := (b2i_z _).mp q
          have K0 := K0.2 q
          refine r_bipush (pc := 55) (v := (-2)) dX8_ask_55 (by decide) ?_
          exact s_iret rfl dX8_ask_57 K0
section
theorem sq_X8_ask {y : Cn} {Q : Int32 → Cn → Prop} {T : TT} {W C S A N n : Nat} {H : Nat → TT} {a b f l e : Int32} (r : RS y T n H) (F : WF T W C S A N) (k1 : ¬ okA C W a b f l e → Q (-2) y) (k2 : okA C W a b f l e → A = 24 → Q (-5) y) (k3 : okA C W a b f l e → A < 24 → ∀ z, RFr y z → RS z (askT T A (askF a b f l e)) (pn n) (push H n T) → Q (nI (A + 1)) z) : mSI mX8_ask [.ref 717, .int a, .int b, .int f, .int l, .int e] KW y Q := by
  have hW : W ≤ 30 := F.2.2.1
  have hC : C ≤ 8 := F.2.2.2.2.1
  have hA : A ≤ 24 := F.2.2.2.2.2.2.2.2.1
  have M := r.1
  refine v_X8_ask_0 km M.1 km1 ⟨v0 (k := 1) (by decide) rfl rfl, ?_⟩
  rw [r.2.1, F.2.2.2.1, F.1, inN' (by omega), inN' (by omega), inN' (by omega), F.2.2.2.2.2.2.2.1, show (24 : Int32) = nI 24 by decide, nI_eq (by omega) (by decide)]
  by_cases hok : okA C W a b f l e
  · have k2 := k2 hok
    have k3 := k3 hok
    obtain ⟨c, k, f', l', e', h1, h2, h3, h4, h5, h6, h7, h8, h9, h10, h11, h12, h13⟩ := id hok
    subst h1 h3 h7 h9 h12
    rw [ky_3 (by omega), ky_4 (by omega)]
    refine ⟨fun z => absurd ⟨nI_pos' (by omega), nI_lt h2 (by omega)⟩ z, fun _ => ⟨fun z => absurd ⟨nI_pos' (by omega), nI_le (b := 6999) h4 (by decide)⟩ z, fun _ => ⟨fun z => absurd ⟨nI_pos' (by omega), nI_le (b := 1) h5 (by decide)⟩ z, fun _ => ⟨fun _ => ⟨v0 (k := 0) (by decide) rfl rfl, fun z => absurd ⟨nI_pos' (by omega), nI_lt h8 (by omega)⟩ z, fun _ => ⟨fun z => absurd ⟨nI_pos' (by omega), nI_lt h10 (by omega)⟩ z, fun _ => ⟨fun z => absurd z ?_, fun _ => ⟨fun _ => ⟨v0 (k := 3) (by decide) rfl rfl, fun z => ?_, fun z => k2 hok z⟩, fun z => absurd ⟨nI_pos' (by omega), nI_le (b := 9) h13 (by decide)⟩ z⟩⟩⟩⟩, fun z => absurd ⟨nI_pos' (by omega), nI_le (b := 23) h6 (by decide)⟩ z⟩⟩⟩⟩
    · rw [show nI f' + 4 = nI (f' + 4) from nI_add f' 4]
      exact nI_nlt h11 (by omega)
    · refine r.keeps (fun z f1 r1 => ⟨721, r1.1.2.2.2.2.1, 7, by decide, v0 (k := 0) (by decide) rfl rfl, v0 (k := 1) (by decide) rfl rfl, v0 (k := 2) (by decide) rfl rfl, v0 (k := 3) (by decide) rfl rfl, v0 (k := 4) (by decide) rfl rfl, v0 (k := 5) (by decide) rfl rfl, v0 (k := 6) (by decide) rfl rfl, ?_⟩)
      refine sp_X8_addsAsk (t := 718) (A := A) (f := askF (nI c) (nI k) (nI f') (nI l') (nI e')) (r1.1.keep rfl) km1 (by decide) ?_ (by omega) (fun j hj => ?_) (fun v v1 v2 v3 => ⟨(r1.1.keep v1).1, ?_⟩)
      · simp only [gi_ui, show ¬ (718 : Nat) = 721 by decide, false_and, if_false]
        rw [r1.2.1]; exact F.2.2.2.2.2.2.2.1
      · have e4 := ky_4 (k := k) (by omega)
        have e3 := ky_3 (k := k) (by omega)
        rcases lt7 hj with rfl | rfl | rfl | rfl | rfl | rfl | rfl <;> simp [gi_ui, askF, e3, e4]
      · have ez : gi (ui (ui (ui (ui (ui (ui (ui z 721 0 (nI c)) 721 1 (nI k / 1000)) 721 2 (nI (k / 10 % 100))) 721 3 (nI (k % 10))) 721 4 (nI f')) 721 5 (nI l')) 721 6 (nI e')) 718 = T := by
          rw [← r1.2.1]
          funext i
          simp only [gi_ui, show ¬ (718 : Nat) = 721 by decide, false_and, if_false]
        rw [ez] at v3
        obtain ⟨r2, f2⟩ := r1.mv (T' := askT T A (askF (nI c) (nI k) (nI f') (nI l') (nI e'))) v1 (fun b j b1 b2 b3 b4 b5 b6 => by rw [v2 b j b1]; simp only [gi_ui, b3, false_and, if_false]) v3
        rw [v3, show askT T A (askF (nI c) (nI k) (nI f') (nI l') (nI e')) 3 = nI (A + 1) from if_pos rfl]
        exact k3 (by omega) v (f1.tr f2) r2
  · refine ⟨fun _ => k1 hok, fun z1 => ⟨fun _ => k1 hok, fun z2 => ⟨fun _ => k1 hok, fun z3 => ⟨fun z4 => ⟨v0 (k := 0) (by decide) rfl rfl, fun _ => k1 hok, fun z5 => ⟨fun _ => k1 hok, fun z6 => ⟨fun _ => k1 hok, fun z7 => ⟨fun z8 => absurd ?_ hok, fun _ => k1 hok⟩⟩⟩⟩, fun _ => k1 hok⟩⟩⟩⟩
    obtain ⟨c, hc, rfl⟩ := inN (by omega) z1
    obtain ⟨k, hk, rfl⟩ := nI_of2 (M := 6999) (n := 6999) (by decide) (Int32.not_lt.mpr z2.1) z2.2
    obtain ⟨f', hf, rfl⟩ := inN (by omega) z5
    obtain ⟨l', hl, rfl⟩ := inN (by omega) z6
    obtain ⟨e', he, rfl⟩ := nI_of2 (M := 9) (n := 9) (by decide) (Int32.not_lt.mpr z8.1) z8.2
    rw [ky_3 (by omega)] at z3
    rw [ky_4 (by omega)] at z4
    rw [show nI f' + 4 = nI (f' + 4) from nI_add f' 4, nI_ltI (by omega) (by omega)] at z7
    exact ⟨c, k, f', l', e', rfl, hc, rfl, hk, (nI_leI (b := 1) (by omega) (by decide)).mp z3.2, (nI_leI (b := 23) (by omega) (by decide)).mp z4.2, rfl, hf, rfl, hl, by omega, rfl, he⟩
end
theorem eq_ask (a b f l e : Int32) : Both mX7_ask mX8_ask [.int a, .int b, .int f, .int l, .int e] := by
  intro x R
  obtain ⟨W, C, S, A, N, n, H, ac, rs, nm⟩ := R.ac
  have E := ac.2.2.2.2
  have hn := E.nums
  have hW : W ≤ 30 := hn.2.2.2.2.1
  have hC : C ≤ 8 := hn.2.2.2.2.2.1
  have hA : A ≤ 24 := hn.2.2.2.2.2.2.2.1
  refine v_X7_ask_0 k0 R.1.2.2.1 (by decide) R.1.2.1 (ks0 E.1) ?_
  rw [nm.1, hn.1, hn.2.2.2.1, show (24 : Int32) = nI 24 by decide, nI_ltI (a := A) (by omega) (by decide)]
  by_cases hok : okA C W a b f l e
  · obtain ⟨c, k, f', l', e', h1, h2, h3, h4, h5, h6, h7, h8, h9, h10, h11, h12, h13⟩ := id hok
    subst h1 h3 h7 h9 h12
    have hW0 : 0 < nI W := nI_lt (a := 0) (E.cw (by omega)) (by omega)
    have hway : nI (k % 10) = 0 ∨ nI (k % 10) = 1 := by
      have : k % 10 = 0 ∨ k % 10 = 1 := by omega
      rcases this with g | g
      · rw [g]; exact Or.inl rfl
      · rw [g]; exact Or.inr rfl
    rw [ky_3 (by omega), ky_2 (by omega), ky_1 (by omega)]
    refine ⟨fun z => absurd ⟨nI_pos' (by omega), nI_lt h2 (by omega)⟩ z, fun _ => ⟨fun z => absurd z (nI_pos (by omega)), fun _ => ⟨fun z => absurd ⟨hW0, nI_pos' (by omega), nI_lt (b := 7) (by omega) (by decide)⟩ z, fun _ => ⟨fun z => absurd ⟨hW0, nI_pos' (by omega), nI_lt (b := 24) (by omega) (by decide)⟩ z, fun _ => ⟨fun _ => ⟨fun z => absurd ⟨nI_pos' (by omega), nI_lt h8 (by omega)⟩ z, fun _ => ⟨fun z => absurd ⟨nI_pos' (by omega), nI_lt h10 (by omega)⟩ z, fun _ => ⟨fun z => absurd z ?_, fun _ => ⟨fun _ => ⟨fun z => ?_, fun z => ?_⟩, fun z => absurd ⟨nI_pos' (by omega), nI_le (b := 9) h13 (by decide)⟩ z⟩⟩⟩⟩, fun z => absurd hway z⟩⟩⟩⟩⟩
    · rw [pk_sub (by omega), nI_1]
      exact nI_nlt (b := 5) (by omega) (by omega)
    · refine ac.rem (fun _ _ => rfl) (fun y ay y1 y2 => ⟨ay.2.1.2.1, ?_⟩)
      have Ey := ay.2.2.2.2
      obtain ⟨j, hj, ej⟩ := Ey.2.1.2.2.2.2.2.2.2.1 A (by omega)
      have eA : gi y 2 4 = nI A := Ey.nums.2.2.2.1
      have mi : (if (23 : Int32) < nI A then 23 else nI A) = nI A := if_neg (fun g => absurd ((nI_ltI (a := 23) (b := A) (by decide) (by omega)).mp g) (by omega))
      refine v_X4_addAsk_0 (ks0 E.1) Ey.2.1.2.2.2.1 (ks4 E.1) ?_
      rw [eA, mi, nI_clamp (by omega), nI_1]
      refine ⟨vp_in_nI (by omega) (by decide), 2 + 30 + j, ej, ks30 E.1 hj, v_X0_placeAt_0 (ks30 E.1 hj) (v_X0_span_0 (ks30 E.1 hj) ⟨ay.2.1.2.1, ?_⟩)⟩
      have a2 : AC x (ui (ui (ui (ui (ui (ui (ui (ui y 2 4 (nI (A + 1))) (2 + 30 + j) 0 (nI c)) (2 + 30 + j) 1 (nI (k / 1000))) (2 + 30 + j) 2 (nI (k / 10 % 100))) (2 + 30 + j) 3 (nI (k % 10))) (2 + 30 + j) 4 (nI f')) (2 + 30 + j) 5 (nI l')) (2 + 30 + j) 6 (nI e')) W C S (A + 1) N (pn n) (askT (gi x 718) A (askF (nI c) (nI k) (nI f') (nI l') (nI e'))) (push H n (gi x 718)) := by
        have off : ∀ b i, b ≠ 2 + 30 + j → ¬ (b = 2 ∧ i = 4) → gi (ui (ui (ui (ui (ui (ui (ui (ui y 2 4 (nI (A + 1))) (2 + 30 + j) 0 (nI c)) (2 + 30 + j) 1 (nI (k / 1000))) (2 + 30 + j) 2 (nI (k / 10 % 100))) (2 + 30 + j) 3 (nI (k % 10))) (2 + 30 + j) 4 (nI f')) (2 + 30 + j) 5 (nI l')) (2 + 30 + j) 6 (nI e')) b i = gi y b i := fun b i b1 b2 => by
          simp only [gi_ui, b1, false_and, if_false]
          rw [if_neg b2]
        refine ay.up (fun b i hb => off b i (by omega) (by omega)) rfl (Ey.addA (p := 2 + 30 + j) (by omega) ej rfl (fun b i b1 b2 b3 b4 b5 => off b i b3 b4) ?_ (fun i hi => ?_) (fun i _ h3 h4 => askT_off h3 h4) (if_pos rfl) hok.was)
        · simp [gi_ui, show ¬ (2 : Nat) = 2 + 30 + j by omega]
        · rw [ao_askT hi]
          have e4 := ky_4 (k := k) (by omega)
          have e3 := ky_3 (k := k) (by omega)
          have e1 := ky_1 (k := k) (by omega)
          rcases lt7 hi with rfl | rfl | rfl | rfl | rfl | rfl | rfl <;> simp [gi_ui, askF, e3, e4, e1]
      have r4 : gi (ui (ui (ui (ui (ui (ui (ui (ui y 2 4 (nI (A + 1))) (2 + 30 + j) 0 (nI c)) (2 + 30 + j) 1 (nI (k / 1000))) (2 + 30 + j) 2 (nI (k / 10 % 100))) (2 + 30 + j) 3 (nI (k % 10))) (2 + 30 + j) 4 (nI f')) (2 + 30 + j) 5 (nI l')) (2 + 30 + j) 6 (nI e')) 2 4 = nI (A + 1) := a2.2.2.2.2.nums.2.2.2.1
      rw [r4]
      exact sq_X8_ask (a2.rs rs) E.2.2.2 (fun u => absurd hok u) (fun _ u => by omega) (fun _ _ v f2 r2 => ⟨rfl, a2.fin R nm (fun c hc => askT_off (by omega) (by omega)) f2 r2⟩)
    · exact sq_X8_ask rs E.2.2.2 (fun u => absurd hok u) (fun _ _ => ⟨rfl, R⟩) (fun _ u => absurd u z)
  · have no : mSI mX8_ask [.ref 717, .int a, .int b, .int f, .int l, .int e] KW x (fun r' z => -2 = r' ∧ Rel z) := sq_X8_ask rs E.2.2.2 (fun _ => ⟨rfl, R⟩) (fun u => absurd u hok) (fun u => absurd u hok)
    refine ⟨fun _ => no, fun z1 => ⟨fun _ => no, fun z2 => ⟨fun _ => no, fun z3 => ⟨fun _ => no, fun z4 => ⟨fun z5 => ⟨fun _ => no, fun z6 => ⟨fun _ => no, fun z7 => ⟨fun _ => no, fun z8 => ⟨fun z9 => absurd ?_ hok, fun _ => no⟩⟩⟩⟩, fun _ => no⟩⟩⟩⟩⟩
    obtain ⟨c, hc, rfl⟩ := inN (by omega) z1
    obtain ⟨k, hk, rfl⟩ := nI_of z2
    obtain ⟨f', hf, rfl⟩ := inN (by omega) z6
    obtain ⟨l', hl, rfl⟩ := inN (by omega) z7
    obtain ⟨e', he, rfl⟩ := nI_of2 (M := 9) (n := 9) (by decide) (Int32.not_lt.mpr z9.1) z9.2
    rw [ky_1 hk] at z3
    rw [ky_2 hk] at z4
    rw [ky_3 hk] at z5
    have g3 := (nI_ltI (b := 7) (by omega) (by decide)).mp z3.2.2
    have g4 := (nI_ltI (b := 24) (by omega) (by decide)).mp z4.2.2
    have g5 : k % 10 ≤ 1 := by
      rcases z5 with g | g
      · have := (nI_eq (b := 0) (by omega) (by decide)).mp g; omega
      · have := (nI_eq (b := 1) (by omega) (by decide)).mp g; omega
    have g8 : f' + 4 ≤ l' := by
      by_cases c9 : f' + 4 ≤ l'
      · exact c9
      · refine absurd ?_ z8
        by_cases cf : f' ≤ l'
        · rw [pk_sub cf, nI_1]
          exact nI_lt (b := 5) (by omega) (by decide)
        · have hneg : (nI l' - nI f' + 1).toInt = (l' : Int) - f' + 1 := by
            have h1 := pk_sub_toInt (a := l') (b := f') (by omega) (by omega)
            have e : nI l' - nI f' + 1 = nI (l' + 1) - nI f' := by
              rw [← nI_1]
              simp only [Int32.sub_eq_add_neg]
              rw [Int32.add_assoc, Int32.add_comm (-nI f') 1, ← Int32.add_assoc]
            rw [e, pk_sub_toInt (by omega) (by omega)]
            omega
          rw [Int32.lt_iff_toInt_lt, hneg, show (5 : Int32).toInt = 5 by decide]
          omega
    exact ⟨c, k, f', l', e', rfl, hc, rfl, by omega, g5, by omega, rfl, hf, rfl, hl, g8, rfl, he⟩


theorem AC.pc {x y z : Cn} {W C S A N n : Nat} {T : TT} {H : Nat → TT} (a : AC x y W C S A N n T H) (f : PCr y z) : AC x z W C S A N n T H :=
  ⟨fun b k b1 b2 b3 b4 => (f.2 b k (by omega)).trans (a.1 b k b1 b2 b3 b4), a.2.1.keep f.1, a.2.2.1.keep f.1, a.2.2.2.1.mv a.2.1 (f.2 0 5 (by omega)) (fun b k g1 g2 => f.2 b k (by omega)) (fun b k _ => by unfold gr; rw [f.1]) (fun _ _ => rfl), a.2.2.2.2.keep f.1 (fun b k g1 g2 _ => f.2 b k (by omega))⟩
theorem AC.rem2 {x y : Cn} {Q : Cn → Prop} {W C S A N n : Nat} {T : TT} {H : Nat → TT} (a : AC x y W C S A N n T H) (hT : ∀ c, c < C → T (54 + c) = gi x 718 (54 + c)) (k : ∀ z, AC x z W C S A N (pn n) T (push H n T) → (∀ b j, ¬ (177 ≤ b ∧ b < 717) → ¬ (b = 0 ∧ j = 5) → gi z b j = gi y b j) → (∀ b j, b ≠ 58 → gr z b j = gr y b j) → Q z) : mSV mX7_remember [.ref 0] KW y Q := by
  obtain ⟨a1, a2, a3, a4, a5⟩ := a
  have a4' : Hs y C T n H := ⟨a4.1, a4.2.1, fun j hj => by
    obtain ⟨q, W2, S2, A2, N2, q1, q2, q3⟩ := a4.2.2 j hj
    exact ⟨q, W2, S2, A2, N2, q1, q2, fun c hc => (q3 c hc).trans (hT c hc).symm⟩⟩
  refine sp_X7_remember a2 a5 a4' (fun z z1 z2 z3 z4 => k z ⟨fun b j b1 b2 b3 b4 => (z2 b j b3 b4).trans (a1 b j b1 b2 b3 b4), z1, ?_, ?_, a5.mv (fun b j g1 g2 => z3 b j (by omega)) (fun b j g1 g2 _ => z2 b j (by omega) (by omega)) (fun _ _ => rfl)⟩ z2 z3)
  · unfold MRf at a3 ⊢
    simp only [z3 717 _ (by decide)]
    exact a3
  · exact ⟨z4.1, z4.2.1, fun j hj => by
      obtain ⟨q, W2, S2, A2, N2, q1, q2, q3⟩ := z4.2.2 j hj
      exact ⟨q, W2, S2, A2, N2, q1, q2, fun c hc => (q3 c hc).trans (hT c hc)⟩⟩
theorem RS.pf {x y : Cn} {n : Nat} {T : TT} {H : Nat → TT} (r : RS x T n H) (f : PFr x y) : RS y T n H :=
  ⟨r.1.keep f.1, (funext (fun i => f.2 718 i (by decide) (by decide) (by decide) (by decide) (by omega))).trans r.2.1, (f.2 717 19 (by decide) (by decide) (by decide) (by decide) (by omega)).trans r.2.2.1, r.2.2.2.1, fun j hj i hi => (f.2 724 _ (by decide) (by decide) (by decide) (by decide) (by omega)).trans (r.2.2.2.2 j hj i hi)⟩
theorem PFr.rfr {x y : Cn} (f : PFr x y) : RFr x y := ⟨f.1, fun a k _ a2 a3 a4 a5 _ a7 => f.2 a k a2 a3 a4 a5 (fun u => a7 (by omega))⟩
theorem RS.keeps2 {x : Cn} {Q : Cn → Prop} {n : Nat} {T : TT} {H : Nat → TT} (r : RS x T n H) (k : ∀ y, RFr x y → (∀ a j, a ≠ 724 → ¬ (a = 717 ∧ j = 19) → gi y a j = gi x a j) → RS y T (pn n) (push H n T) → Q y) : mSV mX8_keeps [.ref 717] KW x Q := by
  refine sp_X8_keeps r.1 r.2.2.2.1 r.2.2.1 (fun y f1 f2 f3 f4 => k y f1 f2 ⟨r.1.keep f1.1, (funext (fun i => f2 718 i (by decide) (by omega))).trans r.2.1, f3, by unfold pn; split <;> have := r.2.2.2.1 <;> omega, fun j hj i hi => ?_⟩)
  rw [f4 j hj i hi, r.2.1]
  have hn := r.2.2.2.1
  have h2 := r.2.2.2.2
  unfold push pn at *
  by_cases c : n = 10
  · rw [if_pos c] at hj ⊢
    rw [if_pos c]
    by_cases c9 : j = 9
    · rw [if_pos c9, if_pos c9]
    · rw [if_neg c9, if_neg c9]; exact h2 (j + 1) (by omega) i hi
  · rw [if_neg c] at hj ⊢
    rw [if_neg c]
    by_cases c9 : j = n
    · rw [if_pos c9, if_pos c9]
    · rw [if_neg c9, if_neg c9]; exact h2 j (by omega) i hi
/-- the asks that were granted go, from the last on -/
def dpF (hr : TT) : Nat → TT × Nat → TT × Nat
  | 0, t => t
  | m + 1, t => dpF hr m (if hr m = -1 then t else (drT t.1 m t.2, t.2 - 1))
theorem dp_skip {hr : TT} {A : Nat} (h : ∀ a, A ≤ a → hr a = -1) : ∀ m, A ≤ m → ∀ t, dpF hr m t = dpF hr A t := by
  intro m
  induction m with
  | zero => intro hA t; rw [show A = 0 by omega]
  | succ m ih =>
    intro hA t
    by_cases c : A = m + 1
    · rw [c]
    · show dpF hr m (if hr m = -1 then t else (drT t.1 m t.2, t.2 - 1)) = _
      rw [if_pos (h m (by omega))]
      exact ih (by omega) t
theorem dp_off {hr : TT} : ∀ m t i, i < 350 → i ≠ 3 → (dpF hr m t).1 i = t.1 i := by
  intro m
  induction m with
  | zero => intro t i _ _; rfl
  | succ m ih =>
    intro t i hi h3
    show (dpF hr m (if hr m = -1 then t else (drT t.1 m t.2, t.2 - 1))).1 i = t.1 i
    rw [ih _ i hi h3]
    by_cases c : hr m = -1
    · rw [if_pos c]
    · rw [if_neg c]; exact drT_off h3 hi
set_option maxHeartbeats 2000000 in
theorem v_X2_carryOver_0 {K : Sh} {x : Cn} {Q : Cn → Prop} {b0 : Nat} {b1 : Nat} {b0_0 : Nat} (k_b0 : kk K b0 = some (2, 0)) (g_b0_0 : gr x b0 0 = some b0_0) (k_b1 : kk K b1 = some (4, 0)) (k_b0_0 : kk K b0_0 = some (4, 0)) (K0 : mSV mX4_copyFrom [.ref b1, .ref b0_0] K x (fun y_1 => gr y_1 b0 0 = some b0_0 ∧ (GV mX2_carryOver 18 [some (.ref b0), some (.ref b1), some (.int ((gi y_1 b0_0 4) - 1))] [] K y_1 Q))) : mSV mX2_carryOver [.ref b0, .ref b1] K x Q := by
  refine s_V (by decide) (by simp [Value.category]) (Nat.le_of_ble_eq_true rfl) ?_
  show mGM mX2_carryOver 0 [some (.ref b0), some (.ref b1), none] [] (hp K x) (PV K Q)
  refine r_aload_n (pc := 0) dX2_carryOver_0 rfl ?_
  refine r_aload_n (pc := 1) dX2_carryOver_1 rfl ?_
  refine s_getR (pc := 2) dX2_carryOver_2 fl_X2_12 rfl k_b0 g_b0_0 ?_
  refine s_VV (pc := 5) mX4_copyFrom (ci := 4) (a := b1) (As := [.ref b0_0]) dX2_carryOver_5 lk_X2_32 in_X4_copyFrom mo_X4_copyFrom ⟨by decide, rfl⟩ ⟨by decide, by decide⟩ (Nat.le_of_ble_eq_true rfl) k_b1 (mSV_mono K0 (fun y_1 K0 => ?_))
  refine r_aload_n (pc := 8) dX2_carryOver_8 rfl ?_
  obtain ⟨g_2, K0⟩ := K0
  refine s_getR (pc := 9) dX2_carryOver_9 fl_X2_12 rfl k_b0 g_2 ?_
  refine s_getI (pc := 12) dX2_carryOver_12 fl_X2_53 rfl k_b0_0 ?_
  refine r_iconst (pc := 15) (v := 1) dX2_carryOver_15 (by decide) ?_
  refine r_isub (pc := 16) dX2_carryOver_16 ?_
  refine r_istore_n (pc := 17) dX2_carryOver_17 (by decide) ?_
  exact r_le (L' := [some (.ref b0), some (.ref b1), some (.int ((gi y_1 b0_0 4) - 1))]) ⟨rfl, ⟨rfl, ⟨rfl, trivial⟩⟩⟩ K0
set_option maxHeartbeats 2000000 in
theorem v_X2_carryOver_18 {K : Sh} {x : Cn} {Q : Cn → Prop} {b0 : Nat} {b1 : Nat} {l2 : Int32} {b0_3 : Nat} {n_b0_3 : Nat} (k_b0 : kk K b0 = some (2, 0)) (g_b0_3 : gr x b0 3 = some b0_3) (k_b0_3 : kk K b0_3 = some (20, n_b0_3)) (k_b1 : kk K b1 = some (4, 0)) (K0 : (l2 < 0 → (Q x)) ∧ (¬ l2 < 0 → (vp_in l2 n_b0_3 ∧ (((gi x b0_3 (l2 : Int32).toNatClampNeg) = (-1) → (GV mX2_carryOver 18 [some (.ref b0), some (.ref b1), some (.int (l2 + (-1)))] [] K x Q)) ∧ (¬ (gi x b0_3 (l2 : Int32).toNatClampNeg) = (-1) → (mSV mX4_removeAsk [.ref b1, .int l2] K x (fun y_4 => GV mX2_carryOver 18 [some (.ref b0), some (.ref b1), some (.int (l2 + (-1)))] [] K y_4 Q))))))) : GV mX2_carryOver 18 [some (.ref b0), some (.ref b1), some (.int l2)] [] K x Q := by
  show mGM mX2_carryOver 18 [some (.ref b0), some (.ref b1), some (.int l2)] [] (hp K x) (PV K Q)
  refine r_iload_n (pc := 18) dX2_carryOver_18 rfl ?_
  refine r_if_lt (pc := 19) (tgt := 43) dX2_carryOver_19 (by decide) (fun q => ?_) (fun q => ?_)
  · have K0 := K0.1 q
    exact s_ret rfl dX2_carryOver_43 K0
  · have K0 := K0.2 q
    refine r_aload_n (pc := 22) dX2_carryOver_22 rfl ?_
    refine s_getR (pc := 23) dX2_carryOver_23 fl_X2_25 rfl k_b0 g_b0_3 ?_
    refine r_iload_n (pc := 26) dX2_carryOver_26 rfl ?_
    obtain ⟨i_2, K0⟩ := K0
    refine s_iald (pc := 27) dX2_carryOver_27 k_b0_3 i_2 ?_
    refine r_iconst (pc := 28) (v := (-1)) dX2_carryOver_28 (by decide) ?_
    refine r_icmp_eq (pc := 29) (tgt := 37) dX2_carryOver_29 (by decide) (fun q => ?_) (fun q => ?_)
    · have K0 := K0.1 q
      refine r_iinc (pc := 37) (v := l2 + (-1)) dX2_carryOver_37 rfl rfl (by decide) ?_
      refine r_goto (pc := 40) (L := [some (.ref b0), some (.ref b1), some (.int (l2 + (-1)))]) (tgt := 18) dX2_carryOver_40 (by decide) ?_
      exact r_le (L' := [some (.ref b0), some (.ref b1), some (.int (l2 + (-1)))]) ⟨rfl, ⟨rfl, ⟨rfl, trivial⟩⟩⟩ K0
    · have K0 := K0.2 q
      refine r_aload_n (pc := 32) dX2_carryOver_32 rfl ?_
      refine r_iload_n (pc := 33) dX2_carryOver_33 rfl ?_
      refine s_VV (pc := 34) mX4_removeAsk (ci := 4) (a := b1) (As := [.int l2]) dX2_carryOver_34 lk_X2_60 in_X4_removeAsk mo_X4_removeAsk ⟨by decide, rfl⟩ ⟨by decide, by decide⟩ (Nat.le_of_ble_eq_true rfl) k_b1 (mSV_mono K0 (fun y_4 K0 => ?_))
      refine r_iinc (pc := 37) (v := l2 + (-1)) dX2_carryOver_37 rfl rfl (by decide) ?_
      refine r_goto (pc := 40) (L := [some (.ref b0), some (.ref b1), some (.int (l2 + (-1)))]) (tgt := 18) dX2_carryOver_40 (by decide) ?_
      exact r_le (L' := [some (.ref b0), some (.ref b1), some (.int (l2 + (-1)))]) ⟨rfl, ⟨rfl, ⟨rfl, trivial⟩⟩⟩ K0
section
theorem sp_X2_carryOver_lp {x : Cn} {Q : Cn → Prop} {hr : TT} {W C S N n : Nat} {H : Nat → TT} : ∀ m (t : TT × Nat) v, m ≤ 24 → (∀ a, a < m → ¬ hr a = -1 → a < t.2) → AC x v W C S t.2 N n t.1 H → PLf v → (∀ a, a < m → gi v 174 a = hr a) → (∀ w, AC x w W C S (dpF hr m t).2 N n (dpF hr m t).1 H → (∀ a j, ¬ (2 ≤ a ∧ a < 56) → gi w a j = gi v a j) → (∀ a j, ¬ (2 ≤ a ∧ a < 56) → gr w a j = gr v a j) → Q w) → GV mX2_carryOver 18 [some (.ref 117), some (.ref 2), some (.int (nI m - 1))] [] KW v Q := by
  intro m
  induction m with
  | zero =>
    intro t v hm h1 av P h2 k
    exact v_X2_carryOver_18 k117 P.2.2.2 k174 (ks0 av.2.2.2.2.1) ⟨fun _ => k v av (fun _ _ _ => rfl) (fun _ _ _ => rfl), fun z => absurd (by decide) z⟩
  | succ m ih =>
    intro t v hm h1 av P h2 k
    have em : nI (m + 1) - 1 = nI m := pk_sub (b := 1) (by omega)
    have em2 : nI m + (-1) = nI m - 1 := (Int32.sub_eq_add_neg _ _).symm
    rw [em]
    refine v_X2_carryOver_18 k117 P.2.2.2 k174 (ks0 av.2.2.2.2.1) ⟨fun z => absurd z (nI_pos (by omega)), fun _ => ⟨vp_in_nI (by omega) (by decide), ?_⟩⟩
    rw [nI_clamp (by omega), h2 m (by omega), em2]
    refine ⟨fun z => ?_, fun z => ?_⟩
    · have e : dpF hr (m + 1) t = dpF hr m t := by
        show dpF hr m (if hr m = -1 then t else (drT t.1 m t.2, t.2 - 1)) = _
        rw [if_pos z]
      rw [e] at k
      exact ih t v (by omega) (fun a ha => h1 a (by omega)) av P (fun a ha => h2 a (by omega)) k
    · have e : dpF hr (m + 1) t = dpF hr m (drT t.1 m t.2, t.2 - 1) := by
        show dpF hr m (if hr m = -1 then t else (drT t.1 m t.2, t.2 - 1)) = _
        rw [if_neg z]
      rw [e] at k
      have hlt := h1 m (by omega) z
      refine sp_X4_removeAsk av.2.2.2.2 hlt (fun w w1 w2 w3 w4 => ?_)
      have aw : AC x w W C S (t.2 - 1) N n (drT t.1 m t.2) H := av.up2 (fun d i hd => w1 d i (by omega)) (fun d i hd => w3 d i (by omega)) (av.2.2.2.2.drop hlt w1 w2 w3 w4)
      have Pw : PLf w := ⟨(w3 117 0 (by decide)).trans P.1, (w3 117 1 (by decide)).trans P.2.1, (w3 117 2 (by decide)).trans P.2.2.1, (w3 117 3 (by decide)).trans P.2.2.2⟩
      exact ih (drT t.1 m t.2, t.2 - 1) w (by omega) (fun a ha _ => show a < t.2 - 1 by omega) aw Pw (fun a ha => by rw [w1 174 a (by omega)]; exact h2 a (by omega)) (fun u au u1 u2 => k u au (fun a j ha => (u1 a j ha).trans (w1 a j (by omega))) (fun a j ha => (u2 a j ha).trans (w3 a j (by omega))))
end
set_option maxHeartbeats 2000000 in
theorem v_X7_pool_0 {K : Sh} {x : Cn} {Q : Int32 → Cn → Prop} {b0 : Nat} {b0_2 : Nat} {b0_9 : Nat} (k_b0 : kk K b0 = some (7, 0)) (g_b0_2 : gr x b0 2 = some b0_2) (k_b0_2 : kk K b0_2 = some (4, 0)) (g_b0_9 : gr x b0 9 = some b0_9) (k_b0_9 : kk K b0_9 = some (2, 0)) (K0 : ((0 < gi x b0_2 0) → (mSV mX2_serve [.ref b0_9, .ref b0_2, .int (-1)] K x (fun y_2 => gr y_2 b0 9 = some b0_9 ∧ (((gi y_2 b0_9 4) ≤ 0 → (Q (gi y_2 b0_9 4) y_2)) ∧ (¬ (gi y_2 b0_9 4) ≤ 0 → (mSV mX7_remember [.ref b0] K y_2 (fun y_5 => gr y_5 b0 9 = some b0_9 ∧ (gr y_5 b0 2 = some b0_2 ∧ (mSV mX2_carryOver [.ref b0_9, .ref b0_2] K y_5 (fun y_8 => gr y_8 b0 9 = some b0_9 ∧ (Q (gi y_8 b0_9 4) y_8))))))))))) ∧ (¬ (0 < gi x b0_2 0) → (Q (-2) x))) : mSI mX7_pool [.ref b0] K x Q := by
  refine s_I (by decide) (by simp [Value.category]) (Nat.le_of_ble_eq_true rfl) ?_
  show mGM mX7_pool 0 [some (.ref b0)] [] (hp K x) (PI K Q)
  refine r_aload_n (pc := 0) dX7_pool_0 rfl ?_
  refine s_VI (pc := 1) mX7_hasText (ci := 7) (a := b0) (As := []) dX7_pool_1 lk_X7_121 in_X7_hasText mo_X7_hasText ⟨by decide, rfl⟩ ⟨by decide, by decide⟩ (Nat.le_of_ble_eq_true rfl) k_b0 (sp_X7_hasText k_b0 g_b0_2 k_b0_2 ?_)
  refine r_if_ne (pc := 4) (tgt := 10) dX7_pool_4 (by decide) (fun q => ?_) (fun q => ?_)
  · have q := b2i_nz q
    have K0 := K0.1 q
    refine r_aload_n (pc := 10) dX7_pool_10 rfl ?_
    refine s_getR (pc := 11) dX7_pool_11 fl_X7_54 rfl k_b0 g_b0_9 ?_
    refine r_aload_n (pc := 14) dX7_pool_14 rfl ?_
    refine s_getR (pc := 15) dX7_pool_15 fl_X7_20 rfl k_b0 g_b0_2 ?_
    refine r_iconst (pc := 18) (v := (-1)) dX7_pool_18 (by decide) ?_
    refine s_VV (pc := 19) mX2_serve (ci := 2) (a := b0_9) (As := [.ref b0_2, .int (-1)]) dX7_pool_19 lk_X7_314 in_X2_serve mo_X2_serve ⟨by decide, rfl⟩ ⟨by decide, by decide⟩ (Nat.le_of_ble_eq_true rfl) k_b0_9 (mSV_mono K0 (fun y_2 K0 => ?_))
    refine r_aload_n (pc := 22) dX7_pool_22 rfl ?_
    obtain ⟨g_3, K0⟩ := K0
    refine s_getR (pc := 23) dX7_pool_23 fl_X7_54 rfl k_b0 g_3 ?_
    refine s_getI (pc := 26) dX7_pool_26 fl_X7_318 rfl k_b0_9 ?_
    refine r_if_le (pc := 29) (tgt := 47) dX7_pool_29 (by decide) (fun q => ?_) (fun q => ?_)
    · have K0 := K0.1 q
      refine r_aload_n (pc := 47) dX7_pool_47 rfl ?_
      refine s_getR (pc := 48) dX7_pool_48 fl_X7_54 rfl k_b0 g_3 ?_
      refine s_getI (pc := 51) dX7_pool_51 fl_X7_318 rfl k_b0_9 ?_
      exact s_iret rfl dX7_pool_54 K0
    · have K0 := K0.2 q
      refine r_aload_n (pc := 32) dX7_pool_32 rfl ?_
      refine s_VV (pc := 33) mX7_remember (ci := 7) (a := b0) (As := []) dX7_pool_33 lk_X7_333 in_X7_remember mo_X7_remember ⟨by decide, rfl⟩ ⟨by decide, by decide⟩ (Nat.le_of_ble_eq_true rfl) k_b0 (mSV_mono K0 (fun y_5 K0 => ?_))
      refine r_aload_n (pc := 36) dX7_pool_36 rfl ?_
      obtain ⟨g_6, K0⟩ := K0
      refine s_getR (pc := 37) dX7_pool_37 fl_X7_54 rfl k_b0 g_6 ?_
      refine r_aload_n (pc := 40) dX7_pool_40 rfl ?_
      obtain ⟨g_7, K0⟩ := K0
      refine s_getR (pc := 41) dX7_pool_41 fl_X7_20 rfl k_b0 g_7 ?_
      refine s_VV (pc := 44) mX2_carryOver (ci := 2) (a := b0_9) (As := [.ref b0_2]) dX7_pool_44 lk_X7_351 in_X2_carryOver mo_X2_carryOver ⟨by decide, rfl⟩ ⟨by decide, by decide⟩ (Nat.le_of_ble_eq_true rfl) k_b0_9 (mSV_mono K0 (fun y_8 K0 => ?_))
      refine r_aload_n (pc := 47) dX7_pool_47 rfl ?_
      obtain ⟨g_9, K0⟩ := K0
      refine s_getR (pc := 48) dX7_pool_48 fl_X7_54 rfl k_b0 g_9 ?_
      refine s_getI (pc := 51) dX7_pool_51 fl_X7_318 rfl k_b0_9 ?_
      exact s_iret rfl dX7_pool_54 K0
  · have q := (b2i_z _).mp q
    have K0 := K0.2 q
    refine r_bipush (pc := 7) (v := (-2)) dX7_pool_7 (by decide) ?_
    exact s_iret rfl dX7_pool_9 K0
set_option maxHeartbeats 2000000 in
theorem v_X8_pool_0 {K : Sh} {x : Cn} {Q : Int32 → Cn → Prop} {b0 : Nat} {b0_1 : Nat} {n_b0_1 : Nat} (k_b0 : kk K b0 = some (8, 0)) (g_b0_1 : gr x b0 1 = some b0_1) (k_b0_1 : kk K b0_1 = some (20, n_b0_1)) (K0 : vp_in 0 n_b0_1 ∧ (((0 < gi x b0_1 0) → (mSI mX8_playsAside [.ref b0, .int (-1)] K x (fun r_4 y_3 => (¬ r_4 = 0 → (mSV mX8_keeps [.ref b0] K y_3 (fun y_6 => GI mX8_pool 28 [some (.ref b0), some (.int r_4), some (.int 0)] [] K y_6 Q))) ∧ (r_4 = 0 → (Q 0 y_3))))) ∧ (¬ (0 < gi x b0_1 0) → (Q (-2) x)))) : mSI mX8_pool [.ref b0] K x Q := by
  refine s_I (by decide) (by simp [Value.category]) (Nat.le_of_ble_eq_true rfl) ?_
  show mGM mX8_pool 0 [some (.ref b0), none, none] [] (hp K x) (PI K Q)
  refine r_aload_n (pc := 0) dX8_pool_0 rfl ?_
  obtain ⟨i_1, K0⟩ := K0
  refine s_VI (pc := 1) mX8_isThere (ci := 8) (a := b0) (As := []) dX8_pool_1 lk_X8_49 in_X8_isThere mo_X8_isThere ⟨by decide, rfl⟩ ⟨by decide, by decide⟩ (Nat.le_of_ble_eq_true rfl) k_b0 (sp_X8_isThere k_b0 g_b0_1 k_b0_1 i_1 ?_)
  refine r_if_ne (pc := 4) (tgt := 10) dX8_pool_4 (by decide) (fun q => ?_) (fun q => ?_)
  · have q := b2i_nz q
    have K0 := K0.1 q
    refine r_aload_n (pc := 10) dX8_pool_10 rfl ?_
    refine r_iconst (pc := 11) (v := (-1)) dX8_pool_11 (by decide) ?_
    refine s_VI (pc := 12) mX8_playsAside (ci := 8) (a := b0) (As := [.int (-1)]) dX8_pool_12 lk_X8_354 in_X8_playsAside mo_X8_playsAside ⟨by decide, rfl⟩ ⟨by decide, by decide⟩ (Nat.le_of_ble_eq_true rfl) k_b0 (mSI_mono K0 (fun r_4 y_3 K0 => ?_))
    refine r_istore_n (pc := 15) dX8_pool_15 (by decide) ?_
    refine r_iload_n (pc := 16) (L := [some (.ref b0), some (.int r_4), none]) dX8_pool_16 rfl ?_
    refine r_if_ne (pc := 17) (tgt := 22) dX8_pool_17 (by decide) (fun q => ?_) (fun q => ?_)
    · have K0 := K0.1 q
      refine r_aload_n (pc := 22) dX8_pool_22 rfl ?_
      refine s_VV (pc := 23) mX8_keeps (ci := 8) (a := b0) (As := []) dX8_pool_23 lk_X8_366 in_X8_keeps mo_X8_keeps ⟨by decide, rfl⟩ ⟨by decide, by decide⟩ (Nat.le_of_ble_eq_true rfl) k_b0 (mSV_mono K0 (fun y_6 K0 => ?_))
      refine r_iconst (pc := 26) (v := 0) dX8_pool_26 (by decide) ?_
      refine r_istore_n (pc := 27) dX8_pool_27 (by decide) ?_
      exact r_le (L' := [some (.ref b0), some (.int r_4), some (.int 0)]) ⟨rfl, ⟨rfl, ⟨rfl, trivial⟩⟩⟩ K0
    · have K0 := K0.2 q
      refine r_iconst (pc := 20) (v := 0) dX8_pool_20 (by decide) ?_
      exact s_iret rfl dX8_pool_21 K0
  · have q := (b2i_z _).mp q
    have K0 := K0.2 q
    refine r_bipush (pc := 7) (v := (-2)) dX8_pool_7 (by decide) ?_
    exact s_iret rfl dX8_pool_9 K0
set_option maxHeartbeats 2000000 in
theorem v_X8_pool_28 {K : Sh} {x : Cn} {Q : Int32 → Cn → Prop} {b0 : Nat} {l1 : Int32} {l2 : Int32} {b0_1 : Nat} {b0_2 : Nat} {n_b0_2 : Nat} {n_b0_1 : Nat} (k_b0 : kk K b0 = some (8, 0)) (g_b0_1 : gr x b0 1 = some b0_1) (g_b0_2 : gr x b0 2 = some b0_2) (k_b0_2 : kk K b0_2 = some (20, n_b0_2)) (k_b0_1 : kk K b0_1 = some (20, n_b0_1)) (K0 : (518 ≤ l2 → (GI mX8_pool 56 [some (.ref b0), some (.int l1), some (.int 23)] [] K x Q)) ∧ (¬ 518 ≤ l2 → (vp_in l2 n_b0_2 ∧ (vp_in l2 n_b0_1 ∧ (GI mX8_pool 28 [some (.ref b0), some (.int l1), some (.int (l2 + 1))] [] K (ui x b0_1 (l2 : Int32).toNatClampNeg (gi x b0_2 (l2 : Int32).toNatClampNeg)) Q))))) : GI mX8_pool 28 [some (.ref b0), some (.int l1), some (.int l2)] [] K x Q := by
  show mGM mX8_pool 28 [some (.ref b0), some (.int l1), some (.int l2)] [] (hp K x) (PI K Q)
  refine r_iload_n (pc := 28) dX8_pool_28 rfl ?_
  refine r_sipush (pc := 29) (v := 518) dX8_pool_29 (by decide) ?_
  refine r_icmp_ge (pc := 32) (tgt := 53) dX8_pool_32 (by decide) (fun q => ?_) (fun q => ?_)
  · have K0 := K0.1 q
    refine r_bipush (pc := 53) (v := 23) dX8_pool_53 (by decide) ?_
    refine r_istore_n (pc := 55) dX8_pool_55 (by decide) ?_
    exact r_le (L' := [some (.ref b0), some (.int l1), some (.int 23)]) ⟨rfl, ⟨rfl, ⟨rfl, trivial⟩⟩⟩ K0
  · have K0 := K0.2 q
    refine r_aload_n (pc := 35) dX8_pool_35 rfl ?_
    refine s_getR (pc := 36) dX8_pool_36 fl_X8_9 rfl k_b0 g_b0_1 ?_
    refine r_iload_n (pc := 39) dX8_pool_39 rfl ?_
    refine r_aload_n (pc := 40) dX8_pool_40 rfl ?_
    refine s_getR (pc := 41) dX8_pool_41 fl_X8_13 rfl k_b0 g_b0_2 ?_
    refine r_iload_n (pc := 44) dX8_pool_44 rfl ?_
    obtain ⟨i_2, K0⟩ := K0
    refine s_iald (pc := 45) dX8_pool_45 k_b0_2 i_2 ?_
    obtain ⟨i_3, K0⟩ := K0
    refine s_iast (pc := 46) dX8_pool_46 k_b0_1 i_3 ?_
    refine r_iinc (pc := 47) (v := l2 + 1) dX8_pool_47 rfl rfl (by decide) ?_
    refine r_goto (pc := 50) (L := [some (.ref b0), some (.int l1), some (.int (l2 + 1))]) (tgt := 28) dX8_pool_50 (by decide) ?_
    exact r_le (L' := [some (.ref b0), some (.int l1), some (.int (l2 + 1))]) ⟨rfl, ⟨rfl, ⟨rfl, trivial⟩⟩⟩ K0
set_option maxHeartbeats 2000000 in
theorem v_X8_pool_56 {K : Sh} {x : Cn} {Q : Int32 → Cn → Prop} {b0 : Nat} {l1 : Int32} {l2 : Int32} {b0_17 : Nat} {n_b0_17 : Nat} (k_b0 : kk K b0 = some (8, 0)) (g_b0_17 : gr x b0 17 = some b0_17) (k_b0_17 : kk K b0_17 = some (20, n_b0_17)) (K0 : (l2 < 0 → (Q l1 x)) ∧ (¬ l2 < 0 → (vp_in l2 n_b0_17 ∧ (((gi x b0_17 (l2 : Int32).toNatClampNeg) = (-1) → (GI mX8_pool 56 [some (.ref b0), some (.int l1), some (.int (l2 + (-1)))] [] K x Q)) ∧ (¬ (gi x b0_17 (l2 : Int32).toNatClampNeg) = (-1) → (mSV mX8_dropsAsk [.ref b0, .int l2] K x (fun y_4 => GI mX8_pool 56 [some (.ref b0), some (.int l1), some (.int (l2 + (-1)))] [] K y_4 Q))))))) : GI mX8_pool 56 [some (.ref b0), some (.int l1), some (.int l2)] [] K x Q := by
  show mGM mX8_pool 56 [some (.ref b0), some (.int l1), some (.int l2)] [] (hp K x) (PI K Q)
  refine r_iload_n (pc := 56) dX8_pool_56 rfl ?_
  refine r_if_lt (pc := 57) (tgt := 81) dX8_pool_57 (by decide) (fun q => ?_) (fun q => ?_)
  · have K0 := K0.1 q
    refine r_iload_n (pc := 81) dX8_pool_81 rfl ?_
    exact s_iret rfl dX8_pool_82 K0
  · have K0 := K0.2 q
    refine r_aload_n (pc := 60) dX8_pool_60 rfl ?_
    refine s_getR (pc := 61) dX8_pool_61 fl_X8_33 rfl k_b0 g_b0_17 ?_
    refine r_iload_n (pc := 64) dX8_pool_64 rfl ?_
    obtain ⟨i_2, K0⟩ := K0
    refine s_iald (pc := 65) dX8_pool_65 k_b0_17 i_2 ?_
    refine r_iconst (pc := 66) (v := (-1)) dX8_pool_66 (by decide) ?_
    refine r_icmp_eq (pc := 67) (tgt := 75) dX8_pool_67 (by decide) (fun q => ?_) (fun q => ?_)
    · have K0 := K0.1 q
      refine r_iinc (pc := 75) (v := l2 + (-1)) dX8_pool_75 rfl rfl (by decide) ?_
      refine r_goto (pc := 78) (L := [some (.ref b0), some (.int l1), some (.int (l2 + (-1)))]) (tgt := 56) dX8_pool_78 (by decide) ?_
      exact r_le (L' := [some (.ref b0), some (.int l1), some (.int (l2 + (-1)))]) ⟨rfl, ⟨rfl, ⟨rfl, trivial⟩⟩⟩ K0
    · have K0 := K0.2 q
      refine r_aload_n (pc := 70) dX8_pool_70 rfl ?_
      refine r_iload_n (pc := 71) dX8_pool_71 rfl ?_
      refine s_VV (pc := 72) mX8_dropsAsk (ci := 8) (a := b0) (As := [.int l2]) dX8_pool_72 lk_X8_376 in_X8_dropsAsk mo_X8_dropsAsk ⟨by decide, rfl⟩ ⟨by decide, by decide⟩ (Nat.le_of_ble_eq_true rfl) k_b0 (mSV_mono K0 (fun y_4 K0 => ?_))
      refine r_iinc (pc := 75) (v := l2 + (-1)) dX8_pool_75 rfl rfl (by decide) ?_
      refine r_goto (pc := 78) (L := [some (.ref b0), some (.int l1), some (.int (l2 + (-1)))]) (tgt := 56) dX8_pool_78 (by decide) ?_
      exact r_le (L' := [some (.ref b0), some (.int l1), some (.int (l2 + (-1)))]) ⟨rfl, ⟨rfl, ⟨rfl, trivial⟩⟩⟩ K0
section
theorem sp_X8_pool_56 {x : Cn} {Q : Int32 → Cn → Prop} {hr : TT} {n : Nat} {H : Nat → TT} {g : Int32} : ∀ m (t : TT × Nat) v, m ≤ 24 → t.2 ≤ 24 → t.1 3 = nI t.2 → (∀ a, a < m → ¬ hr a = -1 → a < t.2) → RS v t.1 n H → (∀ a, a < m → gi v 723 a = hr a) → (∀ w, EQx v w 718 → RS w (dpF hr m t).1 n H → Q g w) → GI mX8_pool 56 [some (.ref 717), some (.int g), some (.int (nI m - 1))] [] KW v Q := by
  intro m
  induction m with
  | zero =>
    intro t v hm ht h3 h1 rv h2 k
    exact v_X8_pool_56 km rv.1.2.2.2.2.2.2.1 km723 ⟨fun _ => k v (EQx.rf v _) rv, fun z => absurd (by decide) z⟩
  | succ m ih =>
    intro t v hm ht h3 h1 rv h2 k
    have em : nI (m + 1) - 1 = nI m := pk_sub (b := 1) (by omega)
    have em2 : nI m + (-1) = nI m - 1 := (Int32.sub_eq_add_neg _ _).symm
    rw [em]
    refine v_X8_pool_56 km rv.1.2.2.2.2.2.2.1 km723 ⟨fun z => absurd z (nI_pos (by omega)), fun _ => ⟨vp_in_nI (by omega) (by decide), ?_⟩⟩
    rw [nI_clamp (by omega), h2 m (by omega), em2]
    refine ⟨fun z => ?_, fun z => ?_⟩
    · have e : dpF hr (m + 1) t = dpF hr m t := by
        show dpF hr m (if hr m = -1 then t else (drT t.1 m t.2, t.2 - 1)) = _
        rw [if_pos z]
      rw [e] at k
      exact ih t v (by omega) ht h3 (fun a ha => h1 a (by omega)) rv (fun a ha => h2 a (by omega)) k
    · have e : dpF hr (m + 1) t = dpF hr m (drT t.1 m t.2, t.2 - 1) := by
        show dpF hr m (if hr m = -1 then t else (drT t.1 m t.2, t.2 - 1)) = _
        rw [if_neg z]
      rw [e] at k
      have hlt := h1 m (by omega) z
      refine sp_X8_dropsAsk rv h3 hlt ht (fun w f1 r1 => ?_)
      exact ih (drT t.1 m t.2, t.2 - 1) w (by omega) (show t.2 - 1 ≤ 24 by omega) (show drT t.1 m t.2 3 = nI (t.2 - 1) from if_pos rfl) (fun a ha _ => show a < t.2 - 1 by omega) r1 (fun a ha => by rw [f1.2 723 a (by decide)]; exact h2 a (by omega)) (fun u f2 r2 => k u (f1.tr f2) r2)
theorem sp_X8_pool_28 {x : Cn} {Q : Int32 → Cn → Prop} {T p : TT} {n : Nat} {H : Nat → TT} {g : Int32} (r : RS x T n H) (hp : gi x 719 = p) (k : ∀ w, EQx x w 718 → RS w (fun i => if i < 518 then p i else T i) n H → GI mX8_pool 56 [some (.ref 717), some (.int g), some (.int 23)] [] KW w Q) : GI mX8_pool 28 [some (.ref 717), some (.int g), some (.int 0)] [] KW x Q := by
  have key : ∀ c m y, m + c = 518 → EQx x y 718 → RS y (fun i => if i < m then p i else T i) n H → GI mX8_pool 28 [some (.ref 717), some (.int g), some (.int (nI m))] [] KW y Q := by
    intro c
    induction c with
    | zero =>
      intro m y hm f1 r1
      have : m = 518 := by omega
      subst this
      exact v_X8_pool_28 km r1.1.1 r1.1.2.1 km2 km1 ⟨fun _ => k y f1 r1, fun z => absurd (Int32.le_refl _) z⟩
    | succ c ih =>
      intro m y hm f1 r1
      refine v_X8_pool_28 km r1.1.1 r1.1.2.1 km2 km1 ⟨fun z => absurd z (nI_ge (b := 518) (by omega) (by decide)), fun _ => ⟨vp_in_nI (by omega) (by decide), vp_in_nI (by omega) (by decide), ?_⟩⟩
      rw [nI_1, nI_clamp (by omega), show gi y 719 m = p m by rw [f1.2 719 m (by decide), hp]]
      refine ih (m + 1) _ (by omega) f1.ui ?_
      have := r1.u8 (k := m) (v := p m)
      have e : uT (fun i => if i < m then p i else T i) m (p m) = (fun i => if i < m + 1 then p i else T i) := by
        funext i
        show (if i = m then p m else if i < m then p i else T i) = (if i < m + 1 then p i else T i)
        by_cases c1 : i = m
        · rw [if_pos c1, if_pos (by omega), c1]
        · rw [if_neg c1]
          by_cases c2 : i < m
          · rw [if_pos c2, if_pos (show i < m + 1 by omega)]
          · rw [if_neg c2, if_neg (show ¬ i < m + 1 by omega)]
      rw [e] at this
      exact this
  refine key 518 0 x (by omega) (EQx.rf x _) ?_
  have e : (fun i => if i < 0 then p i else T i) = T := by
    funext i
    rw [if_neg (by omega)]
  rw [e]
  exact r
end
theorem eq_pool : Both mX7_pool mX8_pool [] := by
  intro x R
  obtain ⟨W, C, S, A, N, n, H, ac, rs, nm⟩ := R.ac
  have E := ac.2.2.2.2
  have hn := E.nums
  have hA : A ≤ 24 := hn.2.2.2.2.2.2.2.1
  have hC : C ≤ 8 := hn.2.2.2.2.2.1
  have t0 := (Rel.t2 E).1
  have hh : ((-1 : Int32) = -1 ∧ mixT x = mixT x) ∨ ∃ h, h < 24 ∧ (-1 : Int32) = nI h ∧ mixT x = hlT (mixT x) h := Or.inl ⟨rfl, rfl⟩
  have iv := PIV.run (pl_wf E hh) A (Nat.le_refl _)
  refine v_X7_pool_0 k0 R.1.2.1 (ks0 E.1) R.1.c9 k117 ?_
  rw [hn.1]
  refine ⟨fun z1 => pl_cls R E (PCr.rf x) hh (fun y fy cy => ⟨(R.1.keep fy.1).c9, ?_⟩), fun z => v_X8_pool_0 km R.2.1.1 km1 ⟨v0 (k := 0) (by decide) rfl rfl, fun u => absurd (by rw [t0] at u; exact u) z, fun _ => ⟨rfl, R⟩⟩⟩
  have ce : ∀ a, a < A → gi y 173 a = (accT (plS A N) A (pl0 (mixT x) S)).2.2.1 a ∧ gi y 174 a = (accT (plS A N) A (pl0 (mixT x) S)).2.2.2.1 a := fun a ha => cy.end (pl_wf E hh) ha
  have Ry := R.keep fy.kp
  have ay := ac.pc fy
  rw [cy.2.2.1]
  have pr : ∀ {v : Cn} {Q : Int32 → Cn → Prop}, MRf v 718 → (∀ i, gi v 718 i = gi x 718 i) → (∀ i, gi v 719 i = gi x 719 i) → (∀ u, PFr v u → gi u 719 = (accT (plS A N) A (pl0 (mixT x) S)).1 → (∀ a, a < 24 → gi u 723 a = (accT (plS A N) A (pl0 (mixT x) S)).2.2.2.1 a) → Q (nI (accT (plS A N) A (pl0 (mixT x) S)).2.2.2.2) u) → mSI mX8_playsAside [.ref 717, .int (-1)] KW v Q := by
    intro v Q Mv v1 v2 k
    have hm : mixT v = mixT x := by
      funext i
      unfold mixT
      rw [v1, v2]
    exact sp_X8_playsAside Mv (T0 := mixT x) (Or.inl ⟨rfl, hm.symm⟩) (pl_wf E hh) (fun u fu u1 u2 u3 => k u fu u1 u3)
  generalize hp : accT (plS A N) A (pl0 (mixT x) S) = p at cy ce iv pr ⊢
  have hg : p.2.2.2.2 ≤ A := iv.2.2.2.2.1
  rw [show nI p.2.2.2.2 ≤ 0 ↔ p.2.2.2.2 ≤ 0 from nI_leI (b := 0) (by omega) (by decide)]
  refine ⟨fun z2 => ?_, fun z2 => ?_⟩
  · refine v_X8_pool_0 km Ry.2.1.1 km1 ⟨v0 (k := 0) (by decide) rfl rfl, fun _ => ?_, fun u => absurd (by rw [fy.2 718 0 (by omega), t0]; exact z1) u⟩
    have g0 : p.2.2.2.2 = 0 := by omega
    refine pr Ry.2.1 (fun i => fy.2 718 i (by omega)) (fun i => fy.2 719 i (by omega)) (fun u fu u1 u2 => ⟨fun c => absurd (by rw [g0]; rfl) c, fun c => ⟨by rw [g0]; rfl, Ry.keep fu.kp⟩⟩)
  · refine ay.rem2 (fun _ _ => rfl) (fun z az z3 z4 => ⟨az.2.1.c9, az.2.1.2.1, ?_⟩)
    have I118 : Isea 118 := Or.inr (Or.inr (Or.inl rfl))
    have lm : LM9 p.1 := fun h h24 => by
      rw [iv.2.2.2.1 (6 + 2 * h) (by omega) (by omega), iv.2.2.2.1 (7 + 2 * h) (by omega) (by omega), mix_lt (by omega), mix_lt (by omega)]
      exact E.2.2.2.2.2.2.2.2.2.2.2.2.2.2.1 h h24
    have Ez : SEA z 118 p.1 W C p.2.1 A N := (cy.1.w lm).mv (fun a j a1 a2 => z4 a j (by omega)) (fun a j a1 a2 _ => z3 a j (by omega) (by omega)) (fun _ _ => rfl)
    refine v_X2_carryOver_0 k117 az.2.1.pl.1 (ks0 E.1) (ks0 I118) (sp_X4_copyFrom E.1 az.2.2.2.2.2.1 Ez (by decide) (fun v fv Ev => ⟨(az.2.1.pl.keep fv.1).1, ?_⟩))
    have e4 : gi v 118 4 = nI A := (fv.2 118 4 (by omega)).trans Ez.nums.2.2.2.1
    rw [e4]
    have av : AC x v W C p.2.1 A N (pn n) (fun i => if i < 518 then p.1 i else gi x 718 i) (push H n (gi x 718)) := az.up (fun b k hb => fv.2 b k (by omega)) fv.1 (Ev.mv (fun _ _ _ _ => rfl) (fun _ _ _ _ _ => rfl) (fun i hi => if_pos hi))
    have hA3 : (fun i => if i < 518 then p.1 i else gi x 718 i : TT) 3 = nI A := (if_pos (by decide)).trans iv.1.2.2.2.2.2.2.2.1
    refine sp_X2_carryOver_lp (hr := p.2.2.2.1) A (fun i => if i < 518 then p.1 i else gi x 718 i, A) v hA (fun a ha _ => ha) av (az.2.1.pl.keep fv.1) (fun a ha => ?_) (fun w aw w1 w2 => ⟨aw.2.1.c9, ?_⟩)
    · rw [fv.2 174 a (by omega), z3 174 a (by omega) (by omega)]; exact (ce a ha).2
    · have w4 : gi w 117 4 = nI p.2.2.2.2 := by
        rw [w1 117 4 (by omega), fv.2 117 4 (by omega), z3 117 4 (by omega) (by omega)]; exact cy.2.2.1
      rw [w4]
      have rw0 := aw.rs rs
      have b8 : ∀ b i, 717 ≤ b → gi w b i = gi x b i := fun b i hb => aw.1 b i (by omega) (by omega) (by omega) (by omega)
      refine v_X8_pool_0 km rw0.1.1 km1 ⟨v0 (k := 0) (by decide) rfl rfl, fun _ => ?_, fun u => absurd (by rw [b8 718 0 (by decide), t0]; exact z1) u⟩
      refine pr rw0.1 (fun i => b8 718 i (by decide)) (fun i => b8 719 i (by decide)) (fun u fu u1 u2 => ⟨fun _ => ?_, fun c => absurd ((nI_z (by omega)).mp c) (by omega)⟩)
      have ru := rw0.pf fu
      refine ru.keeps2 (fun u3 f3 f4 r3 => sp_X8_pool_28 (p := p.1) r3 (by rw [← u1]; exact funext (fun i => f4 719 i (by decide) (by omega))) (fun u5 f5 r5 => ?_))
      have sk := dp_skip (hr := p.2.2.2.1) (A := A) (fun a ha => (iv.2.2.1 a ha).2) 24 hA (fun i => if i < 518 then p.1 i else gi x 718 i, A)
      refine sp_X8_pool_56 (x := x) (hr := p.2.2.2.1) 24 (fun i => if i < 518 then p.1 i else gi x 718 i, A) u5 (Nat.le_refl _) hA hA3 (fun a ha hne => ?_) r5 (fun a ha => ?_) (fun u6 f6 r6 => ⟨rfl, ?_⟩)
      · by_cases c : a < A
        · exact c
        · exact absurd (iv.2.2.1 a (by omega)).2 hne
      · rw [f5.2 723 a (by decide), f4 723 a (by decide) (by omega)]; exact u2 a ha
      · rw [sk] at r6
        refine aw.fin R nm (fun c hc => ?_) (fu.rfr.tr (f3.tr (f5.rfr.tr f6.rfr))) r6
        rw [dp_off _ _ _ (by omega) (by omega)]
        show (if 54 + c < 518 then p.1 (54 + c) else gi x 718 (54 + c)) = _
        rw [if_pos (by omega), iv.2.2.2.1 (54 + c) (by omega) (by omega), mix_lt (by omega)]


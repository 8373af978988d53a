/-! carriers, places, spans: landed side -/
theorem pkv_cg {b b' : TT} {s e : Nat} (h : ∀ i, s ≤ i → i < e → b i = b' i) : pkv b s e = pkv b' s e := by
  have hd : ∀ i, bd b s e i = bd b' s e i := by
    intro i
    unfold bd
    by_cases c : s + i < e
    · rw [if_pos c, if_pos c, h (s + i) (by omega) c]
    · rw [if_neg c, if_neg c]
  rw [pkv_6, pkv_6, hd, hd, hd, hd, hd, hd]
theorem tk_ltr {b : TT} {n p : Nat} (hB : ∀ i, i < n → isB (b i)) (hp : p ≤ n) (h : tK b n p = 1) : ltr b (tS b n p) (tE b n p) := by
  intro i h1 h2
  have he := tE_b (b := b) hp
  have e : tE b n p = scL b (n - tS b n p) (tS b n p) := by unfold tE; rw [h]; rfl
  rw [e] at h2
  have := scL_l b _ _ i h1 h2
  rw [← e] at h2
  obtain ⟨m1, m2, m3⟩ := (FB_of (hB i (by omega))).2.2.2.2.2.2.2.2 this
  exact ⟨_, m1, m2, m3⟩
theorem ltr_cg {b b' : TT} {s e : Nat} (h : ∀ i, s ≤ i → i < e → b' i = b i) (l : ltr b s e) : ltr b' s e := fun i h1 h2 => by
  obtain ⟨m, m1, m2, m3⟩ := l i h1 h2
  exact ⟨m, m1, m2, (h i h1 h2).trans m3⟩
def vnm (b : TT) (n p : Nat) : Nat := pkv b (tS b n p) (tE b n p)
theorem vnm_b {b : TT} {n p : Nat} (hB : ∀ i, i < n → isB (b i)) (hp : p ≤ n) (h : tK b n p = 1) : 0 < vnm b n p ∧ vnm b n p < 387420489 := by
  have l := tk_ltr hB hp h
  refine ⟨?_, pkv_lt l⟩
  have he := (tE_b (b := b) hp).2.2 (by omega)
  have h0 : 1 ≤ bd b (tS b n p) (tE b n p) 0 := by
    unfold bd
    rw [if_pos (by omega)]
    obtain ⟨m, m1, m2, m3⟩ := l (tS b n p + 0) (by omega) (by omega)
    rw [m3, nI_clamp (by omega)]
    omega
  unfold vnm
  rw [pkv_6]
  omega
theorem fnd_c (T : TT) (C v : Nat) : fnd T C v = -1 ∨ ∃ c, c < C ∧ fnd T C v = nI c := by
  have key : ∀ d s, s + d = C → (lpR (stN T v) (fun _ => -1) d s () = -1 ∨ ∃ c, c < C ∧ lpR (stN T v) (fun _ => -1) d s () = nI c) := by
    intro d
    induction d with
    | zero => intro s _; exact Or.inl rfl
    | succ d ih =>
      intro s hs
      by_cases h : T (54 + s) = nI v
      · right
        refine ⟨s, by omega, ?_⟩
        simp only [lpR, stN, if_pos h]
      · have e : lpR (stN T v) (fun _ => -1) (d + 1) s () = lpR (stN T v) (fun _ => -1) d (s + 1) () := by
          simp only [lpR, stN, if_neg h]
        rw [e]
        exact ih (s + 1) (by omega)
  exact key C 0 (by omega)
def caT (T : TT) (C v : Nat) : TT := uT (uT T (54 + C) (nI v)) 1 (nI (C + 1))
theorem SEA.tc {x : Cn} {q : Nat} {T T' : TT} {W C C' S A N : Nat} (E : SEA x q T W C S A N) (h : ∀ i, i ≠ 1 → ¬ (54 ≤ i ∧ i < 62) → T' i = T i) (h1 : T' 1 = nI C') (hC : C ≤ C' ∧ C' ≤ 8) (hW : 5 ≤ W) : SEA x q T' W C' S A N := by
  obtain ⟨e1, e2, ⟨v0, v1, v2, v3, v4, v5, v6, v7⟩, w1, w2, w3, w4, w5, w6, w7, w8, w9, w10, w11, w12, w13, w14⟩ := E
  have hs : ∀ s k, so T' s k = so T s k := fun s k => h _ (by omega) (by omega)
  have ha : ∀ a k, ao T' a k = ao T a k := fun a k => h _ (by omega) (by omega)
  refine ⟨e1, e2, ⟨v0.trans (h 0 (by omega) (by omega)).symm, v1.trans (h 4 (by omega) (by omega)).symm, v2.trans (h 5 (by omega) (by omega)).symm, v3.trans (h 2 (by omega) (by omega)).symm, v4.trans (h 3 (by omega) (by omega)).symm, fun i hi => ?_, fun s p z1 z2 => (v6 s p z1 z2).cg (fun _ _ => rfl) (fun k _ => hs s k), fun a p z1 z2 => (v7 a p z1 z2).cg (fun _ _ => rfl) (fun k _ => ha a k)⟩, (h 0 (by omega) (by omega)).trans w1, Or.inr hW, w3, h1, hC.2, (h 2 (by omega) (by omega)).trans w6, w7, (h 3 (by omega) (by omega)).trans w8, w9, (h 4 (by omega) (by omega)).trans w10, w11, fun i hi => ?_, fun s z => ?_, fun a z => ?_⟩
  · rw [h _ (by omega) (by omega), h _ (by omega) (by omega)]; exact v5 i hi
  · rw [h _ (by omega) (by omega), h _ (by omega) (by omega)]; exact w12 i hi
  · have := (w13 s z).cg (T' := T') (fun k _ => hs s k)
    obtain ⟨⟨c, c1, c2⟩, r⟩ := this
    exact ⟨⟨c, by omega, c2⟩, r⟩
  · have := (w14 a z).cg (T' := T') (fun k _ => ha a k)
    obtain ⟨⟨c, c1, c2⟩, r⟩ := this
    exact ⟨⟨c, by omega, c2⟩, r⟩
def NAf (x y : Cn) (C : Nat) : Prop := y.2 = x.2 ∧ ∀ a k, ¬ (a = 115 ∧ 6 * C ≤ k ∧ k < 6 * C + 6) → ¬ (a = 114 ∧ k = 0) → gi y a k = gi x a k
set_option maxHeartbeats 2000000 in
theorem v_X1_add_0 {K : Sh} {x : Cn} {Q : Cn → Prop} {b0 : Nat} {b1 : Nat} {l2 : Int32} {l3 : Int32}  (k_b0 : kk K b0 = some (1, 0)) (K0 : GV mX1_add 14 [some (.ref b0), some (.ref b1), some (.int l2), some (.int l3), some (.int (if 7 < (gi x b0 0) then 7 else (gi x b0 0))), some (.int 0), none] [] K x Q) : mSV mX1_add [.ref b0, .ref b1, .int l2, .int l3] K x Q := by
  refine s_V (by decide) (by simp [Value.category]) (Nat.le_of_ble_eq_true rfl) ?_
  show mGM mX1_add 0 [some (.ref b0), some (.ref b1), some (.int l2), some (.int l3), none, none, none] [] (hp K x) (PV K Q)
  refine r_aload_n (pc := 0) dX1_add_0 rfl ?_
  refine s_getI (pc := 1) dX1_add_1 fl_X1_9 rfl k_b0 ?_
  refine r_bipush (pc := 4) (v := 7) dX1_add_4 (by decide) ?_
  refine r_mmin (pc := 6) dX1_add_6 lk_X1_23 mw_min ⟨by decide, by decide⟩ (Nat.le_of_ble_eq_true rfl) ?_
  refine r_istore (pc := 9) dX1_add_9 (by decide) ?_
  refine r_iconst (pc := 11) (L := [some (.ref b0), some (.ref b1), some (.int l2), some (.int l3), some (.int (if 7 < (gi x b0 0) then 7 else (gi x b0 0))), none, none]) (v := 0) dX1_add_11 (by decide) ?_
  refine r_istore (pc := 12) dX1_add_12 (by decide) ?_
  exact r_le (L' := [some (.ref b0), some (.ref b1), some (.int l2), some (.int l3), some (.int (if 7 < (gi x b0 0) then 7 else (gi x b0 0))), some (.int 0), none]) ⟨rfl, ⟨rfl, ⟨rfl, ⟨rfl, ⟨rfl, ⟨rfl, trivial⟩⟩⟩⟩⟩⟩ K0
set_option maxHeartbeats 2000000 in
theorem v_X1_add_14 {K : Sh} {x : Cn} {Q : Cn → Prop} {b0 : Nat} {b1 : Nat} {l2 : Int32} {l3 : Int32} {l4 : Int32} {l5 : Int32} {b0_1 : Nat} {n_b0_1 : Nat} {n_b1 : Nat} (k_b0 : kk K b0 = some (1, 0)) (g_b0_1 : gr x b0 1 = some b0_1) (k_b0_1 : kk K b0_1 = some (20, n_b0_1)) (k_b1 : kk K b1 = some (21, n_b1)) (K0 : (6 ≤ l5 → (Q (ui x b0 0 (l4 + 1)))) ∧ (¬ 6 ≤ l5 → ((l3 ≤ (l2 + l5) → (vp_in ((l4 * 6) + l5) n_b0_1 ∧ (GV mX1_add 14 [some (.ref b0), some (.ref b1), some (.int l2), some (.int l3), some (.int l4), some (.int (l5 + 1)), none] [] K (ui x b0_1 (((l4 * 6) + l5) : Int32).toNatClampNeg 0) Q))) ∧ (¬ l3 ≤ (l2 + l5) → (vp_in (l2 + l5) n_b1 ∧ (vp_in ((l4 * 6) + l5) n_b0_1 ∧ (GV mX1_add 14 [some (.ref b0), some (.ref b1), some (.int l2), some (.int l3), some (.int l4), some (.int (l5 + 1)), none] [] K (ui x b0_1 (((l4 * 6) + l5) : Int32).toNatClampNeg (((gi x b1 ((l2 + l5) : Int32).toNatClampNeg) - 97) + 1)) Q))))))) : GV mX1_add 14 [some (.ref b0), some (.ref b1), some (.int l2), some (.int l3), some (.int l4), some (.int l5), none] [] K x Q := by
  show mGM mX1_add 14 [some (.ref b0), some (.ref b1), some (.int l2), some (.int l3), some (.int l4), some (.int l5), none] [] (hp K x) (PV K Q)
  refine r_iload (pc := 14) dX1_add_14 rfl ?_
  refine r_bipush (pc := 16) (v := 6) dX1_add_16 (by decide) ?_
  refine r_icmp_ge (pc := 18) (tgt := 67) dX1_add_18 (by decide) (fun q => ?_) (fun q => ?_)
  · have K0 := K0.1 q
    refine r_aload_n (pc := 67) dX1_add_67 rfl ?_
    refine r_iload (pc := 68) dX1_add_68 rfl ?_
    refine r_iconst (pc := 70) (v := 1) dX1_add_70 (by decide) ?_
    refine r_iadd (pc := 71) dX1_add_71 ?_
    refine s_putI (pc := 72) dX1_add_72 fl_X1_9 rfl rfl k_b0 ?_
    exact s_ret rfl dX1_add_75 K0
  · have K0 := K0.2 q
    refine r_iload_n (pc := 21) dX1_add_21 rfl ?_
    refine r_iload (pc := 22) dX1_add_22 rfl ?_
    refine r_iadd (pc := 24) dX1_add_24 ?_
    refine r_iload_n (pc := 25) dX1_add_25 rfl ?_
    refine r_icmp_ge (pc := 26) (tgt := 43) dX1_add_26 (by decide) (fun q => ?_) (fun q => ?_)
    · have K0 := K0.1 q
      refine r_iconst (pc := 43) (v := 0) dX1_add_43 (by decide) ?_
      refine r_istore (pc := 44) dX1_add_44 (by decide) ?_
      refine r_aload_n (pc := 46) (L := [some (.ref b0), some (.ref b1), some (.int l2), some (.int l3), some (.int l4), some (.int l5), some (.int 0)]) dX1_add_46 rfl ?_
      refine s_getR (pc := 47) dX1_add_47 fl_X1_15 rfl k_b0 g_b0_1 ?_
      refine r_iload (pc := 50) dX1_add_50 rfl ?_
      refine r_bipush (pc := 52) (v := 6) dX1_add_52 (by decide) ?_
      refine r_imul (pc := 54) dX1_add_54 ?_
      refine r_iload (pc := 55) dX1_add_55 rfl ?_
      refine r_iadd (pc := 57) dX1_add_57 ?_
      refine r_iload (pc := 58) dX1_add_58 rfl ?_
      obtain ⟨i_3, K0⟩ := K0
      refine s_iast (pc := 60) dX1_add_60 k_b0_1 i_3 ?_
      refine r_iinc (pc := 61) (v := l5 + 1) dX1_add_61 rfl rfl (by decide) ?_
      refine r_goto (pc := 64) (L := [some (.ref b0), some (.ref b1), some (.int l2), some (.int l3), some (.int l4), some (.int (l5 + 1)), some (.int 0)]) (tgt := 14) dX1_add_64 (by decide) ?_
      exact r_le (L' := [some (.ref b0), some (.ref b1), some (.int l2), some (.int l3), some (.int l4), some (.int (l5 + 1)), none]) ⟨rfl, ⟨rfl, ⟨rfl, ⟨rfl, ⟨rfl, ⟨rfl, trivial⟩⟩⟩⟩⟩⟩ K0
    · have K0 := K0.2 q
      refine r_aload_n (pc := 29) dX1_add_29 rfl ?_
      refine r_iload_n (pc := 30) dX1_add_30 rfl ?_
      refine r_iload (pc := 31) dX1_add_31 rfl ?_
      refine r_iadd (pc := 33) dX1_add_33 ?_
      obtain ⟨i_4, K0⟩ := K0
      refine s_bald (pc := 34) dX1_add_34 k_b1 i_4 ?_
      refine r_bipush (pc := 35) (v := 97) dX1_add_35 (by decide) ?_
      refine r_isub (pc := 37) dX1_add_37 ?_
      refine r_iconst (pc := 38) (v := 1) dX1_add_38 (by decide) ?_
      refine r_iadd (pc := 39) dX1_add_39 ?_
      refine r_goto (pc := 40) (tgt := 44) dX1_add_40 (by decide) ?_
      refine r_istore (pc := 44) dX1_add_44 (by decide) ?_
      refine r_aload_n (pc := 46) (L := [some (.ref b0), some (.ref b1), some (.int l2), some (.int l3), some (.int l4), some (.int l5), some (.int (((gi x b1 ((l2 + l5) : Int32).toNatClampNeg) - 97) + 1))]) dX1_add_46 rfl ?_
      refine s_getR (pc := 47) dX1_add_47 fl_X1_15 rfl k_b0 g_b0_1 ?_
      refine r_iload (pc := 50) dX1_add_50 rfl ?_
      refine r_bipush (pc := 52) (v := 6) dX1_add_52 (by decide) ?_
      refine r_imul (pc := 54) dX1_add_54 ?_
      refine r_iload (pc := 55) dX1_add_55 rfl ?_
      refine r_iadd (pc := 57) dX1_add_57 ?_
      refine r_iload (pc := 58) dX1_add_58 rfl ?_
      obtain ⟨i_5, K0⟩ := K0
      refine s_iast (pc := 60) dX1_add_60 k_b0_1 i_5 ?_
      refine r_iinc (pc := 61) (v := l5 + 1) dX1_add_61 rfl rfl (by decide) ?_
      refine r_goto (pc := 64) (L := [some (.ref b0), some (.ref b1), some (.int l2), some (.int l3), some (.int l4), some (.int (l5 + 1)), some (.int (((gi x b1 ((l2 + l5) : Int32).toNatClampNeg) - 97) + 1))]) (tgt := 14) dX1_add_64 (by decide) ?_
      exact r_le (L' := [some (.ref b0), some (.ref b1), some (.int l2), some (.int l3), some (.int l4), some (.int (l5 + 1)), none]) ⟨rfl, ⟨rfl, ⟨rfl, ⟨rfl, ⟨rfl, ⟨rfl, trivial⟩⟩⟩⟩⟩⟩ K0
section
theorem lp_X1_add {x : Cn} {Q : Cn → Prop} {b : TT} {C s e : Nat} (g : gr x 114 1 = some 115) (hC : C < 8) (hb : ∀ i, s ≤ i → i < e → gi x 1 i = b i) (l : ltr b s e) (hs : s ≤ e) (he : e ≤ 1200) (k : ∀ y, NAf x y C → gi y 114 0 = nI (C + 1) → (∀ i, i < 6 → gi y 115 (6 * C + i) = nI (bd b s e i)) → Q y) : ∀ d i y, i + d = 6 → NAf x y C → (∀ j, j < i → gi y 115 (6 * C + j) = nI (bd b s e j)) → GV mX1_add 14 [some (.ref 114), some (.ref 1), some (.int (nI s)), some (.int (nI e)), some (.int (nI C)), some (.int (nI i)), none] [] KW y Q := by
  intro d
  induction d with
  | zero =>
    intro i y hi f hj
    refine v_X1_add_14 k114 (by unfold gr; rw [f.1]; exact g) k115 k1t ⟨fun _ => ?_, fun z => absurd (nI_le (a := 6) (b := i) (by omega) (by omega)) z⟩
    rw [← nI_succ]
    refine k _ ⟨f.1, fun a j h1 h2 => by rw [gi_ui, if_neg h2]; exact f.2 a j h1 h2⟩ (by rw [gi_ui, if_pos ⟨rfl, rfl⟩]) (fun j h => by rw [gi_ui, if_neg (by omega)]; exact hj j (by omega))
  | succ d ih =>
    intro i y hi f hj
    have ix : (nI C * 6) + nI i = nI (6 * C + i) := by rw [show (6 : Int32) = nI 6 from rfl, pk_mul, nI_add, Nat.mul_comm]
    refine v_X1_add_14 k114 (by unfold gr; rw [f.1]; exact g) k115 k1t ?_
    rw [ix, nI_add, nI_clamp (n := 6 * C + i) (by omega), nI_clamp (n := s + i) (by omega), ← nI_succ i]
    have go : ∀ v, v = nI (bd b s e i) → GV mX1_add 14 [some (.ref 114), some (.ref 1), some (.int (nI s)), some (.int (nI e)), some (.int (nI C)), some (.int (nI (i + 1))), none] [] KW (ui y 115 (6 * C + i) v) Q := by
      intro v hv
      refine ih (i + 1) _ (by omega) ⟨f.1, fun a j h1 h2 => by rw [gi_ui, if_neg (by omega)]; exact f.2 a j h1 h2⟩ (fun j h => ?_)
      by_cases c : j = i
      · rw [c, gi_ui, if_pos ⟨rfl, rfl⟩, hv]
      · rw [gi_ui, if_neg (by omega)]; exact hj j (by omega)
    refine ⟨fun z => absurd z (nI_ge (a := i) (b := 6) (by omega) (by omega)), fun _ => ⟨fun z => ⟨vp_in_nI (by omega) (by decide), go 0 ?_⟩, fun z => ?_⟩⟩
    · have : e ≤ s + i := (nI_leI (by omega) (by omega)).mp z
      unfold bd
      rw [if_neg (by omega)]
      rfl
    · have hlt : s + i < e := by
        rcases Nat.lt_or_ge (s + i) e with q | q
        · exact q
        · exact absurd (nI_le q (by omega)) z
      refine ⟨vp_in_nI (by omega) (by decide), vp_in_nI (by omega) (by decide), go _ ?_⟩
      obtain ⟨m, m1, m2, m3⟩ := l (s + i) (by omega) hlt
      rw [f.2 1 (s + i) (by omega) (by omega), hb (s + i) (by omega) hlt, m3, let_v m1 m2]
      unfold bd
      rw [if_pos hlt, m3, nI_clamp (by omega)]
theorem sp_X1_add {x : Cn} {Q : Cn → Prop} {b : TT} {C s e : Nat} (g : gr x 114 1 = some 115) (h0 : gi x 114 0 = nI C) (hC : C < 8) (hb : ∀ i, s ≤ i → i < e → gi x 1 i = b i) (l : ltr b s e) (hs : s ≤ e) (he : e ≤ 1200) (k : ∀ y, NAf x y C → gi y 114 0 = nI (C + 1) → (∀ i, i < 6 → gi y 115 (6 * C + i) = nI (bd b s e i)) → Q y) : mSV mX1_add [.ref 114, .ref 1, .int (nI s), .int (nI e)] KW x Q := by
  refine v_X1_add_0 k114 ?_
  have e7 : (if 7 < gi x 114 0 then 7 else gi x 114 0) = nI C := by
    rw [h0, if_neg (show ¬ (7 : Int32) < nI C from fun z => absurd ((nI_ltI (a := 7) (b := C) (by omega) (by omega)).mp z) (by omega))]
  rw [e7]
  exact lp_X1_add g hC hb l hs he k 6 0 x (by omega) ⟨rfl, fun _ _ _ _ => rfl⟩ (fun j h => absurd h (by omega))
def okC (b : TT) (n p : Nat) (T : TT) (C : Nat) : Prop := C < 8 ∧ nmd b n (nxt b n 1 p) ∧ fnd T C (vnm b n (nxt b n 1 p)) = -1 ∧ sg b n (nxt b n 2 p) 59
end
set_option maxHeartbeats 2000000 in
theorem v_X3_readCarrier_0 {K : Sh} {x : Cn} {Q : Int32 → Cn → Prop} {b0 : Nat} {b0_1 : Nat} (k_b0 : kk K b0 = some (3, 0)) (g_b0_1 : gr x b0 1 = some b0_1) (k_b0_1 : kk K b0_1 = some (1, 0)) (K0 : ((gi x b0_1 0) < 8 → (mSV mX3_advance [.ref b0] K x (fun y_2 => ((gi y_2 b0 9 = 1 ∧ gi y_2 b0 10 = -1 ∧ gi y_2 b0 8 - gi y_2 b0 7 ≤ 6) → (gr y_2 b0 1 = some b0_1 ∧ (∃ c_5 : Nat, gr y_2 b0 5 = some c_5 ∧ (mSI mX1_carrierNamed [.ref b0_1, .ref c_5, .int (gi y_2 b0 7), .int (gi y_2 b0 8)] K y_2 (fun r_8 y_7 => (r_8 = (-1) → (gr y_7 b0 1 = some b0_1 ∧ (∃ c_11 : Nat, gr y_7 b0 5 = some c_11 ∧ (mSV mX1_add [.ref b0_1, .ref c_11, .int (gi y_7 b0 7), .int (gi y_7 b0 8)] K y_7 (fun y_13 => mSV mX3_advance [.ref b0] K y_13 (fun y_14 => mSI mX3_takeSign [.ref b0, .int 59] K y_14 (fun r_16 y_15 => (r_16 = 0 ∨ r_16 = 1) ∧ (Q r_16 y_15)))))))) ∧ (¬ r_8 = (-1) → (mSI mX3_fail [.ref b0, .int 3] K y_7 (fun r_19 y_18 => (r_19 = 0 ∨ r_19 = 1) ∧ (Q r_19 y_18))))))))) ∧ (¬ (gi y_2 b0 9 = 1 ∧ gi y_2 b0 10 = -1 ∧ gi y_2 b0 8 - gi y_2 b0 7 ≤ 6) → (mSI mX3_fail [.ref b0, .int 1] K y_2 (fun r_22 y_21 => (r_22 = 0 ∨ r_22 = 1) ∧ (Q r_22 y_21))))))) ∧ (¬ (gi x b0_1 0) < 8 → (mSI mX3_fail [.ref b0, .int 5] K x (fun r_25 y_24 => (r_25 = 0 ∨ r_25 = 1) ∧ (Q r_25 y_24))))) : mSI mX3_readCarrier [.ref b0] K x Q := by
  refine s_I (by decide) (by simp [Value.category]) (Nat.le_of_ble_eq_true rfl) ?_
  show mGM mX3_readCarrier 0 [some (.ref b0)] [] (hp K x) (PI K Q)
  refine r_aload_n (pc := 0) dX3_readCarrier_0 rfl ?_
  refine s_getR (pc := 1) dX3_readCarrier_1 fl_X3_21 rfl k_b0 g_b0_1 ?_
  refine s_getI (pc := 4) dX3_readCarrier_4 fl_X3_84 rfl k_b0_1 ?_
  refine r_bipush (pc := 7) (v := 8) dX3_readCarrier_7 (by decide) ?_
  refine r_icmp_lt (pc := 9) (tgt := 18) dX3_readCarrier_9 (by decide) (fun q => ?_) (fun q => ?_)
  · have K0 := K0.1 q
    refine r_aload_n (pc := 18) dX3_readCarrier_18 rfl ?_
    refine s_VV (pc := 19) mX3_advance (ci := 3) (a := b0) (As := []) dX3_readCarrier_19 lk_X3_87 in_X3_advance mo_X3_advance ⟨by decide, rfl⟩ ⟨by decide, by decide⟩ (Nat.le_of_ble_eq_true rfl) k_b0 (mSV_mono K0 (fun y_2 K0 => ?_))
    refine r_aload_n (pc := 22) dX3_readCarrier_22 rfl ?_
    refine s_VI (pc := 23) mX3_isName (ci := 3) (a := b0) (As := []) dX3_readCarrier_23 lk_X3_141 in_X3_isName mo_X3_isName ⟨by decide, rfl⟩ ⟨by decide, by decide⟩ (Nat.le_of_ble_eq_true rfl) k_b0 (sp_X3_isName k_b0 ?_)
    refine r_if_ne (pc := 26) (tgt := 35) dX3_readCarrier_26 (by decide) (fun q => ?_) (fun q => ?_)
    · have q := b2i_nz q
      have K0 := K0.1 q
      refine r_aload_n (pc := 35) dX3_readCarrier_35 rfl ?_
      obtain ⟨g_4, K0⟩ := K0
      refine s_getR (pc := 36) dX3_readCarrier_36 fl_X3_21 rfl k_b0 g_4 ?_
      refine r_aload_n (pc := 39) dX3_readCarrier_39 rfl ?_
      obtain ⟨c_5, g_6, K0⟩ := K0
      refine s_getR (pc := 40) dX3_readCarrier_40 fl_X3_35 rfl k_b0 g_6 ?_
      refine r_aload_n (pc := 43) dX3_readCarrier_43 rfl ?_
      refine s_getI (pc := 44) dX3_readCarrier_44 fl_X3_42 rfl k_b0 ?_
      refine r_aload_n (pc := 47) dX3_readCarrier_47 rfl ?_
      refine s_getI (pc := 48) dX3_readCarrier_48 fl_X3_45 rfl k_b0 ?_
      refine s_VI (pc := 51) mX1_carrierNamed (ci := 1) (a := b0_1) (As := [.ref c_5, .int (gi y_2 b0 7), .int (gi y_2 b0 8)]) dX3_readCarrier_51 lk_X3_144 in_X1_carrierNamed mo_X1_carrierNamed ⟨by decide, rfl⟩ ⟨by decide, by decide⟩ (Nat.le_of_ble_eq_true rfl) k_b0_1 (mSI_mono K0 (fun r_8 y_7 K0 => ?_))
      refine r_iconst (pc := 54) (v := (-1)) dX3_readCarrier_54 (by decide) ?_
      refine r_icmp_eq (pc := 55) (tgt := 64) dX3_readCarrier_55 (by decide) (fun q => ?_) (fun q => ?_)
      · have K0 := K0.1 q
        refine r_aload_n (pc := 64) dX3_readCarrier_64 rfl ?_
        obtain ⟨g_10, K0⟩ := K0
        refine s_getR (pc := 65) dX3_readCarrier_65 fl_X3_21 rfl k_b0 g_10 ?_
        refine r_aload_n (pc := 68) dX3_readCarrier_68 rfl ?_
        obtain ⟨c_11, g_12, K0⟩ := K0
        refine s_getR (pc := 69) dX3_readCarrier_69 fl_X3_35 rfl k_b0 g_12 ?_
        refine r_aload_n (pc := 72) dX3_readCarrier_72 rfl ?_
        refine s_getI (pc := 73) dX3_readCarrier_73 fl_X3_42 rfl k_b0 ?_
        refine r_aload_n (pc := 76) dX3_readCarrier_76 rfl ?_
        refine s_getI (pc := 77) dX3_readCarrier_77 fl_X3_45 rfl k_b0 ?_
        refine s_VV (pc := 80) mX1_add (ci := 1) (a := b0_1) (As := [.ref c_11, .int (gi y_7 b0 7), .int (gi y_7 b0 8)]) dX3_readCarrier_80 lk_X3_148 in_X1_add mo_X1_add ⟨by decide, rfl⟩ ⟨by decide, by decide⟩ (Nat.le_of_ble_eq_true rfl) k_b0_1 (mSV_mono K0 (fun y_13 K0 => ?_))
        refine r_aload_n (pc := 83) dX3_readCarrier_83 rfl ?_
        refine s_VV (pc := 84) mX3_advance (ci := 3) (a := b0) (As := []) dX3_readCarrier_84 lk_X3_87 in_X3_advance mo_X3_advance ⟨by decide, rfl⟩ ⟨by decide, by decide⟩ (Nat.le_of_ble_eq_true rfl) k_b0 (mSV_mono K0 (fun y_14 K0 => ?_))
        refine r_aload_n (pc := 87) dX3_readCarrier_87 rfl ?_
        refine r_bipush (pc := 88) (v := 59) dX3_readCarrier_88 (by decide) ?_
        refine s_VI (pc := 90) mX3_takeSign (ci := 3) (a := b0) (As := [.int 59]) dX3_readCarrier_90 lk_X3_106 in_X3_takeSign mo_X3_takeSign ⟨by decide, rfl⟩ ⟨by decide, by decide⟩ (Nat.le_of_ble_eq_true rfl) k_b0 (mSI_mono K0 (fun r_16 y_15 K0 => ?_))
        obtain ⟨p_17, K0⟩ := K0
        exact s_zret rfl p_17 dX3_readCarrier_93 K0
      · have K0 := K0.2 q
        refine r_aload_n (pc := 58) dX3_readCarrier_58 rfl ?_
        refine r_iconst (pc := 59) (v := 3) dX3_readCarrier_59 (by decide) ?_
        refine s_VI (pc := 60) mX3_fail (ci := 3) (a := b0) (As := [.int 3]) dX3_readCarrier_60 lk_X3_125 in_X3_fail mo_X3_fail ⟨by decide, rfl⟩ ⟨by decide, by decide⟩ (Nat.le_of_ble_eq_true rfl) k_b0 (mSI_mono K0 (fun r_19 y_18 K0 => ?_))
        obtain ⟨p_20, K0⟩ := K0
        exact s_zret rfl p_20 dX3_readCarrier_63 K0
    · have q := (b2i_z _).mp q
      have K0 := K0.2 q
      refine r_aload_n (pc := 29) dX3_readCarrier_29 rfl ?_
      refine r_iconst (pc := 30) (v := 1) dX3_readCarrier_30 (by decide) ?_
      refine s_VI (pc := 31) mX3_fail (ci := 3) (a := b0) (As := [.int 1]) dX3_readCarrier_31 lk_X3_125 in_X3_fail mo_X3_fail ⟨by decide, rfl⟩ ⟨by decide, by decide⟩ (Nat.le_of_ble_eq_true rfl) k_b0 (mSI_mono K0 (fun r_22 y_21 K0 => ?_))
      obtain ⟨p_23, K0⟩ := K0
      exact s_zret rfl p_23 dX3_readCarrier_34 K0
  · have K0 := K0.2 q
    refine r_aload_n (pc := 12) dX3_readCarrier_12 rfl ?_
    refine r_iconst (pc := 13) (v := 5) dX3_readCarrier_13 (by decide) ?_
    refine s_VI (pc := 14) mX3_fail (ci := 3) (a := b0) (As := [.int 5]) dX3_readCarrier_14 lk_X3_125 in_X3_fail mo_X3_fail ⟨by decide, rfl⟩ ⟨by decide, by decide⟩ (Nat.le_of_ble_eq_true rfl) k_b0 (mSI_mono K0 (fun r_25 y_24 K0 => ?_))
    obtain ⟨p_26, K0⟩ := K0
    exact s_zret rfl p_26 dX3_readCarrier_17 K0
section
theorem sp_X3_readCarrier {x : Cn} {Q : Int32 → Cn → Prop} {b : TT} {n p : Nat} {T : TT} {lim : Int32} {W C S A : Nat} (hW : 5 ≤ W) (c : CS x b n p T lim W C S A) (k1 : okC b n p T C → ∀ y, SCf x y → CS y b n (nxt b n 3 p) (caT T C (vnm b n (nxt b n 1 p))) lim W (C + 1) S A → Q 1 y) (k0 : ¬ okC b n p T C → ∀ y, SCf x y → Q 0 y) : mSI mX3_readCarrier [.ref 59] KW x Q := by
  have hp := c.2.2.1
  have q1 : nxt b n 1 p ≤ n := nxt_le hp
  have q2 : nxt b n 2 p ≤ n := nxt_le hp
  have q3 : nxt b n 3 p ≤ n := nxt_le hp
  have hC : C ≤ 8 := c.2.2.2.2.1.2.2.2.2.2.2.2.1
  have hn := c.1.1
  refine v_X3_readCarrier_0 k59 c.1.2.2.2.2.2.1 k114 ?_
  rw [c.s2.2.2.2]
  have eC : nI C < 8 ↔ C < 8 := nI_ltI (a := C) (b := 8) (by omega) (by omega)
  refine ⟨fun z => ?_, fun z => sp_X3_fail (fun y f => ⟨Or.inl rfl, k0 (fun o => z (eC.mpr o.1)) y f.sc⟩)⟩
  have o0 := eC.mp z
  refine ad_c c.1 c.2.1 hp (fun y1 f1 B1 t1 => ?_)
  have c1 := c.at f1 t1 q1
  rw [t1.nm q1 hn]
  refine ⟨fun o1 => ⟨B1.2.2.2.2.2.1, 1, B1.2.2.2.2.2.2.1, ?_⟩, fun o1 => sp_X3_fail (fun y f => ⟨Or.inl rfl, k0 (fun o => o1 o.2.1) y (f1.sc.tr f.sc)⟩)⟩
  have hE := tE_b (b := b) q1
  have l := tk_ltr B1.2.2.2.1 q1 o1.1
  have hb1 : ∀ i, tS b n (tE b n p) ≤ i → i < tE b n (tE b n p) → gi y1 1 i = b i := fun i _ h2 => B1.2.2.1 i (Nat.lt_of_lt_of_le h2 hE.2.1)
  have ev : pkv (gi y1 1) (tS b n (tE b n p)) (tE b n (tE b n p)) = vnm b n (tE b n p) := pkv_cg hb1
  rw [t1.1, t1.2.1]
  refine sp_X1_carrierNamed (nb := 114) (bt := 1) (nB := 1200) (T := T) (C := C) k114 B1.2.2.2.2.2.2.2 k115 k1t hC c1.2.2.2.2.2 (ltr_cg hb1 l) (Nat.le_trans hE.2.1 hn) hE.1 (by omega) ?_
  rw [ev]
  refine ⟨fun o2 => ⟨B1.2.2.2.2.2.1, 1, B1.2.2.2.2.2.2.1, ?_⟩, fun o2 => sp_X3_fail (fun y f => ⟨Or.inl rfl, k0 (fun o => o2 o.2.2.1) y (f1.sc.tr f.sc)⟩)⟩
  rw [t1.1, t1.2.1]
  refine sp_X1_add (b := b) (C := C) B1.2.2.2.2.2.2.2 c1.s2.2.2.2 o0 hb1 l hE.1 (Nat.le_trans hE.2.1 hn) (fun y2 f2 h2 h3 => ?_)
  have g2 : SCf x y2 := f1.sc.tr ⟨f2.1, fun a k h => f2.2 a k (by omega) (by omega)⟩
  have t2 : CTk y2 b n (tE b n p) := t1.mv (fun k _ _ => f2.2 59 k (by omega) (by omega))
  have c2 : CS y2 b n (tE b n p) (caT T C (vnm b n (tE b n p))) lim W (C + 1) S A := by
    refine ⟨B1.mv f2.1 (fun a k h => f2.2 a k (by omega) (by omega)), t2, q1, (f2.2 59 11 (by omega) (by omega)).trans c1.2.2.2.1, ?_, h2, fun i hi => ?_⟩
    · refine (c1.2.2.2.2.1.keep f2.1 (fun a k z1 z2 _ => f2.2 a k (by omega) (by omega))).tc (fun i h1 h2 => ?_) (by unfold caT; rw [uT_at]) ⟨by omega, by omega⟩ hW
      unfold caT
      rw [uT_ne _ _ h1, uT_ne _ _ (by omega)]
    · by_cases ci : i = C
      · subst ci
        refine ⟨vnm b n (tE b n p), vnm_b B1.2.2.2.1 q1 o1.1, ?_, fun j hj => ?_⟩
        · unfold caT
          rw [uT_ne _ _ (by omega), uT_at]
        · rw [h3 j hj]
          exact congrArg nI (pkv_dg l j hj).symm
      · obtain ⟨v, v1, v2, v3⟩ := c1.2.2.2.2.2.2 i (by omega)
        refine ⟨v, v1, ?_, fun j hj => by rw [f2.2 115 _ (by omega) (by omega)]; exact v3 j hj⟩
        unfold caT
        rw [uT_ne _ _ (by omega), uT_ne _ _ (by omega)]
        exact v2
  refine ad_c c2.1 t2 q1 (fun y3 f3 B3 t3 => ?_)
  refine sp_X3_takeSign B3 t3 q2 (fun o3 y4 f4 B4 t4 => ⟨Or.inr rfl, ?_⟩) (fun o3 y4 f4 => ⟨Or.inl rfl, k0 (fun o => o3 o.2.2.2) y4 ((g2.tr f3.sc).tr f4.sc)⟩)
  exact k1 ⟨o0, o1, o2, o3⟩ y4 ((g2.tr f3.sc).tr f4.sc) ((c2.at f3 t3 q2).at f4 t4 q3)
/-! who, on which day, at which hour, which way -/
def okP (b : TT) (n p : Nat) (T : TT) (C : Nat) : Prop := nmd b n p ∧ ¬ fnd T C (vnm b n p) = -1 ∧ (∃ d, d < 7 ∧ iw b n (nxt b n 1 p) d) ∧ nb b n (nxt b n 2 p) 0 23 ∧ (iw b n (nxt b n 3 p) 12 ∨ iw b n (nxt b n 3 p) 13)
def wnp (b : TT) (n p : Nat) : Int32 := wno b (tS b n p) (tE b n p)
def wyo (b : TT) (n p : Nat) : Int32 := if wnp b n p = 13 then 1 else 0
def PLc (y : Cn) (b : TT) (n p : Nat) (T : TT) (C : Nat) : Prop := gi y 59 12 = fnd T C (vnm b n p) ∧ gi y 59 13 = wnp b n (nxt b n 1 p) ∧ gi y 59 14 = nI (tV b n (nxt b n 2 p)) ∧ gi y 59 15 = wyo b n (nxt b n 3 p)
end
set_option maxHeartbeats 2000000 in
theorem v_X3_readPlace_0 {K : Sh} {x : Cn} {Q : Int32 → Cn → Prop} {b0 : Nat} {b0_1 : Nat} {b0_5 : Nat} (k_b0 : kk K b0 = some (3, 0)) (g_b0_1 : gr x b0 1 = some b0_1) (g_b0_5 : gr x b0 5 = some b0_5) (k_b0_1 : kk K b0_1 = some (1, 0)) (K0 : ((gi x b0 9 = 1 ∧ gi x b0 10 = -1 ∧ gi x b0 8 - gi x b0 7 ≤ 6) → (mSI mX1_carrierNamed [.ref b0_1, .ref b0_5, .int (gi x b0 7), .int (gi x b0 8)] K x (fun r_3 y_2 => (¬ (gi (ui y_2 b0 12 r_3) b0 12) = (-1) → (mSV mX3_advance [.ref b0] K (ui y_2 b0 12 r_3) (fun y_5 => (¬ (gi y_5 b0 9) = 1 → (mSI mX3_fail [.ref b0, .int 1] K y_5 (fun r_8 y_7 => (r_8 = 0 ∨ r_8 = 1) ∧ (Q r_8 y_7)))) ∧ ((gi y_5 b0 9) = 1 → (((0 ≤ (gi y_5 b0 10) ∧ (gi y_5 b0 10) ≤ 6) → (mSV mX3_advance [.ref b0] K (ui y_5 b0 13 (gi y_5 b0 10)) (fun y_11 => mSI mX3_isNumber [.ref b0, .int 0, .int 23] K y_11 (fun r_13 y_12 => (¬ r_13 = 0 → (mSV mX3_advance [.ref b0] K (ui y_12 b0 14 (gi y_12 b0 10)) (fun y_15 => ((gi y_15 b0 9 = 1 ∧ gi y_15 b0 10 = 12) → ((¬ (gi y_15 b0 9 = 1 ∧ gi y_15 b0 10 = 12) → (mSV mX3_advance [.ref b0] K (ui y_15 b0 15 1) (fun y_18 => Q 1 y_18))) ∧ ((gi y_15 b0 9 = 1 ∧ gi y_15 b0 10 = 12) → (mSV mX3_advance [.ref b0] K (ui y_15 b0 15 0) (fun y_19 => Q 1 y_19))))) ∧ (¬ (gi y_15 b0 9 = 1 ∧ gi y_15 b0 10 = 12) → (((gi y_15 b0 9 = 1 ∧ gi y_15 b0 10 = 13) → ((¬ (gi y_15 b0 9 = 1 ∧ gi y_15 b0 10 = 12) → (mSV mX3_advance [.ref b0] K (ui y_15 b0 15 1) (fun y_22 => Q 1 y_22))) ∧ ((gi y_15 b0 9 = 1 ∧ gi y_15 b0 10 = 12) → (mSV mX3_advance [.ref b0] K (ui y_15 b0 15 0) (fun y_23 => Q 1 y_23))))) ∧ (¬ (gi y_15 b0 9 = 1 ∧ gi y_15 b0 10 = 13) → (mSI mX3_fail [.ref b0, .int 1] K y_15 (fun r_25 y_24 => (r_25 = 0 ∨ r_25 = 1) ∧ (Q r_25 y_24))))))))) ∧ (r_13 = 0 → (Q 0 y_12)))))) ∧ (¬ (0 ≤ (gi y_5 b0 10) ∧ (gi y_5 b0 10) ≤ 6) → (mSI mX3_fail [.ref b0, .int 1] K y_5 (fun r_28 y_27 => (r_28 = 0 ∨ r_28 = 1) ∧ (Q r_28 y_27))))))))) ∧ ((gi (ui y_2 b0 12 r_3) b0 12) = (-1) → (mSI mX3_fail [.ref b0, .int 4] K (ui y_2 b0 12 r_3) (fun r_31 y_30 => (r_31 = 0 ∨ r_31 = 1) ∧ (Q r_31 y_30))))))) ∧ (¬ (gi x b0 9 = 1 ∧ gi x b0 10 = -1 ∧ gi x b0 8 - gi x b0 7 ≤ 6) → (mSI mX3_fail [.ref b0, .int 1] K x (fun r_34 y_33 => (r_34 = 0 ∨ r_34 = 1) ∧ (Q r_34 y_33))))) : mSI mX3_readPlace [.ref b0] K x Q := by
  refine s_I (by decide) (by simp [Value.category]) (Nat.le_of_ble_eq_true rfl) ?_
  show mGM mX3_readPlace 0 [some (.ref b0)] [] (hp K x) (PI K Q)
  refine r_aload_n (pc := 0) dX3_readPlace_0 rfl ?_
  refine s_VI (pc := 1) mX3_isName (ci := 3) (a := b0) (As := []) dX3_readPlace_1 lk_X3_141 in_X3_isName mo_X3_isName ⟨by decide, rfl⟩ ⟨by decide, by decide⟩ (Nat.le_of_ble_eq_true rfl) k_b0 (sp_X3_isName k_b0 ?_)
  refine r_if_ne (pc := 4) (tgt := 13) dX3_readPlace_4 (by decide) (fun q => ?_) (fun q => ?_)
  · have q := b2i_nz q
    have K0 := K0.1 q
    refine r_aload_n (pc := 13) dX3_readPlace_13 rfl ?_
    refine r_aload_n (pc := 14) dX3_readPlace_14 rfl ?_
    refine s_getR (pc := 15) dX3_readPlace_15 fl_X3_21 rfl k_b0 g_b0_1 ?_
    refine r_aload_n (pc := 18) dX3_readPlace_18 rfl ?_
    refine s_getR (pc := 19) dX3_readPlace_19 fl_X3_35 rfl k_b0 g_b0_5 ?_
    refine r_aload_n (pc := 22) dX3_readPlace_22 rfl ?_
    refine s_getI (pc := 23) dX3_readPlace_23 fl_X3_42 rfl k_b0 ?_
    refine r_aload_n (pc := 26) dX3_readPlace_26 rfl ?_
    refine s_getI (pc := 27) dX3_readPlace_27 fl_X3_45 rfl k_b0 ?_
    refine s_VI (pc := 30) mX1_carrierNamed (ci := 1) (a := b0_1) (As := [.ref b0_5, .int (gi x b0 7), .int (gi x b0 8)]) dX3_readPlace_30 lk_X3_144 in_X1_carrierNamed mo_X1_carrierNamed ⟨by decide, rfl⟩ ⟨by decide, by decide⟩ (Nat.le_of_ble_eq_true rfl) k_b0_1 (mSI_mono K0 (fun r_3 y_2 K0 => ?_))
    refine s_putI (pc := 33) dX3_readPlace_33 fl_X3_57 rfl rfl k_b0 ?_
    refine r_aload_n (pc := 36) dX3_readPlace_36 rfl ?_
    refine s_getI (pc := 37) dX3_readPlace_37 fl_X3_57 rfl k_b0 ?_
    refine r_iconst (pc := 40) (v := (-1)) dX3_readPlace_40 (by decide) ?_
    refine r_icmp_ne (pc := 41) (tgt := 50) dX3_readPlace_41 (by decide) (fun q => ?_) (fun q => ?_)
    · have K0 := K0.1 q
      refine r_aload_n (pc := 50) dX3_readPlace_50 rfl ?_
      refine s_VV (pc := 51) mX3_advance (ci := 3) (a := b0) (As := []) dX3_readPlace_51 lk_X3_87 in_X3_advance mo_X3_advance ⟨by decide, rfl⟩ ⟨by decide, by decide⟩ (Nat.le_of_ble_eq_true rfl) k_b0 (mSV_mono K0 (fun y_5 K0 => ?_))
      refine r_aload_n (pc := 54) dX3_readPlace_54 rfl ?_
      refine s_getI (pc := 55) dX3_readPlace_55 fl_X3_48 rfl k_b0 ?_
      refine r_iconst (pc := 58) (v := 1) dX3_readPlace_58 (by decide) ?_
      refine r_icmp_ne (pc := 59) (tgt := 75) dX3_readPlace_59 (by decide) (fun q => ?_) (fun q => ?_)
      · have K0 := K0.1 q
        refine r_aload_n (pc := 75) dX3_readPlace_75 rfl ?_
        refine r_iconst (pc := 76) (v := 1) dX3_readPlace_76 (by decide) ?_
        refine s_VI (pc := 77) mX3_fail (ci := 3) (a := b0) (As := [.int 1]) dX3_readPlace_77 lk_X3_125 in_X3_fail mo_X3_fail ⟨by decide, rfl⟩ ⟨by decide, by decide⟩ (Nat.le_of_ble_eq_true rfl) k_b0 (mSI_mono K0 (fun r_8 y_7 K0 => ?_))
        obtain ⟨p_9, K0⟩ := K0
        exact s_zret rfl p_9 dX3_readPlace_80 K0
      · have K0 := K0.2 q
        refine r_aload_n (pc := 62) dX3_readPlace_62 rfl ?_
        refine s_getI (pc := 63) dX3_readPlace_63 fl_X3_51 rfl k_b0 ?_
        refine r_iconst (pc := 66) (v := 0) dX3_readPlace_66 (by decide) ?_
        refine r_bipush (pc := 67) (v := 6) dX3_readPlace_67 (by decide) ?_
        refine s_SNI (pc := 69) mX7_isWithin (As := [.int (gi y_5 b0 10), .int 0, .int 6]) dX3_readPlace_69 nl_X3_200 st_X7_isWithin mo_X7_isWithin ⟨by decide, by decide⟩ (Nat.le_of_ble_eq_true rfl) (sp_X7_isWithin  ?_)
        refine r_if_ne (pc := 72) (tgt := 81) dX3_readPlace_72 (by decide) (fun q => ?_) (fun q => ?_)
        · have q := b2i_nz q
          have K0 := K0.1 q
          refine r_aload_n (pc := 81) dX3_readPlace_81 rfl ?_
          refine r_aload_n (pc := 82) dX3_readPlace_82 rfl ?_
          refine s_getI (pc := 83) dX3_readPlace_83 fl_X3_51 rfl k_b0 ?_
          refine s_putI (pc := 86) dX3_readPlace_86 fl_X3_60 rfl rfl k_b0 ?_
          refine r_aload_n (pc := 89) dX3_readPlace_89 rfl ?_
          refine s_VV (pc := 90) mX3_advance (ci := 3) (a := b0) (As := []) dX3_readPlace_90 lk_X3_87 in_X3_advance mo_X3_advance ⟨by decide, rfl⟩ ⟨by decide, by decide⟩ (Nat.le_of_ble_eq_true rfl) k_b0 (mSV_mono K0 (fun y_11 K0 => ?_))
          refine r_aload_n (pc := 93) dX3_readPlace_93 rfl ?_
          refine r_iconst (pc := 94) (v := 0) dX3_readPlace_94 (by decide) ?_
          refine r_bipush (pc := 95) (v := 23) dX3_readPlace_95 (by decide) ?_
          refine s_VI (pc := 97) mX3_isNumber (ci := 3) (a := b0) (As := [.int 0, .int 23]) dX3_readPlace_97 lk_X3_101 in_X3_isNumber mo_X3_isNumber ⟨by decide, rfl⟩ ⟨by decide, by decide⟩ (Nat.le_of_ble_eq_true rfl) k_b0 (mSI_mono K0 (fun r_13 y_12 K0 => ?_))
          refine r_if_ne (pc := 100) (tgt := 105) dX3_readPlace_100 (by decide) (fun q => ?_) (fun q => ?_)
          · have K0 := K0.1 q
            refine r_aload_n (pc := 105) dX3_readPlace_105 rfl ?_
            refine r_aload_n (pc := 106) dX3_readPlace_106 rfl ?_
            refine s_getI (pc := 107) dX3_readPlace_107 fl_X3_51 rfl k_b0 ?_
            refine s_putI (pc := 110) dX3_readPlace_110 fl_X3_63 rfl rfl k_b0 ?_
            refine r_aload_n (pc := 113) dX3_readPlace_113 rfl ?_
            refine s_VV (pc := 114) mX3_advance (ci := 3) (a := b0) (As := []) dX3_readPlace_114 lk_X3_87 in_X3_advance mo_X3_advance ⟨by decide, rfl⟩ ⟨by decide, by decide⟩ (Nat.le_of_ble_eq_true rfl) k_b0 (mSV_mono K0 (fun y_15 K0 => ?_))
            refine r_aload_n (pc := 117) dX3_readPlace_117 rfl ?_
            refine r_bipush (pc := 118) (v := 12) dX3_readPlace_118 (by decide) ?_
            refine s_VI (pc := 120) mX3_isWord (ci := 3) (a := b0) (As := [.int 12]) dX3_readPlace_120 lk_X3_110 in_X3_isWord mo_X3_isWord ⟨by decide, rfl⟩ ⟨by decide, by decide⟩ (Nat.le_of_ble_eq_true rfl) k_b0 (sp_X3_isWord k_b0 ?_)
            refine r_if_ne (pc := 123) (tgt := 141) dX3_readPlace_123 (by decide) (fun q => ?_) (fun q => ?_)
            · have q := b2i_nz q
              have K0 := K0.1 q
              refine r_aload_n (pc := 141) dX3_readPlace_141 rfl ?_
              refine r_aload_n (pc := 142) dX3_readPlace_142 rfl ?_
              refine r_bipush (pc := 143) (v := 12) dX3_readPlace_143 (by decide) ?_
              refine s_VI (pc := 145) mX3_isWord (ci := 3) (a := b0) (As := [.int 12]) dX3_readPlace_145 lk_X3_110 in_X3_isWord mo_X3_isWord ⟨by decide, rfl⟩ ⟨by decide, by decide⟩ (Nat.le_of_ble_eq_true rfl) k_b0 (sp_X3_isWord k_b0 ?_)
              refine r_if_eq (pc := 148) (tgt := 155) dX3_readPlace_148 (by decide) (fun q => ?_) (fun q => ?_)
              · have q := (b2i_z _).mp q
                have K0 := K0.1 q
                refine r_iconst (pc := 155) (v := 1) dX3_readPlace_155 (by decide) ?_
                refine s_putI (pc := 156) dX3_readPlace_156 fl_X3_66 rfl rfl k_b0 ?_
                refine r_aload_n (pc := 159) dX3_readPlace_159 rfl ?_
                refine s_VV (pc := 160) mX3_advance (ci := 3) (a := b0) (As := []) dX3_readPlace_160 lk_X3_87 in_X3_advance mo_X3_advance ⟨by decide, rfl⟩ ⟨by decide, by decide⟩ (Nat.le_of_ble_eq_true rfl) k_b0 (mSV_mono K0 (fun y_18 K0 => ?_))
                refine r_iconst (pc := 163) (v := 1) dX3_readPlace_163 (by decide) ?_
                exact s_zret rfl (by decide) dX3_readPlace_164 K0
              · have q := b2i_nz q
                have K0 := K0.2 q
                refine r_iconst (pc := 151) (v := 0) dX3_readPlace_151 (by decide) ?_
                refine r_goto (pc := 152) (tgt := 156) dX3_readPlace_152 (by decide) ?_
                refine s_putI (pc := 156) dX3_readPlace_156 fl_X3_66 rfl rfl k_b0 ?_
                refine r_aload_n (pc := 159) dX3_readPlace_159 rfl ?_
                refine s_VV (pc := 160) mX3_advance (ci := 3) (a := b0) (As := []) dX3_readPlace_160 lk_X3_87 in_X3_advance mo_X3_advance ⟨by decide, rfl⟩ ⟨by decide, by decide⟩ (Nat.le_of_ble_eq_true rfl) k_b0 (mSV_mono K0 (fun y_19 K0 => ?_))
                refine r_iconst (pc := 163) (v := 1) dX3_readPlace_163 (by decide) ?_
                exact s_zret rfl (by decide) dX3_readPlace_164 K0
            · have q := (b2i_z _).mp q
              have K0 := K0.2 q
              refine r_aload_n (pc := 126) dX3_readPlace_126 rfl ?_
              refine r_bipush (pc := 127) (v := 13) dX3_readPlace_127 (by decide) ?_
              refine s_VI (pc := 129) mX3_isWord (ci := 3) (a := b0) (As := [.int 13]) dX3_readPlace_129 lk_X3_110 in_X3_isWord mo_X3_isWord ⟨by decide, rfl⟩ ⟨by decide, by decide⟩ (Nat.le_of_ble_eq_true rfl) k_b0 (sp_X3_isWord k_b0 ?_)
              refine r_if_ne (pc := 132) (tgt := 141) dX3_readPlace_132 (by decide) (fun q => ?_) (fun q => ?_)
              · have q := b2i_nz q
                have K0 := K0.1 q
                refine r_aload_n (pc := 141) dX3_readPlace_141 rfl ?_
                refine r_aload_n (pc := 142) dX3_readPlace_142 rfl ?_
                refine r_bipush (pc := 143) (v := 12) dX3_readPlace_143 (by decide) ?_
                refine s_VI (pc := 145) mX3_isWord (ci := 3) (a := b0) (As := [.int 12]) dX3_readPlace_145 lk_X3_110 in_X3_isWord mo_X3_isWord ⟨by decide, rfl⟩ ⟨by decide, by decide⟩ (Nat.le_of_ble_eq_true rfl) k_b0 (sp_X3_isWord k_b0 ?_)
                refine r_if_eq (pc := 148) (tgt := 155) dX3_readPlace_148 (by decide) (fun q => ?_) (fun q => ?_)
                · have q := (b2i_z _).mp q
                  have K0 := K0.1 q
                  refine r_iconst (pc := 155) (v := 1) dX3_readPlace_155 (by decide) ?_
                  refine s_putI (pc := 156) dX3_readPlace_156 fl_X3_66 rfl rfl k_b0 ?_
                  refine r_aload_n (pc := 159) dX3_readPlace_159 rfl ?_
                  refine s_VV (pc := 160) mX3_advance (ci := 3) (a := b0) (As := []) dX3_readPlace_160 lk_X3_87 in_X3_advance mo_X3_advance ⟨by decide, rfl⟩ ⟨by decide, by decide⟩ (Nat.le_of_ble_eq_true rfl) k_b0 (mSV_mono K0 (fun y_22 K0 => ?_))
                  refine r_iconst (pc := 163) (v := 1) dX3_readPlace_163 (by decide) ?_
                  exact s_zret rfl (by decide) dX3_readPlace_164 K0
                · have q := b2i_nz q
                  have K0 := K0.2 q
                  refine r_iconst (pc := 151) (v := 0) dX3_readPlace_151 (by decide) ?_
                  refine r_goto (pc := 152) (tgt := 156) dX3_readPlace_152 (by decide) ?_
                  refine s_putI (pc := 156) dX3_readPlace_156 fl_X3_66 rfl rfl k_b0 ?_
                  refine r_aload_n (pc := 159) dX3_readPlace_159 rfl ?_
                  refine s_VV (pc := 160) mX3_advance (ci := 3) (a := b0) (As := []) dX3_readPlace_160 lk_X3_87 in_X3_advance mo_X3_advance ⟨by decide, rfl⟩ ⟨by decide, by decide⟩ (Nat.le_of_ble_eq_true rfl) k_b0 (mSV_mono K0 (fun y_23 K0 => ?_))
                  refine r_iconst (pc := 163) (v := 1) dX3_readPlace_163 (by decide) ?_
                  exact s_zret rfl (by decide) dX3_readPlace_164 K0
              · have q := (b2i_z _).mp q
                have K0 := K0.2 q
                refine r_aload_n (pc := 135) dX3_readPlace_135 rfl ?_
                refine r_iconst (pc := 136) (v := 1) dX3_readPlace_136 (by decide) ?_
                refine s_VI (pc := 137) mX3_fail (ci := 3) (a := b0) (As := [.int 1]) dX3_readPlace_137 lk_X3_125 in_X3_fail mo_X3_fail ⟨by decide, rfl⟩ ⟨by decide, by decide⟩ (Nat.le_of_ble_eq_true rfl) k_b0 (mSI_mono K0 (fun r_25 y_24 K0 => ?_))
                obtain ⟨p_26, K0⟩ := K0
                exact s_zret rfl p_26 dX3_readPlace_140 K0
          · have K0 := K0.2 q
            refine r_iconst (pc := 103) (v := 0) dX3_readPlace_103 (by decide) ?_
            exact s_zret rfl (by decide) dX3_readPlace_104 K0
        · have q := (b2i_z _).mp q
          have K0 := K0.2 q
          refine r_aload_n (pc := 75) dX3_readPlace_75 rfl ?_
          refine r_iconst (pc := 76) (v := 1) dX3_readPlace_76 (by decide) ?_
          refine s_VI (pc := 77) mX3_fail (ci := 3) (a := b0) (As := [.int 1]) dX3_readPlace_77 lk_X3_125 in_X3_fail mo_X3_fail ⟨by decide, rfl⟩ ⟨by decide, by decide⟩ (Nat.le_of_ble_eq_true rfl) k_b0 (mSI_mono K0 (fun r_28 y_27 K0 => ?_))
          obtain ⟨p_29, K0⟩ := K0
          exact s_zret rfl p_29 dX3_readPlace_80 K0
    · have K0 := K0.2 q
      refine r_aload_n (pc := 44) dX3_readPlace_44 rfl ?_
      refine r_iconst (pc := 45) (v := 4) dX3_readPlace_45 (by decide) ?_
      refine s_VI (pc := 46) mX3_fail (ci := 3) (a := b0) (As := [.int 4]) dX3_readPlace_46 lk_X3_125 in_X3_fail mo_X3_fail ⟨by decide, rfl⟩ ⟨by decide, by decide⟩ (Nat.le_of_ble_eq_true rfl) k_b0 (mSI_mono K0 (fun r_31 y_30 K0 => ?_))
      obtain ⟨p_32, K0⟩ := K0
      exact s_zret rfl p_32 dX3_readPlace_49 K0
  · have q := (b2i_z _).mp q
    have K0 := K0.2 q
    refine r_aload_n (pc := 7) dX3_readPlace_7 rfl ?_
    refine r_iconst (pc := 8) (v := 1) dX3_readPlace_8 (by decide) ?_
    refine s_VI (pc := 9) mX3_fail (ci := 3) (a := b0) (As := [.int 1]) dX3_readPlace_9 lk_X3_125 in_X3_fail mo_X3_fail ⟨by decide, rfl⟩ ⟨by decide, by decide⟩ (Nat.le_of_ble_eq_true rfl) k_b0 (mSI_mono K0 (fun r_34 y_33 K0 => ?_))
    obtain ⟨p_35, K0⟩ := K0
    exact s_zret rfl p_35 dX3_readPlace_12 K0
section
theorem sp_X3_readPlace {x : Cn} {Q : Int32 → Cn → Prop} {b : TT} {n p : Nat} {T : TT} {lim : Int32} {W C S A : Nat} (c : CS x b n p T lim W C S A) (k1 : okP b n p T C → ∀ y, SCf x y → CS y b n (nxt b n 4 p) T lim W C S A → PLc y b n p T C → Q 1 y) (k0 : ¬ okP b n p T C → ∀ y, SCf x y → Q 0 y) : mSI mX3_readPlace [.ref 59] KW x Q := by
  have hp := c.2.2.1
  have q1 : nxt b n 1 p ≤ n := nxt_le hp
  have q2 : nxt b n 2 p ≤ n := nxt_le hp
  have q3 : nxt b n 3 p ≤ n := nxt_le hp
  have q4 : nxt b n 4 p ≤ n := nxt_le hp
  have hC : C ≤ 8 := c.2.2.2.2.1.2.2.2.2.2.2.2.1
  have hn := c.1.1
  have t := c.2.1
  refine v_X3_readPlace_0 k59 c.1.2.2.2.2.2.1 c.1.2.2.2.2.2.2.1 k114 ?_
  rw [t.nm hp hn]
  refine ⟨fun o1 => ?_, fun o1 => sp_X3_fail (fun y f => ⟨Or.inl rfl, k0 (fun o => o1 o.1) y f.sc⟩)⟩
  have hE := tE_b (b := b) hp
  have l := tk_ltr c.1.2.2.2.1 hp o1.1
  have hb1 : ∀ i, tS b n p ≤ i → i < tE b n p → gi x 1 i = b i := fun i _ h2 => c.1.2.2.1 i (Nat.lt_of_lt_of_le h2 hE.2.1)
  have ev : pkv (gi x 1) (tS b n p) (tE b n p) = vnm b n p := pkv_cg hb1
  rw [t.1, t.2.1]
  refine sp_X1_carrierNamed (nb := 114) (bt := 1) (nB := 1200) (T := T) (C := C) k114 c.1.2.2.2.2.2.2.2 k115 k1t hC c.2.2.2.2.2 (ltr_cg hb1 l) (Nat.le_trans hE.2.1 hn) hE.1 (by omega) ?_
  rw [ev, gi_ui, if_pos ⟨rfl, rfl⟩]
  have c0 := c.u (k := 12) (v := fnd T C (vnm b n p)) (by omega)
  have f0 : SCf x (ui x 59 12 (fnd T C (vnm b n p))) := (SCf.rf x).u (by omega)
  have p0 : gi (ui x 59 12 (fnd T C (vnm b n p))) 59 12 = fnd T C (vnm b n p) := by rw [gi_ui, if_pos ⟨rfl, rfl⟩]
  generalize ui x 59 12 (fnd T C (vnm b n p)) = u0 at c0 f0 p0
  refine ⟨fun o2 => ?_, fun o2 => sp_X3_fail (fun y f => ⟨Or.inl rfl, k0 (fun o => o.2.1 o2) y (f0.tr f.sc)⟩)⟩
  refine ad_c c0.1 c0.2.1 hp (fun y1 f1 B1 t1 => ?_)
  have c1 := c0.at f1 t1 q1
  have g1 := f0.tr f1.sc
  have ek : gi y1 59 9 = 1 ↔ tK b n (tE b n p) = 1 := t1.k 1 (by omega)
  rw [ek]
  refine ⟨fun z => sp_X3_fail (fun y f => ⟨Or.inl rfl, k0 (fun o => by obtain ⟨d, -, hd⟩ := o.2.2.1; exact z hd.1) y (g1.tr f.sc)⟩), fun z => ?_⟩
  have v10 : gi y1 59 10 = wnp b n (tE b n p) := t1.2.2.2.1 z
  rw [v10]
  have ed : (0 ≤ wnp b n (tE b n p) ∧ wnp b n (tE b n p) ≤ 6) ↔ ∃ d, d < 7 ∧ iw b n (nxt b n 1 p) d := by
    constructor
    · intro h
      obtain ⟨d, hd, e⟩ := inN (n := 7) (by omega) ⟨h.1, Int32.lt_of_le_of_lt h.2 (by decide)⟩
      exact ⟨d, hd, z, e⟩
    · rintro ⟨d, hd, -, e⟩
      have e' : wnp b n (tE b n p) = nI d := e
      rw [e']
      exact ⟨nI_pos' (by omega), nI_le (a := d) (b := 6) (by omega) (by omega)⟩
  rw [ed]
  refine ⟨fun o3 => ?_, fun o3 => sp_X3_fail (fun y f => ⟨Or.inl rfl, k0 (fun o => o3 o.2.2.1) y (g1.tr f.sc)⟩)⟩
  have c1' := c1.u (k := 13) (v := wnp b n (tE b n p)) (by omega)
  have g1' : SCf x (ui y1 59 13 (wnp b n (tE b n p))) := g1.u (by omega)
  have p1 : gi (ui y1 59 13 (wnp b n (tE b n p))) 59 12 = fnd T C (vnm b n p) ∧ gi (ui y1 59 13 (wnp b n (tE b n p))) 59 13 = wnp b n (tE b n p) := ⟨by rw [gi_ui, if_neg (by omega)]; exact (f1.2 59 12 (by omega)).trans p0, by rw [gi_ui, if_pos ⟨rfl, rfl⟩]⟩
  generalize ui y1 59 13 (wnp b n (tE b n p)) = u1 at c1' g1' p1
  refine ad_c c1'.1 c1'.2.1 q1 (fun y2 f2 B2 t2 => ?_)
  have c2 := c1'.at f2 t2 q2
  have g2 := g1'.tr f2.sc
  refine sp_X3_isNumber (lo := 0) (hi := 23) t2 (by omega) (by omega) (fun o4 => ⟨fun _ => ?_, fun z => absurd z (by decide)⟩) (fun o4 y3 f3 => ⟨fun z => absurd rfl z, fun _ => k0 (fun o => o4 o.2.2.2.1) y3 (g2.tr f3.sc)⟩)
  have hv := t2.2.2.2.2.1 o4.1
  rw [(mn5 o4.2.2 (by omega)).1] at hv
  rw [hv]
  have c2' := c2.u (k := 14) (v := nI (tV b n (tE b n (tE b n p)))) (by omega)
  have g2' : SCf x (ui y2 59 14 (nI (tV b n (tE b n (tE b n p))))) := g2.u (by omega)
  have p2 : gi (ui y2 59 14 (nI (tV b n (tE b n (tE b n p))))) 59 12 = fnd T C (vnm b n p) ∧ gi (ui y2 59 14 (nI (tV b n (tE b n (tE b n p))))) 59 13 = wnp b n (tE b n p) ∧ gi (ui y2 59 14 (nI (tV b n (tE b n (tE b n p))))) 59 14 = nI (tV b n (tE b n (tE b n p))) := ⟨by rw [gi_ui, if_neg (by omega)]; exact (f2.2 59 12 (by omega)).trans p1.1, by rw [gi_ui, if_neg (by omega)]; exact (f2.2 59 13 (by omega)).trans p1.2, by rw [gi_ui, if_pos ⟨rfl, rfl⟩]⟩
  generalize ui y2 59 14 (nI (tV b n (tE b n (tE b n p)))) = u2 at c2' g2' p2
  refine ad_c c2'.1 c2'.2.1 q2 (fun y3 f3 B3 t3 => ?_)
  have c3 := c2'.at f3 t3 q3
  have g3 := g2'.tr f3.sc
  have e12 : (gi y3 59 9 = 1 ∧ gi y3 59 10 = 12) ↔ iw b n (nxt b n 3 p) 12 := t3.w 12
  have e13 : (gi y3 59 9 = 1 ∧ gi y3 59 10 = 13) ↔ iw b n (nxt b n 3 p) 13 := t3.w 13
  have fin : ∀ v, v = wyo b n (nxt b n 3 p) → okP b n p T C → mSV mX3_advance [.ref 59] KW (ui y3 59 15 v) (fun y => Q 1 y) := by
    intro v hv ok
    have c3' := c3.u (k := 15) (v := v) (by omega)
    refine ad_c c3'.1 c3'.2.1 q3 (fun y4 f4 B4 t4 => ?_)
    refine k1 ok y4 ((g3.u (by omega)).tr f4.sc) (c3'.at f4 t4 q4) ⟨?_, ?_, ?_, ?_⟩
    · rw [f4.2 59 12 (by omega), gi_ui, if_neg (by omega)]; exact (f3.2 59 12 (by omega)).trans p2.1
    · rw [f4.2 59 13 (by omega), gi_ui, if_neg (by omega)]; exact (f3.2 59 13 (by omega)).trans p2.2.1
    · rw [f4.2 59 14 (by omega), gi_ui, if_neg (by omega)]; exact (f3.2 59 14 (by omega)).trans p2.2.2
    · rw [f4.2 59 15 (by omega), gi_ui, if_pos ⟨rfl, rfl⟩]; exact hv
  rw [e12, e13]
  have w12 : iw b n (nxt b n 3 p) 12 → (0 : Int32) = wyo b n (nxt b n 3 p) := fun h => by
    unfold wyo
    rw [if_neg (fun z => absurd ((show wnp b n (nxt b n 3 p) = nI 12 from h.2).symm.trans z) (by decide))]
  have w13 : iw b n (nxt b n 3 p) 13 → (1 : Int32) = wyo b n (nxt b n 3 p) := fun h => by
    unfold wyo
    rw [if_pos (show wnp b n (nxt b n 3 p) = 13 from h.2)]
  refine ⟨fun o5 => ⟨fun z => absurd o5 z, fun _ => fin 0 (w12 o5) ⟨o1, o2, o3, o4, Or.inl o5⟩⟩, fun n5 => ⟨fun o5 => ⟨fun _ => fin 1 (w13 o5) ⟨o1, o2, o3, o4, Or.inr o5⟩, fun z => absurd z n5⟩, fun m5 => sp_X3_fail (fun y f => ⟨Or.inl rfl, k0 (fun o => o.2.2.2.2.elim n5 m5) y (g3.tr f.sc)⟩)⟩⟩
/-! from week to week -/
def okN (b : TT) (n p W : Nat) : Prop := tK b n p = 2 ∧ sg b n (nxt b n 1 p) 45 ∧ nb b n (nxt b n 2 p) (tV b n p + 4) (W - 1)
end
set_option maxHeartbeats 2000000 in
theorem v_X3_readSpan_0 {K : Sh} {x : Cn} {Q : Int32 → Cn → Prop} {b0 : Nat}  (k_b0 : kk K b0 = some (3, 0)) (K0 : ((gi x b0 9) = 2 → (mSV mX3_advance [.ref b0] K (ui x b0 16 (gi x b0 10)) (fun y_2 => ((gi y_2 b0 9 = 3 ∧ gi y_2 b0 10 = 45) → (mSV mX3_advance [.ref b0] K y_2 (fun y_4 => ∃ c_5 : Nat, gr y_4 b0 0 = some c_5 ∧ (kk K c_5 = some (4, 0) ∧ (mSI mX3_isNumber [.ref b0, .int (((gi y_4 b0 16) + 5) - 1), .int ((gi y_4 c_5 0) - 1)] K y_4 (fun r_9 y_8 => (¬ r_9 = 0 → (mSV mX3_advance [.ref b0] K (ui y_8 b0 17 (gi y_8 b0 10)) (fun y_11 => Q 1 y_11))) ∧ (r_9 = 0 → (Q 0 y_8)))))))) ∧ (¬ (gi y_2 b0 9 = 3 ∧ gi y_2 b0 10 = 45) → (mSI mX3_fail [.ref b0, .int 1] K y_2 (fun r_13 y_12 => (r_13 = 0 ∨ r_13 = 1) ∧ (Q r_13 y_12))))))) ∧ (¬ (gi x b0 9) = 2 → (mSI mX3_fail [.ref b0, .int 1] K x (fun r_16 y_15 => (r_16 = 0 ∨ r_16 = 1) ∧ (Q r_16 y_15))))) : mSI mX3_readSpan [.ref b0] K x Q := by
  refine s_I (by decide) (by simp [Value.category]) (Nat.le_of_ble_eq_true rfl) ?_
  show mGM mX3_readSpan 0 [some (.ref b0)] [] (hp K x) (PI K Q)
  refine r_aload_n (pc := 0) dX3_readSpan_0 rfl ?_
  refine s_getI (pc := 1) dX3_readSpan_1 fl_X3_48 rfl k_b0 ?_
  refine r_iconst (pc := 4) (v := 2) dX3_readSpan_4 (by decide) ?_
  refine r_icmp_eq (pc := 5) (tgt := 14) dX3_readSpan_5 (by decide) (fun q => ?_) (fun q => ?_)
  · have K0 := K0.1 q
    refine r_aload_n (pc := 14) dX3_readSpan_14 rfl ?_
    refine r_aload_n (pc := 15) dX3_readSpan_15 rfl ?_
    refine s_getI (pc := 16) dX3_readSpan_16 fl_X3_51 rfl k_b0 ?_
    refine s_putI (pc := 19) dX3_readSpan_19 fl_X3_69 rfl rfl k_b0 ?_
    refine r_aload_n (pc := 22) dX3_readSpan_22 rfl ?_
    refine s_VV (pc := 23) mX3_advance (ci := 3) (a := b0) (As := []) dX3_readSpan_23 lk_X3_87 in_X3_advance mo_X3_advance ⟨by decide, rfl⟩ ⟨by decide, by decide⟩ (Nat.le_of_ble_eq_true rfl) k_b0 (mSV_mono K0 (fun y_2 K0 => ?_))
    refine r_aload_n (pc := 26) dX3_readSpan_26 rfl ?_
    refine r_bipush (pc := 27) (v := 45) dX3_readSpan_27 (by decide) ?_
    refine s_VI (pc := 29) mX3_isSign (ci := 3) (a := b0) (As := [.int 45]) dX3_readSpan_29 lk_X3_158 in_X3_isSign mo_X3_isSign ⟨by decide, rfl⟩ ⟨by decide, by decide⟩ (Nat.le_of_ble_eq_true rfl) k_b0 (sp_X3_isSign k_b0 ?_)
    refine r_if_ne (pc := 32) (tgt := 41) dX3_readSpan_32 (by decide) (fun q => ?_) (fun q => ?_)
    · have q := b2i_nz q
      have K0 := K0.1 q
      refine r_aload_n (pc := 41) dX3_readSpan_41 rfl ?_
      refine s_VV (pc := 42) mX3_advance (ci := 3) (a := b0) (As := []) dX3_readSpan_42 lk_X3_87 in_X3_advance mo_X3_advance ⟨by decide, rfl⟩ ⟨by decide, by decide⟩ (Nat.le_of_ble_eq_true rfl) k_b0 (mSV_mono K0 (fun y_4 K0 => ?_))
      refine r_aload_n (pc := 45) dX3_readSpan_45 rfl ?_
      refine r_aload_n (pc := 46) dX3_readSpan_46 rfl ?_
      refine s_getI (pc := 47) dX3_readSpan_47 fl_X3_69 rfl k_b0 ?_
      refine r_iconst (pc := 50) (v := 5) dX3_readSpan_50 (by decide) ?_
      refine r_iadd (pc := 51) dX3_readSpan_51 ?_
      refine r_iconst (pc := 52) (v := 1) dX3_readSpan_52 (by decide) ?_
      refine r_isub (pc := 53) dX3_readSpan_53 ?_
      refine r_aload_n (pc := 54) dX3_readSpan_54 rfl ?_
      obtain ⟨c_5, g_6, K0⟩ := K0
      refine s_getR (pc := 55) dX3_readSpan_55 fl_X3_12 rfl k_b0 g_6 ?_
      obtain ⟨e_7, K0⟩ := K0
      refine s_getI (pc := 58) dX3_readSpan_58 fl_X3_105 rfl e_7 ?_
      refine r_iconst (pc := 61) (v := 1) dX3_readSpan_61 (by decide) ?_
      refine r_isub (pc := 62) dX3_readSpan_62 ?_
      refine s_VI (pc := 63) mX3_isNumber (ci := 3) (a := b0) (As := [.int (((gi y_4 b0 16) + 5) - 1), .int ((gi y_4 c_5 0) - 1)]) dX3_readSpan_63 lk_X3_101 in_X3_isNumber mo_X3_isNumber ⟨by decide, rfl⟩ ⟨by decide, by decide⟩ (Nat.le_of_ble_eq_true rfl) k_b0 (mSI_mono K0 (fun r_9 y_8 K0 => ?_))
      refine r_if_ne (pc := 66) (tgt := 71) dX3_readSpan_66 (by decide) (fun q => ?_) (fun q => ?_)
      · have K0 := K0.1 q
        refine r_aload_n (pc := 71) dX3_readSpan_71 rfl ?_
        refine r_aload_n (pc := 72) dX3_readSpan_72 rfl ?_
        refine s_getI (pc := 73) dX3_readSpan_73 fl_X3_51 rfl k_b0 ?_
        refine s_putI (pc := 76) dX3_readSpan_76 fl_X3_72 rfl rfl k_b0 ?_
        refine r_aload_n (pc := 79) dX3_readSpan_79 rfl ?_
        refine s_VV (pc := 80) mX3_advance (ci := 3) (a := b0) (As := []) dX3_readSpan_80 lk_X3_87 in_X3_advance mo_X3_advance ⟨by decide, rfl⟩ ⟨by decide, by decide⟩ (Nat.le_of_ble_eq_true rfl) k_b0 (mSV_mono K0 (fun y_11 K0 => ?_))
        refine r_iconst (pc := 83) (v := 1) dX3_readSpan_83 (by decide) ?_
        exact s_zret rfl (by decide) dX3_readSpan_84 K0
      · have K0 := K0.2 q
        refine r_iconst (pc := 69) (v := 0) dX3_readSpan_69 (by decide) ?_
        exact s_zret rfl (by decide) dX3_readSpan_70 K0
    · have q := (b2i_z _).mp q
      have K0 := K0.2 q
      refine r_aload_n (pc := 35) dX3_readSpan_35 rfl ?_
      refine r_iconst (pc := 36) (v := 1) dX3_readSpan_36 (by decide) ?_
      refine s_VI (pc := 37) mX3_fail (ci := 3) (a := b0) (As := [.int 1]) dX3_readSpan_37 lk_X3_125 in_X3_fail mo_X3_fail ⟨by decide, rfl⟩ ⟨by decide, by decide⟩ (Nat.le_of_ble_eq_true rfl) k_b0 (mSI_mono K0 (fun r_13 y_12 K0 => ?_))
      obtain ⟨p_14, K0⟩ := K0
      exact s_zret rfl p_14 dX3_readSpan_40 K0
  · have K0 := K0.2 q
    refine r_aload_n (pc := 8) dX3_readSpan_8 rfl ?_
    refine r_iconst (pc := 9) (v := 1) dX3_readSpan_9 (by decide) ?_
    refine s_VI (pc := 10) mX3_fail (ci := 3) (a := b0) (As := [.int 1]) dX3_readSpan_10 lk_X3_125 in_X3_fail mo_X3_fail ⟨by decide, rfl⟩ ⟨by decide, by decide⟩ (Nat.le_of_ble_eq_true rfl) k_b0 (mSI_mono K0 (fun r_16 y_15 K0 => ?_))
    obtain ⟨p_17, K0⟩ := K0
    exact s_zret rfl p_17 dX3_readSpan_13 K0
section
theorem sp_X3_readSpan {x : Cn} {Q : Int32 → Cn → Prop} {b : TT} {n p : Nat} {T : TT} {lim : Int32} {W C S A : Nat} (hW : 5 ≤ W) (c : CS x b n p T lim W C S A) (k1 : okN b n p W → ∀ y, SCf x y → CS y b n (nxt b n 3 p) T lim W C S A → (∀ k, 12 ≤ k → k ≤ 15 → gi y 59 k = gi x 59 k) → gi y 59 16 = nI (tV b n p) → gi y 59 17 = nI (tV b n (nxt b n 2 p)) → Q 1 y) (k0 : ¬ okN b n p W → ∀ y, SCf x y → Q 0 y) : mSI mX3_readSpan [.ref 59] KW x Q := by
  have hp := c.2.2.1
  have q1 : nxt b n 1 p ≤ n := nxt_le hp
  have q2 : nxt b n 2 p ≤ n := nxt_le hp
  have q3 : nxt b n 3 p ≤ n := nxt_le hp
  have hW3 : W ≤ 30 := c.2.2.2.2.1.2.2.2.2.2.1
  have t := c.2.1
  have ek : gi x 59 9 = 2 ↔ tK b n p = 2 := t.k 2 (by omega)
  refine v_X3_readSpan_0 k59 ?_
  rw [ek]
  refine ⟨fun o1 => ?_, fun o1 => sp_X3_fail (fun y f => ⟨Or.inl rfl, k0 (fun o => o1 o.1) y f.sc⟩)⟩
  have hv := t.2.2.2.2.1 o1
  rw [hv]
  have c0 := c.u (k := 16) (v := nI (min (tV b n p) 100000)) (by omega)
  have f0 : SCf x (ui x 59 16 (nI (min (tV b n p) 100000))) := (SCf.rf x).u (by omega)
  have p0 : gi (ui x 59 16 (nI (min (tV b n p) 100000))) 59 16 = nI (min (tV b n p) 100000) := by rw [gi_ui, if_pos ⟨rfl, rfl⟩]
  have r0 : ∀ k, 12 ≤ k → k ≤ 15 → gi (ui x 59 16 (nI (min (tV b n p) 100000))) 59 k = gi x 59 k := fun k h1 h2 => by rw [gi_ui, if_neg (by omega)]
  generalize ui x 59 16 (nI (min (tV b n p) 100000)) = u0 at c0 f0 p0 r0
  refine ad_c c0.1 c0.2.1 hp (fun y1 f1 B1 t1 => ?_)
  have c1 := c0.at f1 t1 q1
  have g1 := f0.tr f1.sc
  rw [t1.s 45]
  refine ⟨fun o2 => ?_, fun o2 => sp_X3_fail (fun y f => ⟨Or.inl rfl, k0 (fun o => o2 o.2.1) y (g1.tr f.sc)⟩)⟩
  refine ad_c B1 t1 q1 (fun y2 f2 B2 t2 => ⟨60, B2.2.2.2.2.1, k60, ?_⟩)
  have c2 := c1.at f2 t2 q2
  have g2 := g1.tr f2.sc
  have e16 : gi y2 59 16 = nI (min (tV b n p) 100000) := (f2.2 59 16 (by omega)).trans ((f1.2 59 16 (by omega)).trans p0)
  have hm : min (tV b n p) 100000 ≤ 100000 := Nat.min_le_right _ _
  rw [e16, c2.s2.1, show (5 : Int32) = nI 5 from rfl, nI_add, show (1 : Int32) = nI 1 from rfl, pk_sub (a := min (tV b n p) 100000 + 5) (b := 1) (by omega), pk_sub (a := W) (b := 1) (by omega)]
  have en : nb b n (nxt b n 2 p) (min (tV b n p) 100000 + 5 - 1) (W - 1) ↔ nb b n (nxt b n 2 p) (tV b n p + 4) (W - 1) := by
    unfold nb
    omega
  refine sp_X3_isNumber t2 (by omega) (by omega) (fun o3 => ⟨fun _ => ?_, fun z => absurd z (by decide)⟩) (fun o3 y3 f3 => ⟨fun z => absurd rfl z, fun _ => k0 (fun o => o3 (en.mpr o.2.2)) y3 (g2.tr f3.sc)⟩)
  have o3' := en.mp o3
  have hv2 := t2.2.2.2.2.1 o3.1
  have hs : tV b n p + 4 ≤ 29 := by have h1 := o3'.2.1; have h2 := o3'.2.2; omega
  rw [(mn5 (show tV b n (tE b n (tE b n p)) ≤ 29 from Nat.le_trans o3.2.2 (by omega)) (by omega)).1] at hv2
  rw [hv2]
  have c2' := c2.u (k := 17) (v := nI (tV b n (tE b n (tE b n p)))) (by omega)
  refine ad_c c2'.1 c2'.2.1 q2 (fun y3 f3 B3 t3 => ?_)
  refine k1 ⟨o1, o2, o3'⟩ y3 ((g2.u (by omega)).tr f3.sc) (c2'.at f3 t3 q3) (fun k h1 h2 => ?_) ?_ ?_
  · rw [f3.2 59 k (by omega), gi_ui, if_neg (by omega), f2.2 59 k (by omega), f1.2 59 k (by omega)]; exact r0 k h1 h2
  · rw [f3.2 59 16 (by omega), gi_ui, if_neg (by omega), e16, (mn5 (show tV b n p ≤ 29 by omega) (by omega)).1]
  · rw [f3.2 59 17 (by omega), gi_ui, if_pos ⟨rfl, rfl⟩]; rfl

end

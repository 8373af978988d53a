theorem k117 : kk KW 117 = some (2, 0) := by decide
theorem k172 : kk KW 172 = some (20, 56) := by decide
theorem k173 : kk KW 173 = some (20, 24) := by decide
theorem k174 : kk KW 174 = some (20, 24) := by decide
theorem nI_ne1 {n : Nat} (h : n < 2 ^ 31) : ¬ nI n = -1 := fun e => absurd (nI_pos' h) (by rw [e]; decide)
/-- how many series a carrier has on a day -/
def hN (T : TT) (S : Nat) (c d : Int32) : Int32 := accT (inc (fun s => so T s 0 = c ∧ (d = -1 ∨ so T s 1 = d))) S 0
theorem hN_s (T : TT) (S : Nat) (c d : Int32) : hN T (S + 1) c d = if so T S 0 = c ∧ (d = -1 ∨ so T S 1 = d) then hN T S c d + 1 else hN T S c d := by
  unfold hN
  simp only [accT]
  rfl
theorem hN_cg {T T' : TT} {S : Nat} (h : ∀ s, s < S → so T' s 0 = so T s 0 ∧ so T' s 1 = so T s 1) (c d : Int32) : hN T' S c d = hN T S c d := by
  unfold hN
  refine accT_congr S (fun i a hi => ?_)
  show (if so T' i 0 = c ∧ (d = -1 ∨ so T' i 1 = d) then a + 1 else a) = (if so T i 0 = c ∧ (d = -1 ∨ so T i 1 = d) then a + 1 else a)
  rw [(h i hi).1, (h i hi).2]
abbrev ent (T : TT) (S a : Nat) : Prop := hN T S (ao T a 0) (ao T a 1) < 2
def HLD (y : Cn) (T : TT) (S : Nat) : Prop := ∀ c d, c < 8 → d < 7 → gi y 172 (c * 7 + d) = hN T S (nI c) (nI d)
theorem HLD.inc {y : Cn} {T T' : TT} {S c0 d0 : Nat} (h : HLD y T S) (hc : c0 < 8) (hd : d0 < 7) (h0 : so T' S 0 = nI c0) (h1 : so T' S 1 = nI d0) (hT : ∀ s, s < S → so T' s 0 = so T s 0 ∧ so T' s 1 = so T s 1) : HLD (ui y 172 (c0 * 7 + d0) (gi y 172 (c0 * 7 + d0) + 1)) T' (S + 1) := by
  intro c d hc' hd'
  rw [gi_ui, hN_s, hN_cg hT, h0, h1]
  by_cases e : c = c0 ∧ d = d0
  · rw [if_pos ⟨rfl, by omega⟩, if_pos ⟨by rw [e.1], Or.inr (by rw [e.2])⟩, h c0 d0 hc hd, e.1, e.2]
  · rw [if_neg (by omega), if_neg ?_, h c d hc' hd']
    rintro ⟨g1, g2⟩
    have g3 := (nI_eq (by omega) (by omega)).mp g1
    rcases g2 with g2 | g2
    · exact nI_ne1 (by omega) g2
    · have g4 := (nI_eq (by omega) (by omega)).mp g2
      omega
theorem HLD.mv {x y : Cn} {T : TT} {S : Nat} (h : HLD x T S) (e : ∀ i, gi y 172 i = gi x 172 i) : HLD y T S := fun c d hc hd => by rw [e]; exact h c d hc hd
/-- the pool's own rows -/
def PLf (x : Cn) : Prop := gr x 117 0 = some 118 ∧ gr x 117 1 = some 172 ∧ gr x 117 2 = some 173 ∧ gr x 117 3 = some 174
theorem CRf.pl {x : Cn} (h : CRf x) : PLf x := ⟨h.2.2.2.2.2.2.2.2.2.2.2.2.1, h.2.2.2.2.2.2.2.2.2.2.2.2.2.1, h.2.2.2.2.2.2.2.2.2.2.2.2.2.2.1, h.2.2.2.2.2.2.2.2.2.2.2.2.2.2.2.1⟩
theorem PLf.keep {x y : Cn} (h : PLf x) (e : y.2 = x.2) : PLf y := by
  have hg : ∀ b k, gr y b k = gr x b k := fun b k => by unfold gr; rw [e]
  unfold PLf at h ⊢
  simp only [hg]
  exact h
/-- the ask that comes next -/
def usd (t : TT) (a : Nat) : Bool := decide (¬ t a = -1)
def chS (T : TT) (S : Nat) (u : Nat → Bool) (e : Int32) : Nat → Int32 → Int32 := fun a b => if u a = false ∧ b2i (ent T S a) = e ∧ (b = -1 ∨ ao T b.toNatClampNeg 5 - ao T b.toNatClampNeg 4 < ao T a 5 - ao T a 4) then nI a else b
def chR (T : TT) (S A : Nat) (u : Nat → Bool) (e : Int32) : Int32 := accT (chS T S u e) A (-1)
def chC (T : TT) (S A : Nat) (u : Nat → Bool) (e : Int32) : Int32 := if chR T S A u e = -1 then chR T S A u (if e = 0 then 1 else 0) else chR T S A u e
theorem ch_in {T : TT} {S : Nat} {u : Nat → Bool} {e : Int32} : ∀ n, accT (chS T S u e) n (-1) = -1 ∨ ∃ j, j < n ∧ u j = false ∧ accT (chS T S u e) n (-1) = nI j := by
  intro n
  induction n with
  | zero => exact Or.inl rfl
  | succ n ih =>
    simp only [accT]
    generalize accT (chS T S u e) n (-1) = b at ih ⊢
    unfold chS
    by_cases c : u n = false ∧ b2i (ent T S n) = e ∧ (b = -1 ∨ ao T b.toNatClampNeg 5 - ao T b.toNatClampNeg 4 < ao T n 5 - ao T n 4)
    · rw [if_pos c]; exact Or.inr ⟨n, by omega, c.1, rfl⟩
    · rw [if_neg c]
      rcases ih with g | ⟨j, g1, g2, g3⟩
      · exact Or.inl g
      · exact Or.inr ⟨j, by omega, g2, g3⟩
theorem ch_ex {T : TT} {S : Nat} {u : Nat → Bool} {e : Int32} {j : Nat} (h1 : u j = false) (h2 : b2i (ent T S j) = e) : ∀ n, n < 2 ^ 31 → j < n → ¬ accT (chS T S u e) n (-1) = -1 := by
  intro n
  induction n with
  | zero => intro _ h; omega
  | succ n ih =>
    intro hn hj
    simp only [accT]
    generalize accT (chS T S u e) n (-1) = b at ih ⊢
    unfold chS
    by_cases c : u n = false ∧ b2i (ent T S n) = e ∧ (b = -1 ∨ ao T b.toNatClampNeg 5 - ao T b.toNatClampNeg 4 < ao T n 5 - ao T n 4)
    · rw [if_pos c]; exact nI_ne1 (by omega)
    · rw [if_neg c]
      by_cases hjn : j = n
      · subst hjn
        exact fun g => c ⟨h1, h2, Or.inl g⟩
      · exact ih (by omega) (by omega)
theorem chC_ok {T : TT} {S A : Nat} {u : Nat → Bool} {e : Int32} (he : e = 0 ∨ e = 1) (hA : A ≤ 24) {j : Nat} (hj : j < A) (hu : u j = false) : ∃ a, a < A ∧ u a = false ∧ chC T S A u e = nI a := by
  unfold chC chR
  by_cases c : accT (chS T S u e) A (-1) = -1
  · rw [if_pos c]
    have hne : ¬ b2i (ent T S j) = e := fun g => ch_ex hu g A (by omega) hj c
    have h2 : b2i (ent T S j) = (if e = 0 then 1 else 0) := by
      rcases he with rfl | rfl
      · rw [if_pos rfl]; exact (b2i_01 _).resolve_left hne
      · rw [if_neg (by decide)]; exact (b2i_01 _).resolve_right hne
    rcases ch_in (T := T) (S := S) (u := u) (e := if e = 0 then 1 else 0) A with g | ⟨a, g1, g2, g3⟩
    · exact absurd g (ch_ex hu h2 A (by omega) hj)
    · exact ⟨a, g1, g2, g3⟩
  · rw [if_neg c]
    rcases ch_in (T := T) (S := S) (u := u) (e := e) A with g | ⟨a, g1, g2, g3⟩
    · exact absurd g c
    · exact ⟨a, g1, g2, g3⟩
set_option maxHeartbeats 2000000 in
theorem v_X2_allAsks_0 {K : Sh} {x : Cn} {Q : Int32 → Cn → Prop} {b0 : Nat} {b0_0 : Nat} (k_b0 : kk K b0 = some (2, 0)) (g_b0_0 : gr x b0 0 = some b0_0) (k_b0_0 : kk K b0_0 = some (4, 0)) (K0 : Q ((1 <<< ((gi x b0_0 4) &&& 31)) - 1) x) : mSI mX2_allAsks [.ref b0] K x Q := by
  refine s_I (by decide) (by simp [Value.category]) (Nat.le_of_ble_eq_true rfl) ?_
  show mGM mX2_allAsks 0 [some (.ref b0)] [] (hp K x) (PI K Q)
  refine r_iconst (pc := 0) (v := 1) dX2_allAsks_0 (by decide) ?_
  refine r_aload_n (pc := 1) dX2_allAsks_1 rfl ?_
  refine s_getR (pc := 2) dX2_allAsks_2 fl_X2_12 rfl k_b0 g_b0_0 ?_
  refine s_getI (pc := 5) dX2_allAsks_5 fl_X2_53 rfl k_b0_0 ?_
  refine r_ishl (pc := 8) dX2_allAsks_8 ?_
  refine r_iconst (pc := 9) (v := 1) dX2_allAsks_9 (by decide) ?_
  refine r_isub (pc := 10) dX2_allAsks_10 ?_
  exact s_iret rfl dX2_allAsks_11 K0
set_option maxHeartbeats 2000000 in
theorem v_X2_isEntrants_0 {K : Sh} {x : Cn} {Q : Int32 → Cn → Prop} {b0 : Nat} {b1 : Nat} {b0_1 : Nat} {n_b0_1 : Nat} (k_b0 : kk K b0 = some (2, 0)) (g_b0_1 : gr x b0 1 = some b0_1) (k_b1 : kk K b1 = some (0, 0)) (k_b0_1 : kk K b0_1 = some (20, n_b0_1)) (K0 : vp_in (((gi x b1 0) * 7) + (gi x b1 1)) n_b0_1 ∧ ((2 ≤ (gi x b0_1 ((((gi x b1 0) * 7) + (gi x b1 1)) : Int32).toNatClampNeg) → (Q 0 x)) ∧ (¬ 2 ≤ (gi x b0_1 ((((gi x b1 0) * 7) + (gi x b1 1)) : Int32).toNatClampNeg) → (Q 1 x)))) : mSI mX2_isEntrants [.ref b0, .ref b1] K x Q := by
  refine s_I (by decide) (by simp [Value.category]) (Nat.le_of_ble_eq_true rfl) ?_
  show mGM mX2_isEntrants 0 [some (.ref b0), some (.ref b1)] [] (hp K x) (PI K Q)
  refine r_aload_n (pc := 0) dX2_isEntrants_0 rfl ?_
  refine s_getR (pc := 1) dX2_isEntrants_1 fl_X2_18 rfl k_b0 g_b0_1 ?_
  refine r_aload_n (pc := 4) dX2_isEntrants_4 rfl ?_
  refine s_getI (pc := 5) dX2_isEntrants_5 fl_X2_78 rfl k_b1 ?_
  refine r_bipush (pc := 8) (v := 7) dX2_isEntrants_8 (by decide) ?_
  refine r_imul (pc := 10) dX2_isEntrants_10 ?_
  refine r_aload_n (pc := 11) dX2_isEntrants_11 rfl ?_
  refine s_getI (pc := 12) dX2_isEntrants_12 fl_X2_81 rfl k_b1 ?_
  refine r_iadd (pc := 15) dX2_isEntrants_15 ?_
  obtain ⟨i_1, K0⟩ := K0
  refine s_iald (pc := 16) dX2_isEntrants_16 k_b0_1 i_1 ?_
  refine r_iconst (pc := 17) (v := 2) dX2_isEntrants_17 (by decide) ?_
  refine r_icmp_ge (pc := 18) (tgt := 25) dX2_isEntrants_18 (by decide) (fun q => ?_) (fun q => ?_)
  · have K0 := K0.1 q
    refine r_iconst (pc := 25) (v := 0) dX2_isEntrants_25 (by decide) ?_
    exact s_zret rfl (by decide) dX2_isEntrants_26 K0
  · have K0 := K0.2 q
    refine r_iconst (pc := 21) (v := 1) dX2_isEntrants_21 (by decide) ?_
    refine r_goto (pc := 22) (tgt := 26) dX2_isEntrants_22 (by decide) ?_
    exact s_zret rfl (by decide) dX2_isEntrants_26 K0
section
theorem sp_X2_isEntrants {x : Cn} {Q : Int32 → Cn → Prop} {T : TT} {C W S a p : Nat} (P : PLf x) (hl : HLD x T S) (hC : C ≤ 8) (kp : kk KW p = some (0, 0)) (ha : ASR x p T a) (w : Was T C W a) (k : Q (b2i (ent T S a)) x) : mSI mX2_isEntrants [.ref 117, .ref p] KW x Q := by
  obtain ⟨⟨c, hc, ec⟩, ⟨d, hd, ed⟩, -⟩ := w
  refine v_X2_isEntrants_0 k117 P.2.1 kp k172 ?_
  rw [ha 0 (by decide), ha 1 (by decide), ec, ed, show (7 : Int32) = nI 7 by decide, pk_mul, nI_add, nI_clamp (by omega), hl c d (by omega) hd]
  refine ⟨vp_in_nI (by omega) (by decide), fun z => (b2i_k k).2 (fun u => ?_), fun z => (b2i_k k).1 ?_⟩
  · have u : hN T S (ao T a 0) (ao T a 1) < 2 := u
    rw [ec, ed] at u
    exact Int32.not_le.mpr u z
  · show hN T S (ao T a 0) (ao T a 1) < 2
    rw [ec, ed]
    exact Int32.not_le.mp z
def mst (T : TT) (b : Int32) : Int32 := if b = -1 then 0 else (ao T b.toNatClampNeg 5 - ao T b.toNatClampNeg 4) + 1
end
set_option maxHeartbeats 2000000 in
theorem v_X2_longestOf_0 {K : Sh} {x : Cn} {Q : Int32 → Cn → Prop} {b0 : Nat} {l1 : Int32} {l2 : Int32}   (K0 : GI mX2_longestOf 8 [some (.ref b0), some (.int l1), some (.int l2), some (.int (-1)), some (.int 0), some (.int 0), none, none] [] K x Q) : mSI mX2_longestOf [.ref b0, .int l1, .int l2] K x Q := by
  refine s_I (by decide) (by simp [Value.category]) (Nat.le_of_ble_eq_true rfl) ?_
  show mGM mX2_longestOf 0 [some (.ref b0), some (.int l1), some (.int l2), none, none, none, none, none] [] (hp K x) (PI K Q)
  refine r_iconst (pc := 0) (v := (-1)) dX2_longestOf_0 (by decide) ?_
  refine r_istore_n (pc := 1) dX2_longestOf_1 (by decide) ?_
  refine r_iconst (pc := 2) (L := [some (.ref b0), some (.int l1), some (.int l2), some (.int (-1)), none, none, none, none]) (v := 0) dX2_longestOf_2 (by decide) ?_
  refine r_istore (pc := 3) dX2_longestOf_3 (by decide) ?_
  refine r_iconst (pc := 5) (L := [some (.ref b0), some (.int l1), some (.int l2), some (.int (-1)), some (.int 0), none, none, none]) (v := 0) dX2_longestOf_5 (by decide) ?_
  refine r_istore (pc := 6) dX2_longestOf_6 (by decide) ?_
  exact r_le (L' := [some (.ref b0), some (.int l1), some (.int l2), some (.int (-1)), some (.int 0), some (.int 0), none, none]) ⟨rfl, ⟨rfl, ⟨rfl, ⟨rfl, ⟨rfl, ⟨rfl, trivial⟩⟩⟩⟩⟩⟩ K0
set_option maxHeartbeats 2000000 in
theorem v_X2_longestOf_8 {K : Sh} {x : Cn} {Q : Int32 → Cn → Prop} {b0 : Nat} {l1 : Int32} {l2 : Int32} {l3 : Int32} {l4 : Int32} {l5 : Int32} {b0_0 : Nat} {b0_0_8 : Nat} {n_b0_0_8 : Nat} (k_b0 : kk K b0 = some (2, 0)) (g_b0_0 : gr x b0 0 = some b0_0) (k_b0_0 : kk K b0_0 = some (4, 0)) (g_b0_0_8 : gr x b0_0 8 = some b0_0_8) (k_b0_0_8 : kk K b0_0_8 = some (24, n_b0_0_8)) (K0 : ((gi x b0_0 4) ≤ l5 → (Q l3 x)) ∧ (¬ (gi x b0_0 4) ≤ l5 → (vp_in l5 n_b0_0_8 ∧ (∃ c_3 : Nat, gr x b0_0_8 ((l5 : Int32).toNatClampNeg) = some c_3 ∧ (kk K c_3 = some (0, 0) ∧ ((¬ (f_bit l1 l5) → (GI mX2_longestOf 8 [some (.ref b0), some (.int l1), some (.int l2), some (.int l3), some (.int l4), some (.int (l5 + 1)), none, none] [] K x Q)) ∧ ((f_bit l1 l5) → (((((gi x c_3 5) - (gi x c_3 4)) + 1) ≤ l4 → (GI mX2_longestOf 8 [some (.ref b0), some (.int l1), some (.int l2), some (.int l3), some (.int l4), some (.int (l5 + 1)), none, none] [] K x Q)) ∧ (¬ (((gi x c_3 5) - (gi x c_3 4)) + 1) ≤ l4 → (mSI mX2_isEntrants [.ref b0, .ref c_3] K x (fun r_9 y_8 => (¬ r_9 = l2 → (GI mX2_longestOf 8 [some (.ref b0), some (.int l1), some (.int l2), some (.int l3), some (.int l4), some (.int (l5 + 1)), none, none] [] K y_8 Q)) ∧ (r_9 = l2 → (GI mX2_longestOf 8 [some (.ref b0), some (.int l1), some (.int l2), some (.int l5), some (.int (((gi x c_3 5) - (gi x c_3 4)) + 1)), some (.int (l5 + 1)), none, none] [] K y_8 Q))))))))))))) : GI mX2_longestOf 8 [some (.ref b0), some (.int l1), some (.int l2), some (.int l3), some (.int l4), some (.int l5), none, none] [] K x Q := by
  show mGM mX2_longestOf 8 [some (.ref b0), some (.int l1), some (.int l2), some (.int l3), some (.int l4), some (.int l5), none, none] [] (hp K x) (PI K Q)
  refine r_iload (pc := 8) dX2_longestOf_8 rfl ?_
  refine r_aload_n (pc := 10) dX2_longestOf_10 rfl ?_
  refine s_getR (pc := 11) dX2_longestOf_11 fl_X2_12 rfl k_b0 g_b0_0 ?_
  refine s_getI (pc := 14) dX2_longestOf_14 fl_X2_53 rfl k_b0_0 ?_
  refine r_icmp_ge (pc := 17) (tgt := 86) dX2_longestOf_17 (by decide) (fun q => ?_) (fun q => ?_)
  · have K0 := K0.1 q
    refine r_iload_n (pc := 86) dX2_longestOf_86 rfl ?_
    exact s_iret rfl dX2_longestOf_87 K0
  · have K0 := K0.2 q
    refine r_aload_n (pc := 20) dX2_longestOf_20 rfl ?_
    refine s_getR (pc := 21) dX2_longestOf_21 fl_X2_12 rfl k_b0 g_b0_0 ?_
    refine s_getR (pc := 24) dX2_longestOf_24 fl_X2_85 rfl k_b0_0 g_b0_0_8 ?_
    refine r_iload (pc := 27) dX2_longestOf_27 rfl ?_
    obtain ⟨i_2, K0⟩ := K0
    obtain ⟨c_3, g_4, K0⟩ := K0
    refine s_aald (pc := 29) dX2_longestOf_29 (by decide) rfl k_b0_0_8 i_2 g_4 ?_
    refine r_astore (pc := 30) dX2_longestOf_30 (by decide) ?_
    refine r_aload (pc := 32) (L := [some (.ref b0), some (.int l1), some (.int l2), some (.int l3), some (.int l4), some (.int l5), some (.ref c_3), none]) dX2_longestOf_32 rfl ?_
    obtain ⟨e_5, K0⟩ := K0
    refine s_getI (pc := 34) dX2_longestOf_34 fl_X2_89 rfl e_5 ?_
    refine r_aload (pc := 37) dX2_longestOf_37 rfl ?_
    refine s_getI (pc := 39) dX2_longestOf_39 fl_X2_92 rfl e_5 ?_
    refine r_isub (pc := 42) dX2_longestOf_42 ?_
    refine r_iconst (pc := 43) (v := 1) dX2_longestOf_43 (by decide) ?_
    refine r_iadd (pc := 44) dX2_longestOf_44 ?_
    refine r_istore (pc := 45) dX2_longestOf_45 (by decide) ?_
    refine r_iload_n (pc := 47) (L := [some (.ref b0), some (.int l1), some (.int l2), some (.int l3), some (.int l4), some (.int l5), some (.ref c_3), some (.int (((gi x c_3 5) - (gi x c_3 4)) + 1))]) dX2_longestOf_47 rfl ?_
    refine r_iload (pc := 48) dX2_longestOf_48 rfl ?_
    refine s_SNI (pc := 50) mX7_hasBit (As := [.int l1, .int l5]) dX2_longestOf_50 nl_X2_95 st_X7_hasBit mo_X7_hasBit ⟨by decide, by decide⟩ (Nat.le_of_ble_eq_true rfl) (sp_X7_hasBit  ?_)
    refine r_if_eq (pc := 53) (tgt := 80) dX2_longestOf_53 (by decide) (fun q => ?_) (fun q => ?_)
    · have q := (b2i_z _).mp q
      have K0 := K0.1 q
      refine r_iinc (pc := 80) (v := l5 + 1) dX2_longestOf_80 rfl rfl (by decide) ?_
      refine r_goto (pc := 83) (L := [some (.ref b0), some (.int l1), some (.int l2), some (.int l3), some (.int l4), some (.int (l5 + 1)), some (.ref c_3), some (.int (((gi x c_3 5) - (gi x c_3 4)) + 1))]) (tgt := 8) dX2_longestOf_83 (by decide) ?_
      exact r_le (L' := [some (.ref b0), some (.int l1), some (.int l2), some (.int l3), some (.int l4), some (.int (l5 + 1)), none, none]) ⟨rfl, ⟨rfl, ⟨rfl, ⟨rfl, ⟨rfl, ⟨rfl, trivial⟩⟩⟩⟩⟩⟩ K0
    · have q := b2i_nz q
      have K0 := K0.2 q
      refine r_iload (pc := 56) dX2_longestOf_56 rfl ?_
      refine r_iload (pc := 58) dX2_longestOf_58 rfl ?_
      refine r_icmp_le (pc := 60) (tgt := 80) dX2_longestOf_60 (by decide) (fun q => ?_) (fun q => ?_)
      · have K0 := K0.1 q
        refine r_iinc (pc := 80) (v := l5 + 1) dX2_longestOf_80 rfl rfl (by decide) ?_
        refine r_goto (pc := 83) (L := [some (.ref b0), some (.int l1), some (.int l2), some (.int l3), some (.int l4), some (.int (l5 + 1)), some (.ref c_3), some (.int (((gi x c_3 5) - (gi x c_3 4)) + 1))]) (tgt := 8) dX2_longestOf_83 (by decide) ?_
        exact r_le (L' := [some (.ref b0), some (.int l1), some (.int l2), some (.int l3), some (.int l4), some (.int (l5 + 1)), none, none]) ⟨rfl, ⟨rfl, ⟨rfl, ⟨rfl, ⟨rfl, ⟨rfl, trivial⟩⟩⟩⟩⟩⟩ K0
      · have K0 := K0.2 q
        refine r_aload_n (pc := 63) dX2_longestOf_63 rfl ?_
        refine r_aload (pc := 64) dX2_longestOf_64 rfl ?_
        refine s_VI (pc := 66) mX2_isEntrants (ci := 2) (a := b0) (As := [.ref c_3]) dX2_longestOf_66 lk_X2_99 in_X2_isEntrants mo_X2_isEntrants ⟨by decide, rfl⟩ ⟨by decide, by decide⟩ (Nat.le_of_ble_eq_true rfl) k_b0 (mSI_mono K0 (fun r_9 y_8 K0 => ?_))
        refine r_iload_n (pc := 69) dX2_longestOf_69 rfl ?_
        refine r_icmp_ne (pc := 70) (tgt := 80) dX2_longestOf_70 (by decide) (fun q => ?_) (fun q => ?_)
        · have K0 := K0.1 q
          refine r_iinc (pc := 80) (v := l5 + 1) dX2_longestOf_80 rfl rfl (by decide) ?_
          refine r_goto (pc := 83) (L := [some (.ref b0), some (.int l1), some (.int l2), some (.int l3), some (.int l4), some (.int (l5 + 1)), some (.ref c_3), some (.int (((gi x c_3 5) - (gi x c_3 4)) + 1))]) (tgt := 8) dX2_longestOf_83 (by decide) ?_
          exact r_le (L' := [some (.ref b0), some (.int l1), some (.int l2), some (.int l3), some (.int l4), some (.int (l5 + 1)), none, none]) ⟨rfl, ⟨rfl, ⟨rfl, ⟨rfl, ⟨rfl, ⟨rfl, trivial⟩⟩⟩⟩⟩⟩ K0
        · have K0 := K0.2 q
          refine r_iload (pc := 73) dX2_longestOf_73 rfl ?_
          refine r_istore_n (pc := 75) dX2_longestOf_75 (by decide) ?_
          refine r_iload (pc := 76) (L := [some (.ref b0), some (.int l1), some (.int l2), some (.int l5), some (.int l4), some (.int l5), some (.ref c_3), some (.int (((gi x c_3 5) - (gi x c_3 4)) + 1))]) dX2_longestOf_76 rfl ?_
          refine r_istore (pc := 78) dX2_longestOf_78 (by decide) ?_
          refine r_iinc (pc := 80) (L := [some (.ref b0), some (.int l1), some (.int l2), some (.int l5), some (.int (((gi x c_3 5) - (gi x c_3 4)) + 1)), some (.int l5), some (.ref c_3), some (.int (((gi x c_3 5) - (gi x c_3 4)) + 1))]) (v := l5 + 1) dX2_longestOf_80 rfl rfl (by decide) ?_
          refine r_goto (pc := 83) (L := [some (.ref b0), some (.int l1), some (.int l2), some (.int l5), some (.int (((gi x c_3 5) - (gi x c_3 4)) + 1)), some (.int (l5 + 1)), some (.ref c_3), some (.int (((gi x c_3 5) - (gi x c_3 4)) + 1))]) (tgt := 8) dX2_longestOf_83 (by decide) ?_
          exact r_le (L' := [some (.ref b0), some (.int l1), some (.int l2), some (.int l5), some (.int (((gi x c_3 5) - (gi x c_3 4)) + 1)), some (.int (l5 + 1)), none, none]) ⟨rfl, ⟨rfl, ⟨rfl, ⟨rfl, ⟨rfl, ⟨rfl, trivial⟩⟩⟩⟩⟩⟩ K0
section
end

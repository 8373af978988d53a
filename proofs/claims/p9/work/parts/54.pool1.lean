theorem k117 : kk KW 117 = some (2, 0) := by decide
theorem k172 : kk KW 172 = some (20, 56) := by decide
theorem k173 : kk KW 173 = some (20, 24) := by decide
theorem k174 : kk KW 174 = some (20, 24) := by decide
theorem nI_ne1 {n : Nat} (h : n < 2 ^ 31) : ¬ nI n = -1 := fun e => absurd (nI_pos' h) (by rw [e]; decide)
/-- how many series a carrier has on a day -/
def hN (T : TT) (S : Nat) (c d : Int32) : Int32 := accT (inc (fun s => so T s 0 = c ∧ (d = -1 ∨ so T s 1 = d))) S 0
theorem hN_s (T : TT) (S : Nat) (c d : Int32) : hN T (S + 1) c d = if so T S 0 = c ∧ (d = -1 ∨ so T S 1 = d) then hN T S c d + 1 else hN T S c d := by
  unfold hN
  simp only [accT]
  rfl
theorem hN_cg {T T' : TT} {S : Nat} (h : ∀ s, s < S → so T' s 0 = so T s 0 ∧ so T' s 1 = so T s 1) (c d : Int32) : hN T' S c d = hN T S c d := by
  unfold hN
  refine accT_congr S (fun i a hi => ?_)
  show (if so T' i 0 = c ∧ (d = -1 ∨ so T' i 1 = d) then a + 1 else a) = (if so T i 0 = c ∧ (d = -1 ∨ so T i 1 = d) then a + 1 else a)
  rw [(h i hi).1, (h i hi).2]
abbrev ent (T : TT) (S a : Nat) : Prop := hN T S (ao T a 0) (ao T a 1) < 2
def HLD (y : Cn) (T : TT) (S : Nat) : Prop := ∀ c d, c < 8 → d < 7 → gi y 172 (c * 7 + d) = hN T S (nI c) (nI d)
theorem HLD.inc {y : Cn} {T T' : TT} {S c0 d0 : Nat} (h : HLD y T S) (hc : c0 < 8) (hd : d0 < 7) (h0 : so T' S 0 = nI c0) (h1 : so T' S 1 = nI d0) (hT : ∀ s, s < S → so T' s 0 = so T s 0 ∧ so T' s 1 = so T s 1) : HLD (ui y 172 (c0 * 7 + d0) (gi y 172 (c0 * 7 + d0) + 1)) T' (S + 1) := by
  intro c d hc' hd'
  rw [gi_ui, hN_s, hN_cg hT, h0, h1]
  by_cases e : c = c0 ∧ d = d0
  · rw [if_pos ⟨rfl, by omega⟩, if_pos ⟨by rw [e.1], Or.inr (by rw [e.2])⟩, h c0 d0 hc hd, e.1, e.2]
  · rw [if_neg (by omega), if_neg ?_, h c d hc' hd']
    rintro ⟨g1, g2⟩
    have g3 := (nI_eq (by omega) (by omega)).mp g1
    rcases g2 with g2 | g2
    · exact nI_ne1 (by omega) g2
    · have g4 := (nI_eq (by omega) (by omega)).mp g2
      omega
theorem HLD.mv {x y : Cn} {T : TT} {S : Nat} (h : HLD x T S) (e : ∀ i, gi y 172 i = gi x 172 i) : HLD y T S := fun c d hc hd => by rw [e]; exact h c d hc hd
/-- the pool's own rows -/
def PLf (x : Cn) : Prop := gr x 117 0 = some 118 ∧ gr x 117 1 = some 172 ∧ gr x 117 2 = some 173 ∧ gr x 117 3 = some 174
theorem CRf.pl {x : Cn} (h : CRf x) : PLf x := ⟨h.2.2.2.2.2.2.2.2.2.2.2.2.1, h.2.2.2.2.2.2.2.2.2.2.2.2.2.1, h.2.2.2.2.2.2.2.2.2.2.2.2.2.2.1, h.2.2.2.2.2.2.2.2.2.2.2.2.2.2.2.1⟩
theorem PLf.keep {x y : Cn} (h : PLf x) (e : y.2 = x.2) : PLf y := by
  have hg : ∀ b k, gr y b k = gr x b k := fun b k => by unfold gr; rw [e]
  unfold PLf at h ⊢
  simp only [hg]
  exact h
/-- the ask that comes next -/
def usd (t : TT) (a : Nat) : Bool := decide (¬ t a = -1)
def chS (T : TT) (S : Nat) (u : Nat → Bool) (e : Int32) : Nat → Int32 → Int32 := fun a b => if u a = false ∧ b2i (ent T S a) = e ∧ (b = -1 ∨ ao T b.toNatClampNeg 5 - ao T b.toNatClampNeg 4 < ao T a 5 - ao T a 4) then nI a else b
def chR (T : TT) (S A : Nat) (u : Nat → Bool) (e : Int32) : Int32 := accT (chS T S u e) A (-1)
def chC (T : TT) (S A : Nat) (u : Nat → Bool) (e : Int32) : Int32 := if chR T S A u e = -1 then chR T S A u (if e = 0 then 1 else 0) else chR T S A u e
theorem ch_in {T : TT} {S : Nat} {u : Nat → Bool} {e : Int32} : ∀ n, accT (chS T S u e) n (-1) = -1 ∨ ∃ j, j < n ∧ u j = false ∧ accT (chS T S u e) n (-1) = nI j := by
  intro n
  induction n with
  | zero => exact Or.inl rfl
  | succ n ih =>
    simp only [accT]
    generalize accT (chS T S u e) n (-1) = b at ih ⊢
    unfold chS
    by_cases c : u n = false ∧ b2i (ent T S n) = e ∧ (b = -1 ∨ ao T b.toNatClampNeg 5 - ao T b.toNatClampNeg 4 < ao T n 5 - ao T n 4)
    · rw [if_pos c]; exact Or.inr ⟨n, by omega, c.1, rfl⟩
    · rw [if_neg c]
      rcases ih with g | ⟨j, g1, g2, g3⟩
      · exact Or.inl g
      · exact Or.inr ⟨j, by omega, g2, g3⟩
theorem ch_ex {T : TT} {S : Nat} {u : Nat → Bool} {e : Int32} {j : Nat} (h1 : u j = false) (h2 : b2i (ent T S j) = e) : ∀ n, n < 2 ^ 31 → j < n → ¬ accT (chS T S u e) n (-1) = -1 := by
  intro n
  induction n with
  | zero => intro _ h; omega
  | succ n ih =>
    intro hn hj
    simp only [accT]
    generalize accT (chS T S u e) n (-1) = b at ih ⊢
    unfold chS
    by_cases c : u n = false ∧ b2i (ent T S n) = e ∧ (b = -1 ∨ ao T b.toNatClampNeg 5 - ao T b.toNatClampNeg 4 < ao T n 5 - ao T n 4)
    · rw [if_pos c]; exact nI_ne1 (by omega)
    · rw [if_neg c]
      by_cases hjn : j = n
      · subst hjn
        exact fun g => c ⟨h1, h2, Or.inl g⟩
      · exact ih (by omega) (by omega)
theorem chC_ok {T : TT} {S A : Nat} {u : Nat → Bool} {e : Int32} (he : e = 0 ∨ e = 1) (hA : A ≤ 24) {j : Nat} (hj : j < A) (hu : u j = false) : ∃ a, a < A ∧ u a = false ∧ chC T S A u e = nI a := by
  unfold chC chR
  by_cases c : accT (chS T S u e) A (-1) = -1
  · rw [if_pos c]
    have hne : ¬ b2i (ent T S j) = e := fun g => ch_ex hu g A (by omega) hj c
    have h2 : b2i (ent T S j) = (if e = 0 then 1 else 0) := by
      rcases he with rfl | rfl
      · rw [if_pos rfl]; exact (b2i_01 _).resolve_left hne
      · rw [if_neg (by decide)]; exact (b2i_01 _).resolve_right hne
    rcases ch_in (T := T) (S := S) (u := u) (e := if e = 0 then 1 else 0) A with g | ⟨a, g1, g2, g3⟩
    · exact absurd g (ch_ex hu h2 A (by omega) hj)
    · exact ⟨a, g1, g2, g3⟩
  · rw [if_neg c]
    rcases ch_in (T := T) (S := S) (u := u) (e := e) A with g | ⟨a, g1, g2, g3⟩
    · exact absurd g c
    · exact ⟨a, g1, g2, g3⟩
set_option maxHeartbeats 2000000 in
theorem v_X2_allAsks_0 {K : Sh} {x : Cn} {Q : Int32 → Cn → Prop} {b0 : Nat} {b0_0 : Nat} (k_b0 : kk K b0 = some (2, 0)) (g_b0_0 : gr x b0 0 = some b0_0) (k_b0_0 : kk K b0_0 = some (4, 0)) (K0 : Q ((1 <<< ((gi x b0_0 4) &&& 31)) - 1) x) : mSI mX2_allAsks [.ref b0] K x Q := by
  refine s_I (by decide) (by simp [Value.category]) (Nat.le_of_ble_eq_true rfl) ?_
  show mGM mX2_allAsks 0 [some (.ref b0)] [] (hp K x) (PI K Q)
  refine r_iconst (pc := 0) (v := 1) dX2_allAsks_0 (by decide) ?_
  refine r_aload_n (pc := 1) dX2_allAsks_1 rfl ?_
  refine s_getR (pc := 2) dX2_allAsks_2 fl_X2_12 rfl k_b0 g_b0_0 ?_
  refine s_getI (pc := 5) dX2_allAsks_5 fl_X2_53 rfl k_b0_0 ?_
  refine r_ishl (pc := 8) dX2_allAsks_8 ?_
  refine r_iconst (pc := 9) (v := 1) dX2_allAsks_9 (by decide) ?_
  refine r_isub (pc := 10) dX2_allAsks_10 ?_
  exact s_iret rfl dX2_allAsks_11 K0
set_option maxHeartbeats 2000000 in
theorem v_X2_isEntrants_0 {K : Sh} {x : Cn} {Q : Int32 → Cn → Prop} {b0 : Nat} {b1 : Nat} {b0_1 : Nat} {n_b0_1 : Nat} (k_b0 : kk K b0 = some (2, 0)) (g_b0_1 : gr x b0 1 = some b0_1) (k_b1 : kk K b1 = some (0, 0)) (k_b0_1 : kk K b0_1 = some (20, n_b0_1)) (K0 : vp_in (((gi x b1 0) * 7) + (gi x b1 1)) n_b0_1 ∧ ((2 ≤ (gi x b0_1 ((((gi x b1 0) * 7) + (gi x b1 1)) : Int32).toNatClampNeg) → (Q 0 x)) ∧ (¬ 2 ≤ (gi x b0_1 ((((gi x b1 0) * 7) + (gi x b1 1)) : Int32).toNatClampNeg) → (Q 1 x)))) : mSI mX2_isEntrants [.ref b0, .ref b1] K x Q := by
  refine s_I (by decide) (by simp [Value.category]) (Nat.le_of_ble_eq_true rfl) ?_
  show mGM mX2_isEntrants 0 [some (.ref b0), some (.ref b1)] [] (hp K x) (PI K Q)
  refine r_aload_n (pc := 0) dX2_isEntrants_0 rfl ?_
  refine s_getR (pc := 1) dX2_isEntrants_1 fl_X2_18 rfl k_b0 g_b0_1 ?_
  refine r_aload_n (pc := 4) dX2_isEntrants_4 rfl ?_
  refine s_getI (pc := 5) dX2_isEntrants_5 fl_X2_78 rfl k_b1 ?_
  refine r_bipush (pc := 8) (v := 7) dX2_isEntrants_8 (by decide) ?_
  refine r_imul (pc := 10) dX2_isEntrants_10 ?_
  refine r_aload_n (pc := 11) dX2_isEntrants_11 rfl ?_
  refine s_getI (pc := 12) dX2_isEntrants_12 fl_X2_81 rfl k_b1 ?_
  refine r_iadd (pc := 15) dX2_isEntrants_15 ?_
  obtain ⟨i_1, K0⟩ := K0
  refine s_iald (pc := 16) dX2_isEntrants_16 k_b0_1 i_1 ?_
  refine r_iconst (pc := 17) (v := 2) dX2_isEntrants_17 (by decide) ?_
  refine r_icmp_ge (pc := 18) (tgt := 25) dX2_isEntrants_18 (by decide) (fun q => ?_) (fun q => ?_)
  · have K0 := K0.1 q
    refine r_iconst (pc := 25) (v := 0) dX2_isEntrants_25 (by decide) ?_
    exact s_zret rfl (by decide) dX2_isEntrants_26 K0
  · have K0 := K0.2 q
    refine r_iconst (pc := 21) (v := 1) dX2_isEntrants_21 (by decide) ?_
    refine r_goto (pc := 22) (tgt := 26) dX2_isEntrants_22 (by decide) ?_
    exact s_zret rfl (by decide) dX2_isEntrants_26 K0
section
theorem sp_X2_isEntrants {x : Cn} {Q : Int32 → Cn → Prop} {T : TT} {C W S a p : Nat} (P : PLf x) (hl : HLD x T S) (hC : C ≤ 8) (kp : kk KW p = some (0, 0)) (ha : ASR x p T a) (w : Was T C W a) (k : Q (b2i (ent T S a)) x) : mSI mX2_isEntrants [.ref 117, .ref p] KW x Q := by
  obtain ⟨⟨c, hc, ec⟩, ⟨d, hd, ed⟩, -⟩ := w
  refine v_X2_isEntrants_0 k117 P.2.1 kp k172 ?_
  rw [ha 0 (by decide), ha 1 (by decide), ec, ed, show (7 : Int32) = nI 7 by decide, pk_mul, nI_add, nI_clamp (by omega), hl c d (by omega) hd]
  refine ⟨vp_in_nI (by omega) (by decide), fun z => (b2i_k k).2 (fun u => ?_), fun z => (b2i_k k).1 ?_⟩
  · have u : hN T S (ao T a 0) (ao T a 1) < 2 := u
    rw [ec, ed] at u
    exact Int32.not_le.mpr u z
  · show hN T S (ao T a 0) (ao T a 1) < 2
    rw [ec, ed]
    exact Int32.not_le.mp z
def mst (T : TT) (b : Int32) : Int32 := if b = -1 then 0 else (ao T b.toNatClampNeg 5 - ao T b.toNatClampNeg 4) + 1
end
set_option maxHeartbeats 2000000 in
theorem v_X2_longestOf_0 {K : Sh} {x : Cn} {Q : Int32 → Cn → Prop} {b0 : Nat} {l1 : Int32} {l2 : Int32}   (K0 : GI mX2_longestOf 8 [some (.ref b0), some (.int l1), some (.int l2), some (.int (-1)), some (.int 0), some (.int 0), none, none] [] K x Q) : mSI mX2_longestOf [.ref b0, .int l1, .int l2] K x Q := by
  refine s_I (by decide) (by simp [Value.category]) (Nat.le_of_ble_eq_true rfl) ?_
  show mGM mX2_longestOf 0 [some (.ref b0), some (.int l1), some (.int l2), none, none, none, none, none] [] (hp K x) (PI K Q)
  refine r_iconst (pc := 0) (v := (-1)) dX2_longestOf_0 (by decide) ?_
  refine r_istore_n (pc := 1) dX2_longestOf_1 (by decide) ?_
  refine r_iconst (pc := 2) (L := [some (.ref b0), some (.int l1), some (.int l2), some (.int (-1)), none, none, none, none]) (v := 0) dX2_longestOf_2 (by decide) ?_
  refine r_istore (pc := 3) dX2_longestOf_3 (by decide) ?_
  refine r_iconst (pc := 5) (L := [some (.ref b0), some (.int l1), some (.int l2), some (.int (-1)), some (.int 0), none, none, none]) (v := 0) dX2_longestOf_5 (by decide) ?_
  refine r_istore (pc := 6) dX2_longestOf_6 (by decide) ?_
  exact r_le (L' := [some (.ref b0), some (.int l1), some (.int l2), some (.int (-1)), some (.int 0), some (.int 0), none, none]) ⟨rfl, ⟨rfl, ⟨rfl, ⟨rfl, ⟨rfl, ⟨rfl, trivial⟩⟩⟩⟩⟩⟩ K0
set_option maxHeartbeats 2000000 in
theorem v_X2_longestOf_8 {K : Sh} {x : Cn} {Q : Int32 → Cn → Prop} {b0 : Nat} {l1 : Int32} {l2 : Int32} {l3 : Int32} {l4 : Int32} {l5 : Int32} {b0_0 : Nat} {b0_0_8 : Nat} {n_b0_0_8 : Nat} (k_b0 : kk K b0 = some (2, 0)) (g_b0_0 : gr x b0 0 = some b0_0) (k_b0_0 : kk K b0_0 = some (4, 0)) (g_b0_0_8 : gr x b0_0 8 = some b0_0_8) (k_b0_0_8 : kk K b0_0_8 = some (24, n_b0_0_8)) (K0 : ((gi x b0_0 4) ≤ l5 → (Q l3 x)) ∧ (¬ (gi x b0_0 4) ≤ l5 → (vp_in l5 n_b0_0_8 ∧ (∃ c_3 : Nat, gr x b0_0_8 ((l5 : Int32).toNatClampNeg) = some c_3 ∧ (kk K c_3 = some (0, 0) ∧ ((¬ (f_bit l1 l5) → (GI mX2_longestOf 8 [some (.ref b0), some (.int l1), some (.int l2), some (.int l3), some (.int l4), some (.int (l5 + 1)), none, none] [] K x Q)) ∧ ((f_bit l1 l5) → (((((gi x c_3 5) - (gi x c_3 4)) + 1) ≤ l4 → (GI mX2_longestOf 8 [some (.ref b0), some (.int l1), some (.int l2), some (.int l3), some (.int l4), some (.int (l5 + 1)), none, none] [] K x Q)) ∧ (¬ (((gi x c_3 5) - (gi x c_3 4)) + 1) ≤ l4 → (mSI mX2_isEntrants [.ref b0, .ref c_3] K x (fun r_9 y_8 => (¬ r_9 = l2 → (GI mX2_longestOf 8 [some (.ref b0), some (.int l1), some (.int l2), some (.int l3), some (.int l4), some (.int (l5 + 1)), none, none] [] K y_8 Q)) ∧ (r_9 = l2 → (GI mX2_longestOf 8 [some (.ref b0), some (.int l1), some (.int l2), some (.int l5), some (.int (((gi x c_3 5) - (gi x c_3 4)) + 1)), some (.int (l5 + 1)), none, none] [] K y_8 Q))))))))))))) : GI mX2_longestOf 8 [some (.ref b0), some (.int l1), some (.int l2), some (.int l3), some (.int l4), some (.int l5), none, none] [] K x Q := by
  show mGM mX2_longestOf 8 [some (.ref b0), some (.int l1), some (.int l2), some (.int l3), some (.int l4), some (.int l5), none, none] [] (hp K x) (PI K Q)
  refine r_iload (pc := 8) dX2_longestOf_8 rfl ?_
  refine r_aload_n (pc := 10) dX2_longestOf_10 rfl ?_
  refine s_getR (pc := 11) dX2_longestOf_11 fl_X2_12 rfl k_b0 g_b0_0 ?_
  refine s_getI (pc := 14) dX2_longestOf_14 fl_X2_53 rfl k_b0_0 ?_
  refine r_icmp_ge (pc := 17) (tgt := 86) dX2_longestOf_17 (by decide) (fun q => ?_) (fun q => ?_)
  · have K0 := K0.1 q
    refine r_iload_n (pc := 86) dX2_longestOf_86 rfl ?_
    exact s_iret rfl dX2_longestOf_87 K0
  · have K0 := K0.2 q
    refine r_aload_n (pc := 20) dX2_longestOf_20 rfl ?_
    refine s_getR (pc := 21) dX2_longestOf_21 fl_X2_12 rfl k_b0 g_b0_0 ?_
    refine s_getR (pc := 24) dX2_longestOf_24 fl_X2_85 rfl k_b0_0 g_b0_0_8 ?_
    refine r_iload (pc := 27) dX2_longestOf_27 rfl ?_
    obtain ⟨i_2, K0⟩ := K0
    obtain ⟨c_3, g_4, K0⟩ := K0
    refine s_aald (pc := 29) dX2_longestOf_29 (by decide) rfl k_b0_0_8 i_2 g_4 ?_
    refine r_astore (pc := 30) dX2_longestOf_30 (by decide) ?_
    refine r_aload (pc := 32) (L := [some (.ref b0), some (.int l1), some (.int l2), some (.int l3), some (.int l4), some (.int l5), some (.ref c_3), none]) dX2_longestOf_32 rfl ?_
    obtain ⟨e_5, K0⟩ := K0
    refine s_getI (pc := 34) dX2_longestOf_34 fl_X2_89 rfl e_5 ?_
    refine r_aload (pc := 37) dX2_longestOf_37 rfl ?_
    refine s_getI (pc := 39) dX2_longestOf_39 fl_X2_92 rfl e_5 ?_
    refine r_isub (pc := 42) dX2_longestOf_42 ?_
    refine r_iconst (pc := 43) (v := 1) dX2_longestOf_43 (by decide) ?_
    refine r_iadd (pc := 44) dX2_longestOf_44 ?_
    refine r_istore (pc := 45) dX2_longestOf_45 (by decide) ?_
    refine r_iload_n (pc := 47) (L := [some (.ref b0), some (.int l1), some (.int l2), some (.int l3), some (.int l4), some (.int l5), some (.ref c_3), some (.int (((gi x c_3 5) - (gi x c_3 4)) + 1))]) dX2_longestOf_47 rfl ?_
    refine r_iload (pc := 48) dX2_longestOf_48 rfl ?_
    refine s_SNI (pc := 50) mX7_hasBit (As := [.int l1, .int l5]) dX2_longestOf_50 nl_X2_95 st_X7_hasBit mo_X7_hasBit ⟨by decide, by decide⟩ (Nat.le_of_ble_eq_true rfl) (sp_X7_hasBit  ?_)
    refine r_if_eq (pc := 53) (tgt := 80) dX2_longestOf_53 (by decide) (fun q => ?_) (fun q => ?_)
    · have q := (b2i_z _).mp q
      have K0 := K0.1 q
      refine r_iinc (pc := 80) (v := l5 + 1) dX2_longestOf_80 rfl rfl (by decide) ?_
      refine r_goto (pc := 83) (L := [some (.ref b0), some (.int l1), some (.int l2), some (.int l3), some (.int l4), some (.int (l5 + 1)), some (.ref c_3), some (.int (((gi x c_3 5) - (gi x c_3 4)) + 1))]) (tgt := 8) dX2_longestOf_83 (by decide) ?_
      exact r_le (L' := [some (.ref b0), some (.int l1), some (.int l2), some (.int l3), some (.int l4), some (.int (l5 + 1)), none, none]) ⟨rfl, ⟨rfl, ⟨rfl, ⟨rfl, ⟨rfl, ⟨rfl, trivial⟩⟩⟩⟩⟩⟩ K0
    · have q := b2i_nz q
      have K0 := K0.2 q
      refine r_iload (pc := 56) dX2_longestOf_56 rfl ?_
      refine r_iload (pc := 58) dX2_longestOf_58 rfl ?_
      refine r_icmp_le (pc := 60) (tgt := 80) dX2_longestOf_60 (by decide) (fun q => ?_) (fun q => ?_)
      · have K0 := K0.1 q
        refine r_iinc (pc := 80) (v := l5 + 1) dX2_longestOf_80 rfl rfl (by decide) ?_
        refine r_goto (pc := 83) (L := [some (.ref b0), some (.int l1), some (.int l2), some (.int l3), some (.int l4), some (.int (l5 + 1)), some (.ref c_3), some (.int (((gi x c_3 5) - (gi x c_3 4)) + 1))]) (tgt := 8) dX2_longestOf_83 (by decide) ?_
        exact r_le (L' := [some (.ref b0), some (.int l1), some (.int l2), some (.int l3), some (.int l4), some (.int (l5 + 1)), none, none]) ⟨rfl, ⟨rfl, ⟨rfl, ⟨rfl, ⟨rfl, ⟨rfl, trivial⟩⟩⟩⟩⟩⟩ K0
      · have K0 := K0.2 q
        refine r_aload_n (pc := 63) dX2_longestOf_63 rfl ?_
        refine r_aload (pc := 64) dX2_longestOf_64 rfl ?_
        refine s_VI (pc := 66) mX2_isEntrants (ci := 2) (a := b0) (As := [.ref c_3]) dX2_longestOf_66 lk_X2_99 in_X2_isEntrants mo_X2_isEntrants ⟨by decide, rfl⟩ ⟨by decide, by decide⟩ (Nat.le_of_ble_eq_true rfl) k_b0 (mSI_mono K0 (fun r_9 y_8 K0 => ?_))
        refine r_iload_n (pc := 69) dX2_longestOf_69 rfl ?_
        refine r_icmp_ne (pc := 70) (tgt := 80) dX2_longestOf_70 (by decide) (fun q => ?_) (fun q => ?_)
        · have K0 := K0.1 q
          refine r_iinc (pc := 80) (v := l5 + 1) dX2_longestOf_80 rfl rfl (by decide) ?_
          refine r_goto (pc := 83) (L := [some (.ref b0), some (.int l1), some (.int l2), some (.int l3), some (.int l4), some (.int (l5 + 1)), some (.ref c_3), some (.int (((gi x c_3 5) - (gi x c_3 4)) + 1))]) (tgt := 8) dX2_longestOf_83 (by decide) ?_
          exact r_le (L' := [some (.ref b0), some (.int l1), some (.int l2), some (.int l3), some (.int l4), some (.int (l5 + 1)), none, none]) ⟨rfl, ⟨rfl, ⟨rfl, ⟨rfl, ⟨rfl, ⟨rfl, trivial⟩⟩⟩⟩⟩⟩ K0
        · have K0 := K0.2 q
          refine r_iload (pc := 73) dX2_longestOf_73 rfl ?_
          refine r_istore_n (pc := 75) dX2_longestOf_75 (by decide) ?_
          refine r_iload (pc := 76) (L := [some (.ref b0), some (.int l1), some (.int l2), some (.int l5), some (.int l4), some (.int l5), some (.ref c_3), some (.int (((gi x c_3 5) - (gi x c_3 4)) + 1))]) dX2_longestOf_76 rfl ?_
          refine r_istore (pc := 78) dX2_longestOf_78 (by decide) ?_
          refine r_iinc (pc := 80) (L := [some (.ref b0), some (.int l1), some (.int l2), some (.int l5), some (.int (((gi x c_3 5) - (gi x c_3 4)) + 1)), some (.int l5), some (.ref c_3), some (.int (((gi x c_3 5) - (gi x c_3 4)) + 1))]) (v := l5 + 1) dX2_longestOf_80 rfl rfl (by decide) ?_
          refine r_goto (pc := 83) (L := [some (.ref b0), some (.int l1), some (.int l2), some (.int l5), some (.int (((gi x c_3 5) - (gi x c_3 4)) + 1)), some (.int (l5 + 1)), some (.ref c_3), some (.int (((gi x c_3 5) - (gi x c_3 4)) + 1))]) (tgt := 8) dX2_longestOf_83 (by decide) ?_
          exact r_le (L' := [some (.ref b0), some (.int l1), some (.int l2), some (.int l5), some (.int (((gi x c_3 5) - (gi x c_3 4)) + 1)), some (.int (l5 + 1)), none, none]) ⟨rfl, ⟨rfl, ⟨rfl, ⟨rfl, ⟨rfl, ⟨rfl, trivial⟩⟩⟩⟩⟩⟩ K0
section
theorem sp_X2_longestOf {x : Cn} {Q : Int32 → Cn → Prop} {T : TT} {W C S A N : Nat} {u : Nat → Bool} {left e : Int32} (P : PLf x) (E : SEB x 118 T W C S A N) (hl : HLD x T S) (hu : ∀ a, a < A → tb left a = !(u a)) (k : Q (chR T S A u e) x) : mSI mX2_longestOf [.ref 117, .int left, .int e] KW x Q := by
  have hn := E.nums
  have hA : A ≤ 24 := hn.2.2.2.2.2.2.2.1
  have hC : C ≤ 8 := hn.2.2.2.2.2.1
  have hW : W ≤ 30 := hn.2.2.2.2.1
  have e0 : mst T (-1) = 0 := if_pos rfl
  have em : ∀ j, j < 24 → mst T (nI j) = (ao T j 5 - ao T j 4) + 1 := fun j hj => by
    unfold mst
    rw [if_neg (nI_ne1 (by omega)), nI_clamp (by omega)]
  have key := lp_acc (chS T S u e) (fun a b => (b = -1 ∨ ∃ j, j < A ∧ b = nI j) → GI mX2_longestOf 8 [some (.ref 117), some (.int left), some (.int e), some (.int b), some (.int (mst T b)), some (.int (nI a)), none, none] [] KW x Q) A (-1) ?_ (fun a b ha n1 => ?_) (Or.inl rfl)
  · rw [e0] at key
    exact v_X2_longestOf_0 key
  · intro _
    exact v_X2_longestOf_8 k117 P.1 (ks0 E.1) E.2.1.2.2.2.1 (ks4 E.1) ⟨fun _ => k, fun z => absurd (by rw [hn.2.2.2.1]; exact Int32.le_refl _) z⟩
  · intro hb
    obtain ⟨p, e1, e2, e3, w⟩ := E.ask ha
    obtain ⟨f, l, f1, f2, f3, f4⟩ := id w.2.2.2.2.1
    have len : ao T a 5 - ao T a 4 = nI (l - f) := by rw [f3, f4]; exact pk_sub (by omega)
    have lm : (ao T a 5 - ao T a 4) + 1 ≤ mst T b ↔ ¬ (b = -1 ∨ ao T b.toNatClampNeg 5 - ao T b.toNatClampNeg 4 < ao T a 5 - ao T a 4) := by
      rw [len, nI_1]
      rcases hb with rfl | ⟨j, hj, rfl⟩
      · rw [e0]
        exact ⟨fun g => absurd ((nI_leI (b := 0) (by omega) (by decide)).mp g) (by omega), fun g => absurd (Or.inl rfl) g⟩
      · obtain ⟨-, -, -, -, ⟨f', l', g1, g2, g3, g4⟩, -⟩ := E.2.2.2.2.2.2.2.2.2.2.2.2.2.2.2.2 j hj
        rw [em j (by omega), nI_clamp (by omega), g3, g4, pk_sub (by omega), nI_1, nI_leI (by omega) (by omega), nI_ltI (by omega) (by omega)]
        constructor
        · rintro h (h2 | h2)
          · exact nI_ne1 (by omega) h2
          · omega
        · intro h
          by_cases c : l - f ≤ l' - f'
          · omega
          · exact absurd (Or.inr (by omega)) h
    refine v_X2_longestOf_8 k117 P.1 (ks0 E.1) E.2.1.2.2.2.1 (ks4 E.1) ⟨fun z => absurd (by rw [hn.2.2.2.1] at z; exact z) (nI_ge ha (by omega)), fun _ => ⟨vp_in_nI (by omega) (by decide), p, by rw [nI_clamp (by omega)]; exact e1, e2, ?_⟩⟩
    rw [f_bit_tb _ (by omega), hu a ha, nI_1, e3 4 (by decide), e3 5 (by decide)]
    refine ⟨fun z => n1 b ?_ hb, fun z1 => ⟨fun z2 => n1 b ?_ hb, fun z2 => sp_X2_isEntrants P hl hC e2 e3 w ⟨fun z3 => n1 b ?_ hb, fun z3 => ?_⟩⟩⟩
    · unfold chS; rw [if_neg (fun g => z (by rw [g.1]; rfl))]
    · unfold chS; rw [if_neg (fun g => lm.mp z2 g.2.2)]
    · unfold chS; rw [if_neg (fun g => z3 g.2.1)]
    · have := n1 (nI a) (by unfold chS; rw [if_pos ⟨by simpa using z1, z3, Classical.byContradiction (fun g => z2 (lm.mpr g))⟩]) (Or.inr ⟨a, ha, rfl⟩)
      rw [em a (by omega)] at this
      exact this
end
set_option maxHeartbeats 2000000 in
theorem v_X2_chosen_0 {K : Sh} {x : Cn} {Q : Int32 → Cn → Prop} {b0 : Nat} {l1 : Int32} {l2 : Int32}  (k_b0 : kk K b0 = some (2, 0)) (K0 : mSI mX2_longestOf [.ref b0, .int l1, .int l2] K x (fun r_2 y_1 => (r_2 = (-1) → ((¬ l2 = 0 → (mSI mX2_longestOf [.ref b0, .int l1, .int 0] K y_1 (fun r_6 y_5 => Q r_6 y_5))) ∧ (l2 = 0 → (mSI mX2_longestOf [.ref b0, .int l1, .int 1] K y_1 (fun r_8 y_7 => Q r_8 y_7))))) ∧ (¬ r_2 = (-1) → (Q r_2 y_1)))) : mSI mX2_chosen [.ref b0, .int l1, .int l2] K x Q := by
  refine s_I (by decide) (by simp [Value.category]) (Nat.le_of_ble_eq_true rfl) ?_
  show mGM mX2_chosen 0 [some (.ref b0), some (.int l1), some (.int l2), none] [] (hp K x) (PI K Q)
  refine r_aload_n (pc := 0) dX2_chosen_0 rfl ?_
  refine r_iload_n (pc := 1) dX2_chosen_1 rfl ?_
  refine r_iload_n (pc := 2) dX2_chosen_2 rfl ?_
  refine s_VI (pc := 3) mX2_longestOf (ci := 2) (a := b0) (As := [.int l1, .int l2]) dX2_chosen_3 lk_X2_82 in_X2_longestOf mo_X2_longestOf ⟨by decide, rfl⟩ ⟨by decide, by decide⟩ (Nat.le_of_ble_eq_true rfl) k_b0 (mSI_mono K0 (fun r_2 y_1 K0 => ?_))
  refine r_istore_n (pc := 6) dX2_chosen_6 (by decide) ?_
  refine r_iload_n (pc := 7) (L := [some (.ref b0), some (.int l1), some (.int l2), some (.int r_2)]) dX2_chosen_7 rfl ?_
  refine r_iconst (pc := 8) (v := (-1)) dX2_chosen_8 (by decide) ?_
  refine r_icmp_eq (pc := 9) (tgt := 16) dX2_chosen_9 (by decide) (fun q => ?_) (fun q => ?_)
  · have K0 := K0.1 q
    refine r_aload_n (pc := 16) dX2_chosen_16 rfl ?_
    refine r_iload_n (pc := 17) dX2_chosen_17 rfl ?_
    refine r_iload_n (pc := 18) dX2_chosen_18 rfl ?_
    refine r_if_ne (pc := 19) (tgt := 26) dX2_chosen_19 (by decide) (fun q => ?_) (fun q => ?_)
    · have K0 := K0.1 q
      refine r_iconst (pc := 26) (v := 0) dX2_chosen_26 (by decide) ?_
      refine s_VI (pc := 27) mX2_longestOf (ci := 2) (a := b0) (As := [.int l1, .int 0]) dX2_chosen_27 lk_X2_82 in_X2_longestOf mo_X2_longestOf ⟨by decide, rfl⟩ ⟨by decide, by decide⟩ (Nat.le_of_ble_eq_true rfl) k_b0 (mSI_mono K0 (fun r_6 y_5 K0 => ?_))
      exact s_iret rfl dX2_chosen_30 K0
    · have K0 := K0.2 q
      refine r_iconst (pc := 22) (v := 1) dX2_chosen_22 (by decide) ?_
      refine r_goto (pc := 23) (tgt := 27) dX2_chosen_23 (by decide) ?_
      refine s_VI (pc := 27) mX2_longestOf (ci := 2) (a := b0) (As := [.int l1, .int 1]) dX2_chosen_27 lk_X2_82 in_X2_longestOf mo_X2_longestOf ⟨by decide, rfl⟩ ⟨by decide, by decide⟩ (Nat.le_of_ble_eq_true rfl) k_b0 (mSI_mono K0 (fun r_8 y_7 K0 => ?_))
      exact s_iret rfl dX2_chosen_30 K0
  · have K0 := K0.2 q
    refine r_iload_n (pc := 12) dX2_chosen_12 rfl ?_
    refine r_goto (pc := 13) (tgt := 30) dX2_chosen_13 (by decide) ?_
    exact s_iret rfl dX2_chosen_30 K0
section
theorem sp_X2_chosen {x : Cn} {Q : Int32 → Cn → Prop} {T : TT} {W C S A N : Nat} {u : Nat → Bool} {left e : Int32} (P : PLf x) (E : SEB x 118 T W C S A N) (hl : HLD x T S) (hu : ∀ a, a < A → tb left a = !(u a)) (k : Q (chC T S A u e) x) : mSI mX2_chosen [.ref 117, .int left, .int e] KW x Q := by
  unfold chC at k
  refine v_X2_chosen_0 k117 (sp_X2_longestOf P E hl hu ⟨fun z => ⟨fun z2 => sp_X2_longestOf P E hl hu ?_, fun z2 => sp_X2_longestOf P E hl hu ?_⟩, fun z => ?_⟩)
  · rw [if_pos z, if_neg z2] at k; exact k
  · rw [if_pos z, if_pos z2] at k; exact k
  · rw [if_neg z] at k; exact k
end
set_option maxHeartbeats 2000000 in
theorem v_X2_countSlots_0 {K : Sh} {x : Cn} {Q : Cn → Prop} {b0 : Nat}   (K0 : GV mX2_countSlots 2 [some (.ref b0), some (.int 0)] [] K x Q) : mSV mX2_countSlots [.ref b0] K x Q := by
  refine s_V (by decide) (by simp [Value.category]) (Nat.le_of_ble_eq_true rfl) ?_
  show mGM mX2_countSlots 0 [some (.ref b0), none] [] (hp K x) (PV K Q)
  refine r_iconst (pc := 0) (v := 0) dX2_countSlots_0 (by decide) ?_
  refine r_istore_n (pc := 1) dX2_countSlots_1 (by decide) ?_
  exact r_le (L' := [some (.ref b0), some (.int 0)]) ⟨rfl, ⟨rfl, trivial⟩⟩ K0
set_option maxHeartbeats 2000000 in
theorem v_X2_countSlots_2 {K : Sh} {x : Cn} {Q : Cn → Prop} {b0 : Nat} {l1 : Int32} {b0_1 : Nat} {n_b0_1 : Nat} (k_b0 : kk K b0 = some (2, 0)) (g_b0_1 : gr x b0 1 = some b0_1) (k_b0_1 : kk K b0_1 = some (20, n_b0_1)) (K0 : ((Int32.ofNat n_b0_1) ≤ l1 → (GV mX2_countSlots 26 [some (.ref b0), some (.int 0)] [] K x Q)) ∧ (¬ (Int32.ofNat n_b0_1) ≤ l1 → (vp_in l1 n_b0_1 ∧ (GV mX2_countSlots 2 [some (.ref b0), some (.int (l1 + 1))] [] K (ui x b0_1 (l1 : Int32).toNatClampNeg 0) Q)))) : GV mX2_countSlots 2 [some (.ref b0), some (.int l1)] [] K x Q := by
  show mGM mX2_countSlots 2 [some (.ref b0), some (.int l1)] [] (hp K x) (PV K Q)
  refine r_iload_n (pc := 2) dX2_countSlots_2 rfl ?_
  refine r_aload_n (pc := 3) dX2_countSlots_3 rfl ?_
  refine s_getR (pc := 4) dX2_countSlots_4 fl_X2_18 rfl k_b0 g_b0_1 ?_
  refine s_alen (pc := 7) dX2_countSlots_7 k_b0_1 (by decide) ?_
  refine r_icmp_ge (pc := 8) (tgt := 24) dX2_countSlots_8 (by decide) (fun q => ?_) (fun q => ?_)
  · have K0 := K0.1 q
    refine r_iconst (pc := 24) (v := 0) dX2_countSlots_24 (by decide) ?_
    refine r_istore_n (pc := 25) dX2_countSlots_25 (by decide) ?_
    exact r_le (L' := [some (.ref b0), some (.int 0)]) ⟨rfl, ⟨rfl, trivial⟩⟩ K0
  · have K0 := K0.2 q
    refine r_aload_n (pc := 11) dX2_countSlots_11 rfl ?_
    refine s_getR (pc := 12) dX2_countSlots_12 fl_X2_18 rfl k_b0 g_b0_1 ?_
    refine r_iload_n (pc := 15) dX2_countSlots_15 rfl ?_
    refine r_iconst (pc := 16) (v := 0) dX2_countSlots_16 (by decide) ?_
    obtain ⟨i_2, K0⟩ := K0
    refine s_iast (pc := 17) dX2_countSlots_17 k_b0_1 i_2 ?_
    refine r_iinc (pc := 18) (v := l1 + 1) dX2_countSlots_18 rfl rfl (by decide) ?_
    refine r_goto (pc := 21) (L := [some (.ref b0), some (.int (l1 + 1))]) (tgt := 2) dX2_countSlots_21 (by decide) ?_
    exact r_le (L' := [some (.ref b0), some (.int (l1 + 1))]) ⟨rfl, ⟨rfl, trivial⟩⟩ K0
set_option maxHeartbeats 2000000 in
theorem v_X2_countSlots_26 {K : Sh} {x : Cn} {Q : Cn → Prop} {b0 : Nat} {l1 : Int32} {b0_0 : Nat} {b0_1 : Nat} {b0_0_7 : Nat} {n_b0_0_7 : Nat} {n_b0_1 : Nat} (k_b0 : kk K b0 = some (2, 0)) (g_b0_0 : gr x b0 0 = some b0_0) (k_b0_0 : kk K b0_0 = some (4, 0)) (g_b0_1 : gr x b0 1 = some b0_1) (g_b0_0_7 : gr x b0_0 7 = some b0_0_7) (k_b0_0_7 : kk K b0_0_7 = some (23, n_b0_0_7)) (k_b0_1 : kk K b0_1 = some (20, n_b0_1)) (K0 : ((gi x b0_0 3) ≤ l1 → (Q x)) ∧ (¬ (gi x b0_0 3) ≤ l1 → (vp_in l1 n_b0_0_7 ∧ (∃ c_3 : Nat, gr x b0_0_7 ((l1 : Int32).toNatClampNeg) = some c_3 ∧ (kk K c_3 = some (5, 0) ∧ (vp_in (((gi x c_3 0) * 7) + (gi x c_3 1)) n_b0_1 ∧ (GV mX2_countSlots 26 [some (.ref b0), some (.int (l1 + 1))] [] K (ui x b0_1 ((((gi x c_3 0) * 7) + (gi x c_3 1)) : Int32).toNatClampNeg ((gi x b0_1 ((((gi x c_3 0) * 7) + (gi x c_3 1)) : Int32).toNatClampNeg) + 1)) Q))))))) : GV mX2_countSlots 26 [some (.ref b0), some (.int l1)] [] K x Q := by
  show mGM mX2_countSlots 26 [some (.ref b0), some (.int l1)] [] (hp K x) (PV K Q)
  refine r_iload_n (pc := 26) dX2_countSlots_26 rfl ?_
  refine r_aload_n (pc := 27) dX2_countSlots_27 rfl ?_
  refine s_getR (pc := 28) dX2_countSlots_28 fl_X2_12 rfl k_b0 g_b0_0 ?_
  refine s_getI (pc := 31) dX2_countSlots_31 fl_X2_63 rfl k_b0_0 ?_
  refine r_icmp_ge (pc := 34) (tgt := 80) dX2_countSlots_34 (by decide) (fun q => ?_) (fun q => ?_)
  · have K0 := K0.1 q
    exact s_ret rfl dX2_countSlots_80 K0
  · have K0 := K0.2 q
    refine r_aload_n (pc := 37) dX2_countSlots_37 rfl ?_
    refine s_getR (pc := 38) dX2_countSlots_38 fl_X2_18 rfl k_b0 g_b0_1 ?_
    refine r_aload_n (pc := 41) dX2_countSlots_41 rfl ?_
    refine s_getR (pc := 42) dX2_countSlots_42 fl_X2_12 rfl k_b0 g_b0_0 ?_
    refine s_getR (pc := 45) dX2_countSlots_45 fl_X2_66 rfl k_b0_0 g_b0_0_7 ?_
    refine r_iload_n (pc := 48) dX2_countSlots_48 rfl ?_
    obtain ⟨i_2, K0⟩ := K0
    obtain ⟨c_3, g_4, K0⟩ := K0
    refine s_aald (pc := 49) dX2_countSlots_49 (by decide) rfl k_b0_0_7 i_2 g_4 ?_
    obtain ⟨e_5, K0⟩ := K0
    refine s_getI (pc := 50) dX2_countSlots_50 fl_X2_70 rfl e_5 ?_
    refine r_bipush (pc := 53) (v := 7) dX2_countSlots_53 (by decide) ?_
    refine r_imul (pc := 55) dX2_countSlots_55 ?_
    refine r_aload_n (pc := 56) dX2_countSlots_56 rfl ?_
    refine s_getR (pc := 57) dX2_countSlots_57 fl_X2_12 rfl k_b0 g_b0_0 ?_
    refine s_getR (pc := 60) dX2_countSlots_60 fl_X2_66 rfl k_b0_0 g_b0_0_7 ?_
    refine r_iload_n (pc := 63) dX2_countSlots_63 rfl ?_
    refine s_aald (pc := 64) dX2_countSlots_64 (by decide) rfl k_b0_0_7 i_2 g_4 ?_
    refine s_getI (pc := 65) dX2_countSlots_65 fl_X2_75 rfl e_5 ?_
    refine r_iadd (pc := 68) dX2_countSlots_68 ?_
    refine r_dup2 (pc := 69) dX2_countSlots_69 rfl rfl ?_
    obtain ⟨i_6, K0⟩ := K0
    refine s_iald (pc := 70) dX2_countSlots_70 k_b0_1 i_6 ?_
    refine r_iconst (pc := 71) (v := 1) dX2_countSlots_71 (by decide) ?_
    refine r_iadd (pc := 72) dX2_countSlots_72 ?_
    refine s_iast (pc := 73) dX2_countSlots_73 k_b0_1 i_6 ?_
    refine r_iinc (pc := 74) (v := l1 + 1) dX2_countSlots_74 rfl rfl (by decide) ?_
    refine r_goto (pc := 77) (L := [some (.ref b0), some (.int (l1 + 1))]) (tgt := 26) dX2_countSlots_77 (by decide) ?_
    exact r_le (L' := [some (.ref b0), some (.int (l1 + 1))]) ⟨rfl, ⟨rfl, trivial⟩⟩ K0
section
theorem sp_X2_countSlots {x : Cn} {Q : Cn → Prop} {T : TT} {W C S A N : Nat} (P : PLf x) (E : SEB x 118 T W C S A N) (k : ∀ y, EQx x y 172 → HLD y T S → Q y) : mSV mX2_countSlots [.ref 117] KW x Q := by
  have hC : C ≤ 8 := E.nums.2.2.2.2.2.1
  have hS : S ≤ 24 := E.nums.2.2.2.2.2.2.1
  have key2 : ∀ c s y, s + c = S → EQx x y 172 → HLD y T s → GV mX2_countSlots 26 [some (.ref 117), some (.int (nI s))] [] KW y Q := by
    intro c
    induction c with
    | zero =>
      intro s y hs hy h
      have E2 := E.eqx hy (Or.inr (Or.inr (by decide)))
      have P2 := P.keep hy.1
      have : s = S := by omega
      subst this
      exact v_X2_countSlots_26 k117 P2.1 (ks0 E.1) P2.2.1 E2.2.1.2.2.1 (ks3 E.1) k172 ⟨fun _ => k y hy h, fun z => absurd (by rw [E2.nums.2.2.1]; exact Int32.le_refl _) z⟩
    | succ c ih =>
      intro s y hs hy h
      have E2 := E.eqx hy (Or.inr (Or.inr (by decide)))
      have P2 := P.keep hy.1
      obtain ⟨p, e1, e2, e3, e4, e5, w⟩ := E2.ser (s := s) (by omega)
      obtain ⟨⟨c0, hc0, ec0⟩, ⟨d0, hd0, ed0⟩, -⟩ := w
      refine v_X2_countSlots_26 k117 P2.1 (ks0 E.1) P2.2.1 E2.2.1.2.2.1 (ks3 E.1) k172 ⟨fun z => absurd (by rw [E2.nums.2.2.1] at z; exact z) (nI_ge (by omega) (by omega)), fun _ => ⟨vp_in_nI (by omega) (by decide), p, by rw [nI_clamp (by omega)]; exact e1, e2, ?_⟩⟩
      rw [e3.1 0 (by decide) (by decide), e3.1 1 (by decide) (by decide), ec0, ed0, show (7 : Int32) = nI 7 by decide, pk_mul, nI_add, nI_clamp (by omega), nI_1]
      exact ⟨vp_in_nI (by omega) (by decide), ih (s + 1) _ (by omega) hy.ui (h.inc (by omega) hd0 ec0 ed0 (fun _ _ => ⟨rfl, rfl⟩))⟩
  have key1 : ∀ c m y, m + c = 56 → EQx x y 172 → (∀ i, i < m → gi y 172 i = 0) → GV mX2_countSlots 2 [some (.ref 117), some (.int (nI m))] [] KW y Q := by
    intro c
    induction c with
    | zero =>
      intro m y hm hy h
      have P2 := P.keep hy.1
      have : m = 56 := by omega
      subst this
      exact v_X2_countSlots_2 k117 P2.2.1 k172 ⟨fun _ => key2 S 0 y (by omega) hy (fun c d hc hd => h _ (by omega)), fun z => absurd (Int32.le_refl _) z⟩
    | succ c ih =>
      intro m y hm hy h
      have P2 := P.keep hy.1
      refine v_X2_countSlots_2 k117 P2.2.1 k172 ⟨fun z => absurd z (nI_ge (b := 56) (by omega) (by decide)), fun _ => ?_⟩
      rw [nI_1, nI_clamp (by omega)]
      refine ⟨vp_in_nI (by omega) (by decide), ih (m + 1) _ (by omega) hy.ui (fun i hi => ?_)⟩
      rw [gi_ui]
      by_cases c1 : i = m
      · rw [if_pos ⟨rfl, c1⟩]
      · rw [if_neg (fun u => c1 u.2)]; exact h i (by omega)
  exact v_X2_countSlots_0 (key1 56 0 x (by omega) (EQx.rf x _) (fun i hi => by omega))
theorem tb_alls : ∀ A, A < 25 → ∀ a, a < 32 → tb (((1 : Int32) <<< (nI A &&& 31)) - 1) a = decide (a < A) := by decide
/-- a series comes, of fields f -/
def adT (T : TT) (S : Nat) (f : Nat → Int32) : TT := fun i => if i = 2 then nI (S + 1) else if 62 + 12 * S ≤ i ∧ i < 74 + 12 * S then f (i - (62 + 12 * S)) else T i
theorem so_adT {T : TT} {S k : Nat} {f : Nat → Int32} (hk : k < 12) : so (adT T S f) S k = f k := by
  unfold so adT
  rw [if_neg (by omega), if_pos (by omega)]
  congr 1
  omega
theorem adT_off {T : TT} {S i : Nat} {f : Nat → Int32} (h2 : i ≠ 2) (h : ¬ (62 + 12 * S ≤ i ∧ i < 74 + 12 * S)) : adT T S f i = T i := by
  unfold adT
  rw [if_neg h2, if_neg h]
theorem so_adT' {T : TT} {S s k : Nat} {f : Nat → Int32} (hk : k < 12) (hs : s ≠ S) : so (adT T S f) s k = so T s k := by
  unfold so
  rw [adT_off (by omega) (by omega)]
theorem WFB.add {T : TT} {W C S A N : Nat} {f : Nat → Int32} (F : WFB T W C S A N) (hS : S < 24) (hw : Wse (adT T S f) C W S) : WFB (adT T S f) W C (S + 1) A N := by
  obtain ⟨w1, w2, w3, w4, w5, w6, w7, w8, w9, w10, w11, w12, w13, w14⟩ := F
  refine ⟨by rw [adT_off (by decide) (by omega)]; exact w1, w2, w3, by rw [adT_off (by decide) (by omega)]; exact w4, w5, if_pos rfl, by omega, by rw [adT_off (by decide) (by omega)]; exact w8, w9, by rw [adT_off (by decide) (by omega)]; exact w10, w11, w12, fun s hs => ?_, fun a ha => (w14 a ha).cg (fun k hk => adT_off (by omega) (by omega))⟩
  by_cases c : s = S
  · rw [c]; exact hw
  · exact (w13 s (by omega)).cg (fun k hk => so_adT' hk c)
theorem SEB.addS {x z : Cn} {q p : Nat} {T : TT} {W C S A N : Nat} {f : Nat → Int32} (E : SEB x q T W C S A N) (hS : S < 24) (hp : gr x (q + 3) S = some p) (h1 : z.2 = x.2) (h2 : ∀ b k, q ≤ b → b < q + 54 → b ≠ p → ¬ (b = q ∧ k = 3) → b ≠ q + 5 → gi z b k = gi x b k) (h3 : gi z q 3 = nI (S + 1)) (h4 : ∀ k, k < 12 → gi z p k = f k) (h8 : ∀ k, 8 ≤ k → k < 12 → f k = 0) (hw : Wse (adT T S f) C W S) : SEB z q (adT T S f) W C (S + 1) A N := by
  have F := E.2.2.2.add hS hw
  obtain ⟨e1, e2, ⟨v0, v1, v2, v3, v4, v5, v6, v7⟩, w1, w2, w3, w4, w5, w6, w7, w8, w9, w10, w11, w12, w13, w14⟩ := E
  obtain ⟨r1, r2, r3, r4, r5, r6, r7, r8, r9⟩ := id e2
  have hg : ∀ b k, gr z b k = gr x b k := fun b k => by unfold gr; rw [h1]
  obtain ⟨j, hj, ej⟩ := r6 S hS
  have ep : p = q + 6 + j := Option.some.inj (hp.symm.trans ej)
  have hT : ∀ i, i ≠ 2 → ¬ (62 + 12 * S ≤ i ∧ i < 74 + 12 * S) → adT T S f i = T i := fun i => adT_off
  refine ⟨e1, e2.keep h1, ⟨?_, ?_, ?_, ?_, ?_, ?_, ?_, ?_⟩, F⟩
  · rw [h2 q 0 (by omega) (by omega) (by omega) (by omega) (by omega), hT 0 (by decide) (by omega)]; exact v0
  · rw [h2 q 1 (by omega) (by omega) (by omega) (by omega) (by omega), hT 4 (by decide) (by omega)]; exact v1
  · rw [h2 q 2 (by omega) (by omega) (by omega) (by omega) (by omega), hT 5 (by decide) (by omega)]; exact v2
  · rw [h3]; exact (if_pos rfl).symm
  · rw [h2 q 4 (by omega) (by omega) (by omega) (by omega) (by omega), hT 3 (by decide) (by omega)]; exact v4
  · intro h hh
    rw [h2 (q + 1) h (by omega) (by omega) (by omega) (by omega) (by omega), h2 (q + 2) h (by omega) (by omega) (by omega) (by omega) (by omega), hT _ (by omega) (by omega), hT _ (by omega) (by omega)]
    exact v5 h hh
  · intro s p' hs hp'
    rw [hg] at hp'
    by_cases c : s = S
    · subst c
      have : p' = p := Option.some.inj (hp'.symm.trans hp)
      subst this
      refine ⟨fun k hk _ => by rw [h4 k hk, so_adT hk], ?_⟩
      unfold bas
      rw [h4 7 (by decide), so_adT (by decide), so_adT (by decide), so_adT (by decide), so_adT (by decide), so_adT (by decide), h8 8 (by decide) (by decide), h8 9 (by decide) (by decide), h8 10 (by decide) (by decide), h8 11 (by decide) (by decide)]
      simp
    · have hne : p' ≠ p := fun e => c (r7 s S (by omega) hS (by rw [hp', hp, e]))
      obtain ⟨j', hj', ej'⟩ := r6 s (by omega)
      have ep' : p' = q + 6 + j' := Option.some.inj (hp'.symm.trans ej')
      exact (v6 s p' (by omega) hp').cg (fun k _ => h2 p' k (by omega) (by omega) hne (by omega) (by omega)) (fun k hk => so_adT' hk c)
  · intro a p' ha hp'
    rw [hg] at hp'
    obtain ⟨j', hj', ej'⟩ := r8 a (by omega)
    have ep' : p' = q + 30 + j' := Option.some.inj (hp'.symm.trans ej')
    exact (v7 a p' ha hp').cg (fun k _ => h2 p' k (by omega) (by omega) (by omega) (by omega) (by omega)) (fun k hk => hT _ (by omega) (by omega))
/-- what an ask is granted -/
def grf (T : TT) (a : Nat) (h : Int32) (k : Nat) : Int32 := if k = 0 then ao T a 0 else if k = 1 then ao T a 1 else if k = 2 then h else if k = 3 then ao T a 3 else if k = 4 then 1 else if k = 5 then (if ao T a 4 < T 4 then T 4 else ao T a 4) else if k = 6 then ao T a 5 else if k = 7 then f_span (ao T a 4) (ao T a 5) &&& f_span (T 4) (T 0 - 1) else 0
abbrev grT (T : TT) (S a : Nat) (h : Int32) : TT := adT T S (grf T a h)
theorem mx_nI {f N : Nat} (hf : f < 2 ^ 31) (hN : N < 2 ^ 31) : (if nI f < nI N then nI N else nI f) = nI (if f < N then N else f) := by
  by_cases c : f < N
  · rw [if_pos c, if_pos (nI_lt c hN)]
  · rw [if_neg c, if_neg (nI_nlt (by omega) hf)]
theorem gr_wk {f l N W : Nat} (h1 : f ≤ l) (h2 : l < W) (h3 : W ≤ 30) (h4 : N ≤ l) : f_sb (nI (if f < N then N else f)) (nI l) = f_span (nI f) (nI l) &&& f_span (nI N) (nI W - 1) := by
  refine tb_ext (fun i hi => ?_)
  have hm : (if f < N then N else f) ≤ l ∧ ∀ i, (if f < N then N else f) ≤ i ↔ f ≤ i ∧ N ≤ i := by
    by_cases c : f < N
    · rw [if_pos c]; exact ⟨h4, fun i => by omega⟩
    · rw [if_neg c]; exact ⟨h1, fun i => by omega⟩
  rw [tb_and, tb_sb0 _ (by omega) l (by omega) hm.1 i hi, tb_span0 f (by omega) l (by omega) i hi, tb_fn h3 (by omega) hi (by omega), ← Bool.decide_and]
  refine decide_eq_decide.mpr ?_
  rw [hm.2]
  omega
theorem Was.gr {T : TT} {W C S A N a h : Nat} (F : WFB T W C S A N) (ha : a < A) (hh : h < 24) (hl : ¬ (ao T a 5).toNatClampNeg < N) : Wse (grT T S a (nI h)) C W S := by
  have hW : W ≤ 30 := F.2.2.1
  obtain ⟨⟨c, hc, ec⟩, ⟨d, hd, ed⟩, -, a3, ⟨f, l, f1, f2, f3, f4⟩, -⟩ := F.2.2.2.2.2.2.2.2.2.2.2.2.2 a ha
  rw [f4, nI_clamp (by omega)] at hl
  have e : ∀ k, k < 12 → so (grT T S a (nI h)) S k = grf T a (nI h) k := fun k hk => so_adT hk
  have z : ∀ k, k < 5 → k ≠ 0 → so (grT T S a (nI h)) S (7 + k) = 0 := fun k hk h0 => by
    rw [e _ (by omega)]
    unfold grf
    rw [if_neg (by omega), if_neg (by omega), if_neg (by omega), if_neg (by omega), if_neg (by omega), if_neg (by omega), if_neg (by omega), if_neg (by omega)]
  refine ⟨⟨c, hc, by rw [e 0 (by decide)]; exact ec⟩, ⟨d, hd, by rw [e 1 (by decide)]; exact ed⟩, ⟨h, hh, by rw [e 2 (by decide)]; rfl⟩, by rw [e 3 (by decide)]; exact a3, by rw [e 4 (by decide)]; exact Or.inr rfl, ⟨if f < N then N else f, l, ?_, f2, ?_, by rw [e 6 (by decide)]; exact f4⟩, ?_, ?_⟩
  · by_cases c : f < N
    · rw [if_pos c]; omega
    · rw [if_neg c]; omega
  · rw [e 5 (by decide)]
    show (if ao T a 4 < T 4 then T 4 else ao T a 4) = _
    rw [f3, F.2.2.2.2.2.2.2.2.2.1]
    exact mx_nI (by omega) (by omega)
  · intro i hi k j hk hj h1 h2
    by_cases c1 : k = 0
    · by_cases c2 : j = 0
      · omega
      · rw [z j hj c2, tb_0] at h2; cases h2
    · rw [z k hk c1, tb_0] at h1; cases h1
  · intro i k hk h1
    by_cases c1 : k = 0
    · subst c1
      rw [e (7 + 0) (by decide)] at h1
      have h1 : tb (f_span (ao T a 4) (ao T a 5) &&& f_span (T 4) (T 0 - 1)) i = true := h1
      rw [tb_and, Bool.and_eq_true] at h1
      by_cases c3 : i < 32
      · have h2 := h1.1
        rw [f3, f4, tb_span0 f (by omega) l (by omega) i c3] at h2
        have := of_decide_eq_true h2
        omega
      · rw [tb_ge _ (by omega)] at h1; cases h1.1
    · rw [z k hk c1, tb_0] at h1; cases h1
end
set_option maxHeartbeats 2000000 in
theorem v_X4_addSeries_0 {K : Sh} {x : Cn} {Q : Nat → Cn → Prop} {b0 : Nat} {b0_7 : Nat} {n_b0_7 : Nat} (k_b0 : kk K b0 = some (4, 0)) (g_b0_7 : gr x b0 7 = some b0_7) (k_b0_7 : kk K b0_7 = some (23, n_b0_7)) (K0 : vp_in (if 23 < (gi x b0 3) then 23 else (gi x b0 3)) n_b0_7 ∧ (∃ c_2 : Nat, gr x b0_7 (((if 23 < (gi x b0 3) then 23 else (gi x b0 3)) : Int32).toNatClampNeg) = some c_2 ∧ (Q c_2 (ui x b0 3 ((if 23 < (gi x b0 3) then 23 else (gi x b0 3)) + 1))))) : mSR mX4_addSeries [.ref b0] K x Q := by
  refine s_R (by decide) (by simp [Value.category]) (Nat.le_of_ble_eq_true rfl) ?_
  show mGM mX4_addSeries 0 [some (.ref b0), none] [] (hp K x) (PR K Q)
  refine r_aload_n (pc := 0) dX4_addSeries_0 rfl ?_
  refine s_getI (pc := 1) dX4_addSeries_1 fl_X4_21 rfl k_b0 ?_
  refine r_bipush (pc := 4) (v := 23) dX4_addSeries_4 (by decide) ?_
  refine r_mmin (pc := 6) dX4_addSeries_6 lk_X4_58 mw_min ⟨by decide, by decide⟩ (Nat.le_of_ble_eq_true rfl) ?_
  refine r_istore_n (pc := 9) dX4_addSeries_9 (by decide) ?_
  refine r_aload_n (pc := 10) (L := [some (.ref b0), some (.int (if 23 < (gi x b0 3) then 23 else (gi x b0 3)))]) dX4_addSeries_10 rfl ?_
  refine r_iload_n (pc := 11) dX4_addSeries_11 rfl ?_
  refine r_iconst (pc := 12) (v := 1) dX4_addSeries_12 (by decide) ?_
  refine r_iadd (pc := 13) dX4_addSeries_13 ?_
  refine s_putI (pc := 14) dX4_addSeries_14 fl_X4_21 rfl rfl k_b0 ?_
  refine r_aload_n (pc := 17) dX4_addSeries_17 rfl ?_
  refine s_getR (pc := 18) dX4_addSeries_18 fl_X4_36 rfl k_b0 g_b0_7 ?_
  refine r_iload_n (pc := 21) dX4_addSeries_21 rfl ?_
  obtain ⟨i_1, K0⟩ := K0
  obtain ⟨c_2, g_3, K0⟩ := K0
  refine s_aald (pc := 22) dX4_addSeries_22 (by decide) rfl k_b0_7 i_1 g_3 ?_
  exact s_aret rfl dX4_addSeries_23 K0
set_option maxHeartbeats 2000000 in
theorem v_X5_placeAt_0 {K : Sh} {x : Cn} {Q : Cn → Prop} {b0 : Nat} {l1 : Int32} {l2 : Int32} {l3 : Int32} {l4 : Int32}  (k_b0 : kk K b0 = some (5, 0)) (K0 : Q (ui (ui (ui (ui x b0 0 l1) b0 1 l2) b0 2 l3) b0 3 l4)) : mSV mX5_placeAt [.ref b0, .int l1, .int l2, .int l3, .int l4] K x Q := by
  refine s_V (by decide) (by simp [Value.category]) (Nat.le_of_ble_eq_true rfl) ?_
  show mGM mX5_placeAt 0 [some (.ref b0), some (.int l1), some (.int l2), some (.int l3), some (.int l4)] [] (hp K x) (PV K Q)
  refine r_aload_n (pc := 0) dX5_placeAt_0 rfl ?_
  refine r_iload_n (pc := 1) dX5_placeAt_1 rfl ?_
  refine s_putI (pc := 2) dX5_placeAt_2 fl_X5_9 rfl rfl k_b0 ?_
  refine r_aload_n (pc := 5) dX5_placeAt_5 rfl ?_
  refine r_iload_n (pc := 6) dX5_placeAt_6 rfl ?_
  refine s_putI (pc := 7) dX5_placeAt_7 fl_X5_15 rfl rfl k_b0 ?_
  refine r_aload_n (pc := 10) dX5_placeAt_10 rfl ?_
  refine r_iload_n (pc := 11) dX5_placeAt_11 rfl ?_
  refine s_putI (pc := 12) dX5_placeAt_12 fl_X5_18 rfl rfl k_b0 ?_
  refine r_aload_n (pc := 15) dX5_placeAt_15 rfl ?_
  refine r_iload (pc := 16) dX5_placeAt_16 rfl ?_
  refine s_putI (pc := 18) dX5_placeAt_18 fl_X5_21 rfl rfl k_b0 ?_
  exact s_ret rfl dX5_placeAt_21 K0
set_option maxHeartbeats 2000000 in
theorem v_X5_comeWith_0 {K : Sh} {x : Cn} {Q : Cn → Prop} {b0 : Nat} {l1 : Int32} {l2 : Int32}  (k_b0 : kk K b0 = some (5, 0)) (K0 : mSV mX5_openIn [.ref b0, .int (f_sb l1 l2)] K (ui (ui x b0 5 l1) b0 6 l2) (fun y_1 => Q y_1)) : mSV mX5_comeWith [.ref b0, .int l1, .int l2] K x Q := by
  refine s_V (by decide) (by simp [Value.category]) (Nat.le_of_ble_eq_true rfl) ?_
  show mGM mX5_comeWith 0 [some (.ref b0), some (.int l1), some (.int l2)] [] (hp K x) (PV K Q)
  refine r_aload_n (pc := 0) dX5_comeWith_0 rfl ?_
  refine r_iload_n (pc := 1) dX5_comeWith_1 rfl ?_
  refine s_putI (pc := 2) dX5_comeWith_2 fl_X5_28 rfl rfl k_b0 ?_
  refine r_aload_n (pc := 5) dX5_comeWith_5 rfl ?_
  refine r_iload_n (pc := 6) dX5_comeWith_6 rfl ?_
  refine s_putI (pc := 7) dX5_comeWith_7 fl_X5_31 rfl rfl k_b0 ?_
  refine r_aload_n (pc := 10) dX5_comeWith_10 rfl ?_
  refine r_iload_n (pc := 11) dX5_comeWith_11 rfl ?_
  refine r_iload_n (pc := 12) dX5_comeWith_12 rfl ?_
  refine s_SNI (pc := 13) mX7_spanBits (As := [.int l1, .int l2]) dX5_comeWith_13 nl_X5_49 st_X7_spanBits mo_X7_spanBits ⟨by decide, by decide⟩ (Nat.le_of_ble_eq_true rfl) (sp_X7_spanBits  ?_)
  refine s_VV (pc := 16) mX5_openIn (ci := 5) (a := b0) (As := [.int (f_sb l1 l2)]) dX5_comeWith_16 lk_X5_53 in_X5_openIn mo_X5_openIn ⟨by decide, rfl⟩ ⟨by decide, by decide⟩ (Nat.le_of_ble_eq_true rfl) k_b0 (mSV_mono K0 (fun y_1 K0 => ?_))
  exact s_ret rfl dX5_comeWith_19 K0
set_option maxHeartbeats 2000000 in
theorem v_X4_grant_0 {K : Sh} {x : Cn} {Q : Cn → Prop} {b0 : Nat} {b1 : Nat} {l2 : Int32}  (k_b0 : kk K b0 = some (4, 0)) (k_b1 : kk K b1 = some (0, 0)) (K0 : mSR mX4_addSeries [.ref b0] K x (fun r_2 y_1 => kk K r_2 = some (5, 0) ∧ (mSV mX5_placeAt [.ref r_2, .int (gi y_1 b1 0), .int (gi y_1 b1 1), .int l2, .int (gi y_1 b1 3)] K y_1 (fun y_4 => mSV mX5_comeWith [.ref r_2, .int (if (gi y_4 b1 4) < (gi y_4 b0 1) then (gi y_4 b0 1) else (gi y_4 b1 4)), .int (gi y_4 b1 5)] K y_4 (fun y_5 => Q (ui y_5 r_2 4 1)))))) : mSV mX4_grant [.ref b0, .ref b1, .int l2] K x Q := by
  refine s_V (by decide) (by simp [Value.category]) (Nat.le_of_ble_eq_true rfl) ?_
  show mGM mX4_grant 0 [some (.ref b0), some (.ref b1), some (.int l2), none] [] (hp K x) (PV K Q)
  refine r_aload_n (pc := 0) dX4_grant_0 rfl ?_
  refine s_VR (pc := 1) mX4_addSeries (ci := 4) (a := b0) (As := []) dX4_grant_1 lk_X4_116 in_X4_addSeries mo_X4_addSeries ⟨by decide, rfl⟩ ⟨by decide, by decide⟩ (Nat.le_of_ble_eq_true rfl) k_b0 (mSR_mono K0 (fun r_2 y_1 K0 => ?_))
  refine r_astore_n (pc := 4) dX4_grant_4 (by decide) ?_
  refine r_aload_n (pc := 5) (L := [some (.ref b0), some (.ref b1), some (.int l2), some (.ref r_2)]) dX4_grant_5 rfl ?_
  refine r_aload_n (pc := 6) dX4_grant_6 rfl ?_
  refine s_getI (pc := 7) dX4_grant_7 fl_X4_120 rfl k_b1 ?_
  refine r_aload_n (pc := 10) dX4_grant_10 rfl ?_
  refine s_getI (pc := 11) dX4_grant_11 fl_X4_100 rfl k_b1 ?_
  refine r_iload_n (pc := 14) dX4_grant_14 rfl ?_
  refine r_aload_n (pc := 15) dX4_grant_15 rfl ?_
  refine s_getI (pc := 16) dX4_grant_16 fl_X4_101 rfl k_b1 ?_
  obtain ⟨e_3, K0⟩ := K0
  refine s_VV (pc := 19) mX5_placeAt (ci := 5) (a := r_2) (As := [.int (gi y_1 b1 0), .int (gi y_1 b1 1), .int l2, .int (gi y_1 b1 3)]) dX4_grant_19 lk_X4_123 in_X5_placeAt mo_X5_placeAt ⟨by decide, rfl⟩ ⟨by decide, by decide⟩ (Nat.le_of_ble_eq_true rfl) e_3 (mSV_mono K0 (fun y_4 K0 => ?_))
  refine r_aload_n (pc := 22) dX4_grant_22 rfl ?_
  refine r_aload_n (pc := 23) dX4_grant_23 rfl ?_
  refine s_getI (pc := 24) dX4_grant_24 fl_X4_127 rfl k_b1 ?_
  refine r_aload_n (pc := 27) dX4_grant_27 rfl ?_
  refine s_getI (pc := 28) dX4_grant_28 fl_X4_15 rfl k_b0 ?_
  refine r_mmax (pc := 31) dX4_grant_31 lk_X4_130 mw_max ⟨by decide, by decide⟩ (Nat.le_of_ble_eq_true rfl) ?_
  refine r_aload_n (pc := 34) dX4_grant_34 rfl ?_
  refine s_getI (pc := 35) dX4_grant_35 fl_X4_109 rfl k_b1 ?_
  refine s_VV (pc := 38) mX5_comeWith (ci := 5) (a := r_2) (As := [.int (if (gi y_4 b1 4) < (gi y_4 b0 1) then (gi y_4 b0 1) else (gi y_4 b1 4)), .int (gi y_4 b1 5)]) dX4_grant_38 lk_X4_133 in_X5_comeWith mo_X5_comeWith ⟨by decide, rfl⟩ ⟨by decide, by decide⟩ (Nat.le_of_ble_eq_true rfl) e_3 (mSV_mono K0 (fun y_5 K0 => ?_))
  refine r_aload_n (pc := 41) dX4_grant_41 rfl ?_
  refine r_iconst (pc := 42) (v := 1) dX4_grant_42 (by decide) ?_
  refine s_putZ (pc := 43) dX4_grant_43 fl_X4_137 rfl rfl e_3 (by decide) ?_
  exact s_ret rfl dX4_grant_46 K0
section
theorem sp_X4_grant {x : Cn} {Q : Cn → Prop} {q : Nat} {T : TT} {W C S A N a p h : Nat} (E : SEB x q T W C S A N) (hS : S < 24) (ha : a < A) (hg : gr x (q + 4) a = some p) (hh : h < 24) (hl : ¬ (ao T a 5).toNatClampNeg < N) (k : ∀ z, Frq x z q → SEB z q (grT T S a (nI h)) W C (S + 1) A N → Q z) : mSV mX4_grant [.ref q, .ref p, .int (nI h)] KW x Q := by
  have hn := E.nums
  have hA : A ≤ 24 := hn.2.2.2.2.2.2.2.1
  have hW : W ≤ 30 := hn.2.2.2.2.1
  obtain ⟨p', e1, e2, e3, w⟩ := E.ask ha
  have epp : p' = p := Option.some.inj (e1.symm.trans hg)
  subst epp
  obtain ⟨j2, hj2, ej2⟩ := E.2.1.2.2.2.2.2.2.2.1 a (by omega)
  have ep2 : p' = q + 30 + j2 := Option.some.inj (e1.symm.trans ej2)
  obtain ⟨j, hj, ej⟩ := E.2.1.2.2.2.2.2.1 S hS
  obtain ⟨-, -, -, -, ⟨f, l, f1, f2, f3, f4⟩, -⟩ := id w
  have hl' := hl
  rw [f4, nI_clamp (by omega)] at hl'
  refine v_X4_grant_0 (ks0 E.1) e2 (v_X4_addSeries_0 (ks0 E.1) E.2.1.2.2.1 (ks3 E.1) ?_)
  have mi : (if (23 : Int32) < nI S then 23 else nI S) = nI S := if_neg (fun g => absurd ((nI_ltI (a := 23) (b := S) (by decide) (by omega)).mp g) (by omega))
  rw [hn.2.2.1, mi, nI_clamp (by omega), nI_1]
  refine ⟨vp_in_nI (by omega) (by decide), q + 6 + j, ej, ks6 E.1 hj, v_X5_placeAt_0 (ks6 E.1 hj) (v_X5_comeWith_0 (ks6 E.1 hj) (sp_X5_openIn_at (ks6 E.1 hj) (fun v f0 g1 g2 g3 => ?_)))⟩
  have o1 : ∀ i, gi (ui x q 3 (nI (S + 1))) p' i = gi x p' i := fun i => by rw [gi_ui, if_neg (by omega)]
  rw [o1 0, o1 1, o1 3, e3 0 (by decide), e3 1 (by decide), e3 3 (by decide)] at f0 g1 g2
  have o2 : ∀ i b, b ≠ q + 6 + j → gi (ui (ui (ui (ui (ui x q 3 (nI (S + 1))) (q + 6 + j) 0 (ao T a 0)) (q + 6 + j) 1 (ao T a 1)) (q + 6 + j) 2 (nI h)) (q + 6 + j) 3 (ao T a 3)) b i = gi (ui x q 3 (nI (S + 1))) b i := fun i b hb => by simp only [gi_ui, hb, false_and, if_false]
  rw [o2 4 p' (by omega), o2 5 p' (by omega), o2 1 q (by omega), o1, o1, e3 4 (by decide), e3 5 (by decide), show gi (ui x q 3 (nI (S + 1))) q 1 = nI N by rw [gi_ui, if_neg (by omega)]; exact hn.2.1, f3, f4, mx_nI (by omega) (by omega)] at f0 g1 g2
  refine k _ ⟨f0.1, fun b i hb => ?_⟩ (E.addS (p := q + 6 + j) hS ej f0.1 (fun b i b1 b2 b3 b4 b5 => ?_) ?_ (fun i hi => ?_) (fun i i8 i12 => ?_) (Was.gr E.2.2.2 ha hh hl))
  · rw [gi_ui, if_neg (by omega), f0.2 b i (by omega)]
    simp only [gi_ui]
    rw [if_neg (by omega), if_neg (by omega), if_neg (by omega), if_neg (by omega), if_neg (by omega), if_neg (by omega), if_neg (by omega)]
  · rw [gi_ui, if_neg (fun u => b3 u.1), f0.2 b i b3]
    simp only [gi_ui]
    rw [if_neg (fun u => b3 u.1), if_neg (fun u => b3 u.1), if_neg (fun u => b3 u.1), if_neg (fun u => b3 u.1), if_neg (fun u => b3 u.1), if_neg (fun u => b3 u.1), if_neg b4]
  · rw [gi_ui, if_neg (by omega), f0.2 q 3 (by omega)]
    simp only [gi_ui]
    rw [if_neg (by omega), if_neg (by omega), if_neg (by omega), if_neg (by omega), if_neg (by omega), if_neg (by omega), if_pos (by simp)]
  · have h4 : T 4 = nI N := E.2.2.2.2.2.2.2.2.2.2.2.2.1
    have h0 : T 0 = nI W := E.2.2.2.1
    rcases lt12 hi with rfl | rfl | rfl | rfl | rfl | rfl | rfl | rfl | rfl | rfl | rfl | rfl
    · rw [gi_ui, if_neg (by omega), g1 0 (by decide)]; simp [gi_ui, grf]
    · rw [gi_ui, if_neg (by omega), g1 1 (by decide)]; simp [gi_ui, grf]
    · rw [gi_ui, if_neg (by omega), g1 2 (by decide)]; simp [gi_ui, grf]
    · rw [gi_ui, if_neg (by omega), g1 3 (by decide)]; simp [gi_ui, grf]
    · rw [gi_ui, if_pos ⟨rfl, rfl⟩]; rfl
    · rw [gi_ui, if_neg (by omega), g1 5 (by decide)]
      show _ = (if ao T a 4 < T 4 then T 4 else ao T a 4)
      rw [f3, h4, mx_nI (by omega) (by omega)]
      simp [gi_ui]
    · rw [gi_ui, if_neg (by omega), g1 6 (by decide)]
      show _ = ao T a 5
      rw [f4]
      simp [gi_ui]
    · rw [gi_ui, if_neg (by omega), g2]
      show _ = f_span (ao T a 4) (ao T a 5) &&& f_span (T 4) (T 0 - 1)
      rw [f3, f4, h4, h0]
      exact gr_wk (by omega) f2 hW (by omega)
    · rw [gi_ui, if_neg (by omega), g3 8 (by decide) (by decide)]; rfl
    · rw [gi_ui, if_neg (by omega), g3 9 (by decide) (by decide)]; rfl
    · rw [gi_ui, if_neg (by omega), g3 10 (by decide) (by decide)]; rfl
    · rw [gi_ui, if_neg (by omega), g3 11 (by decide) (by decide)]; rfl
  · have : i = 8 ∨ i = 9 ∨ i = 10 ∨ i = 11 := by omega
    rcases this with rfl | rfl | rfl | rfl <;> rfl
/-- what is written while a pool is played, on the landed side -/
def PCr (x y : Cn) : Prop := y.2 = x.2 ∧ ∀ a k, ¬ (117 ≤ a ∧ a ≤ 174) → gi y a k = gi x a k
theorem PCr.rf (x : Cn) : PCr x x := ⟨rfl, fun _ _ _ => rfl⟩
theorem PCr.tr {x y z : Cn} (h : PCr x y) (g : PCr y z) : PCr x z := ⟨g.1.trans h.1, fun a k c => (g.2 a k c).trans (h.2 a k c)⟩
theorem PCr.ui {x y : Cn} {a k : Nat} {v : Int32} (h : PCr x y) (c : 117 ≤ a ∧ a ≤ 174) : PCr x (ui y a k v) := ⟨h.1, fun b j hb => by rw [gi_ui, if_neg (by omega)]; exact h.2 b j hb⟩
theorem EQx.pc {x y : Cn} {a : Nat} (h : EQx x y a) (c : 117 ≤ a ∧ a ≤ 174) : PCr x y := ⟨h.1, fun b j hb => h.2 b j (by omega)⟩
theorem Frq.pc {x y : Cn} (h : Frq x y 118) : PCr x y := ⟨h.1, fun b j hb => h.2 b j (by omega)⟩
theorem lpR_in {σ : Type} {step : Nat → σ → σ ⊕ Int32} {fin : σ → Int32} {R : Int32 → Prop} (h1 : ∀ s a r, step s a = .inr r → R r) (h2 : ∀ a, R (fin a)) : ∀ n s a, R (lpR step fin n s a) := by
  intro n
  induction n with
  | zero => intro s a; exact h2 a
  | succ n ih =>
    intro s a
    simp only [lpR]
    cases hq : step s a with
    | inl a' => exact ih _ _
    | inr r => exact h1 s a r hq
theorem hrF_in {T : TT} {S N a h0 : Nat} (h1 : h0 < 24) (h2 : ao T a 2 = nI h0) : hrF T S N a = -1 ∨ ∃ h, h < 24 ∧ hrF T S N a = nI h ∧ ¬ S = 24 ∧ ¬ (ao T a 5).toNatClampNeg < N := by
  unfold hrF
  by_cases c : (ao T a 5).toNatClampNeg < N ∨ S = 24
  · exact Or.inl (if_pos c)
  · rw [if_neg c, h2, nI_clamp (by omega)]
    have key := lpR_in (step := stH (fun h => fitA T S N a h 0) h0) (fin := fun _ => -1) (R := fun r => r = -1 ∨ ∃ h, h < 24 ∧ r = nI h) (fun s u r hr => by
      unfold stH at hr
      by_cases c1 : s ≤ h0 ∧ ¬ bP (fitA T S N a (h0 - s) 0) = 0
      · rw [if_pos c1] at hr
        cases hr
        exact Or.inr ⟨h0 - s, by omega, rfl⟩
      · rw [if_neg c1] at hr
        by_cases c2 : h0 + s < 24 ∧ ¬ bP (fitA T S N a (h0 + s) 0) = 0
        · rw [if_pos c2] at hr
          cases hr
          exact Or.inr ⟨h0 + s, c2.1, rfl⟩
        · rw [if_neg c2] at hr
          cases hr) (fun _ => Or.inl rfl) ((ao T a 6).toNatClampNeg + 1) 0 ()
    rcases key with g | ⟨h, g1, g2⟩
    · exact Or.inl g
    · exact Or.inr ⟨h, g1, g2, fun u => c (Or.inr u), fun u => c (Or.inl u)⟩
end
set_option maxHeartbeats 2000000 in
theorem v_X2_lookAt_0 {K : Sh} {x : Cn} {Q : Cn → Prop} {b0 : Nat} {l1 : Int32} {b0_0 : Nat} {b0_0_8 : Nat} {n_b0_0_8 : Nat} {b0_3 : Nat} {n_b0_3 : Nat} (k_b0 : kk K b0 = some (2, 0)) (g_b0_0 : gr x b0 0 = some b0_0) (k_b0_0 : kk K b0_0 = some (4, 0)) (g_b0_0_8 : gr x b0_0 8 = some b0_0_8) (k_b0_0_8 : kk K b0_0_8 = some (24, n_b0_0_8)) (g_b0_3 : gr x b0 3 = some b0_3) (k_b0_3 : kk K b0_3 = some (20, n_b0_3)) (K0 : vp_in l1 n_b0_0_8 ∧ (∃ c_2 : Nat, gr x b0_0_8 ((l1 : Int32).toNatClampNeg) = some c_2 ∧ (mSI mX4_hourFor [.ref b0_0, .ref c_2] K x (fun r_5 y_4 => vp_in l1 n_b0_3 ∧ (gr y_4 b0 3 = some b0_3 ∧ (((gi (ui y_4 b0_3 (l1 : Int32).toNatClampNeg r_5) b0_3 (l1 : Int32).toNatClampNeg) = (-1) → (Q (ui y_4 b0_3 (l1 : Int32).toNatClampNeg r_5))) ∧ (¬ (gi (ui y_4 b0_3 (l1 : Int32).toNatClampNeg r_5) b0_3 (l1 : Int32).toNatClampNeg) = (-1) → (gr y_4 b0 0 = some b0_0 ∧ (mSV mX4_grant [.ref b0_0, .ref c_2, .int (gi (ui y_4 b0_3 (l1 : Int32).toNatClampNeg r_5) b0_3 (l1 : Int32).toNatClampNeg)] K (ui y_4 b0_3 (l1 : Int32).toNatClampNeg r_5) (fun y_10 => ∃ c_11 : Nat, gr y_10 b0 1 = some c_11 ∧ (kk K c_2 = some (0, 0) ∧ (∃ n_15 : Nat, kk K c_11 = some (20, n_15) ∧ (vp_in (((gi y_10 c_2 0) * 7) + (gi y_10 c_2 1)) n_15 ∧ (∀ r_17 : Int32, r_17 = gi (ui y_10 c_11 ((((gi y_10 c_2 0) * 7) + (gi y_10 c_2 1)) : Int32).toNatClampNeg ((gi y_10 c_11 ((((gi y_10 c_2 0) * 7) + (gi y_10 c_2 1)) : Int32).toNatClampNeg) + 1)) b0 4 → (Q (ui (ui y_10 c_11 ((((gi y_10 c_2 0) * 7) + (gi y_10 c_2 1)) : Int32).toNatClampNeg ((gi y_10 c_11 ((((gi y_10 c_2 0) * 7) + (gi y_10 c_2 1)) : Int32).toNatClampNeg) + 1)) b0 4 (r_17 + 1))))))))))))))))) : mSV mX2_lookAt [.ref b0, .int l1] K x Q := by
  refine s_V (by decide) (by simp [Value.category]) (Nat.le_of_ble_eq_true rfl) ?_
  show mGM mX2_lookAt 0 [some (.ref b0), some (.int l1), none] [] (hp K x) (PV K Q)
  refine r_aload_n (pc := 0) dX2_lookAt_0 rfl ?_
  refine s_getR (pc := 1) dX2_lookAt_1 fl_X2_12 rfl k_b0 g_b0_0 ?_
  refine s_getR (pc := 4) dX2_lookAt_4 fl_X2_85 rfl k_b0_0 g_b0_0_8 ?_
  refine r_iload_n (pc := 7) dX2_lookAt_7 rfl ?_
  obtain ⟨i_1, K0⟩ := K0
  obtain ⟨c_2, g_3, K0⟩ := K0
  refine s_aald (pc := 8) dX2_lookAt_8 (by decide) rfl k_b0_0_8 i_1 g_3 ?_
  refine r_astore_n (pc := 9) dX2_lookAt_9 (by decide) ?_
  refine r_aload_n (pc := 10) (L := [some (.ref b0), some (.int l1), some (.ref c_2)]) dX2_lookAt_10 rfl ?_
  refine s_getR (pc := 11) dX2_lookAt_11 fl_X2_25 rfl k_b0 g_b0_3 ?_
  refine r_iload_n (pc := 14) dX2_lookAt_14 rfl ?_
  refine r_aload_n (pc := 15) dX2_lookAt_15 rfl ?_
  refine s_getR (pc := 16) dX2_lookAt_16 fl_X2_12 rfl k_b0 g_b0_0 ?_
  refine r_aload_n (pc := 19) dX2_lookAt_19 rfl ?_
  refine s_VI (pc := 20) mX4_hourFor (ci := 4) (a := b0_0) (As := [.ref c_2]) dX2_lookAt_20 lk_X2_103 in_X4_hourFor mo_X4_hourFor ⟨by decide, rfl⟩ ⟨by decide, by decide⟩ (Nat.le_of_ble_eq_true rfl) k_b0_0 (mSI_mono K0 (fun r_5 y_4 K0 => ?_))
  obtain ⟨i_6, K0⟩ := K0
  refine s_iast (pc := 23) dX2_lookAt_23 k_b0_3 i_6 ?_
  refine r_aload_n (pc := 24) dX2_lookAt_24 rfl ?_
  obtain ⟨g_7, K0⟩ := K0
  refine s_getR (pc := 25) dX2_lookAt_25 fl_X2_25 rfl k_b0 g_7 ?_
  refine r_iload_n (pc := 28) dX2_lookAt_28 rfl ?_
  refine s_iald (pc := 29) dX2_lookAt_29 k_b0_3 i_6 ?_
  refine r_iconst (pc := 30) (v := (-1)) dX2_lookAt_30 (by decide) ?_
  refine r_icmp_eq (pc := 31) (tgt := 79) dX2_lookAt_31 (by decide) (fun q => ?_) (fun q => ?_)
  · have K0 := K0.1 q
    exact s_ret rfl dX2_lookAt_79 K0
  · have K0 := K0.2 q
    refine r_aload_n (pc := 34) dX2_lookAt_34 rfl ?_
    obtain ⟨g_9, K0⟩ := K0
    refine s_getR (pc := 35) dX2_lookAt_35 fl_X2_12 rfl k_b0 g_9 ?_
    refine r_aload_n (pc := 38) dX2_lookAt_38 rfl ?_
    refine r_aload_n (pc := 39) dX2_lookAt_39 rfl ?_
    refine s_getR (pc := 40) dX2_lookAt_40 fl_X2_25 rfl k_b0 g_7 ?_
    refine r_iload_n (pc := 43) dX2_lookAt_43 rfl ?_
    refine s_iald (pc := 44) dX2_lookAt_44 k_b0_3 i_6 ?_
    refine s_VV (pc := 45) mX4_grant (ci := 4) (a := b0_0) (As := [.ref c_2, .int (gi (ui y_4 b0_3 (l1 : Int32).toNatClampNeg r_5) b0_3 (l1 : Int32).toNatClampNeg)]) dX2_lookAt_45 lk_X2_107 in_X4_grant mo_X4_grant ⟨by decide, rfl⟩ ⟨by decide, by decide⟩ (Nat.le_of_ble_eq_true rfl) k_b0_0 (mSV_mono K0 (fun y_10 K0 => ?_))
    refine r_aload_n (pc := 48) dX2_lookAt_48 rfl ?_
    obtain ⟨c_11, g_12, K0⟩ := K0
    refine s_getR (pc := 49) dX2_lookAt_49 fl_X2_18 rfl k_b0 g_12 ?_
    refine r_aload_n (pc := 52) dX2_lookAt_52 rfl ?_
    obtain ⟨e_13, K0⟩ := K0
    refine s_getI (pc := 53) dX2_lookAt_53 fl_X2_78 rfl e_13 ?_
    refine r_bipush (pc := 56) (v := 7) dX2_lookAt_56 (by decide) ?_
    refine r_imul (pc := 58) dX2_lookAt_58 ?_
    refine r_aload_n (pc := 59) dX2_lookAt_59 rfl ?_
    refine s_getI (pc := 60) dX2_lookAt_60 fl_X2_81 rfl e_13 ?_
    refine r_iadd (pc := 63) dX2_lookAt_63 ?_
    refine r_dup2 (pc := 64) dX2_lookAt_64 rfl rfl ?_
    obtain ⟨n_15, e_14, K0⟩ := K0
    obtain ⟨i_16, K0⟩ := K0
    refine s_iald (pc := 65) dX2_lookAt_65 e_14 i_16 ?_
    refine r_iconst (pc := 66) (v := 1) dX2_lookAt_66 (by decide) ?_
    refine r_iadd (pc := 67) dX2_lookAt_67 ?_
    refine s_iast (pc := 68) dX2_lookAt_68 e_14 i_16 ?_
    refine r_aload_n (pc := 69) dX2_lookAt_69 rfl ?_
    refine r_dup (pc := 70) dX2_lookAt_70 rfl ?_
    refine s_getI (pc := 71) dX2_lookAt_71 fl_X2_28 rfl k_b0 ?_
    obtain ⟨r_17, w_18⟩ : ∃ z : Int32, z = gi (ui y_10 c_11 ((((gi y_10 c_2 0) * 7) + (gi y_10 c_2 1)) : Int32).toNatClampNeg ((gi y_10 c_11 ((((gi y_10 c_2 0) * 7) + (gi y_10 c_2 1)) : Int32).toNatClampNeg) + 1)) b0 4 := ⟨_, rfl⟩
    rw [← w_18]
    have K0 := K0 r_17 w_18
    refine r_iconst (pc := 74) (v := 1) dX2_lookAt_74 (by decide) ?_
    refine r_iadd (pc := 75) dX2_lookAt_75 ?_
    refine s_putI (pc := 76) dX2_lookAt_76 fl_X2_28 rfl rfl k_b0 ?_
    exact s_ret rfl dX2_lookAt_79 K0
section
theorem sp_X2_lookAt {x : Cn} {Q : Cn → Prop} {T : TT} {W C S A N a g : Nat} (P : PLf x) (E : SEB x 118 T W C S A N) (hl : HLD x T S) (hg : gi x 117 4 = nI g) (ha : a < A)
    (k1 : hrF T S N a = -1 → ∀ y, PCr x y → SEB y 118 T W C S A N → HLD y T S → gi y 117 4 = nI g → (∀ b, gi y 173 b = gi x 173 b) → (∀ b, gi y 174 b = if b = a then -1 else gi x 174 b) → Q y)
    (k2 : ∀ h, h < 24 → hrF T S N a = nI h → S < 24 → ¬ (ao T a 5).toNatClampNeg < N → ∀ y, PCr x y → SEB y 118 (grT T S a (nI h)) W C (S + 1) A N → HLD y (grT T S a (nI h)) (S + 1) → gi y 117 4 = nI (g + 1) → (∀ b, gi y 173 b = gi x 173 b) → (∀ b, gi y 174 b = if b = a then nI h else gi x 174 b) → Q y) : mSV mX2_lookAt [.ref 117, .int (nI a)] KW x Q := by
  have hn := E.nums
  have hA : A ≤ 24 := hn.2.2.2.2.2.2.2.1
  have hC : C ≤ 8 := hn.2.2.2.2.2.1
  have hS : S ≤ 24 := hn.2.2.2.2.2.2.1
  obtain ⟨p, e1, e2, e3, w⟩ := E.ask ha
  obtain ⟨⟨c, hc, ec⟩, ⟨d, hd, ed⟩, ⟨h0, hh0, eh0⟩, -⟩ := id w
  refine v_X2_lookAt_0 k117 P.1 (ks0 E.1) E.2.1.2.2.2.1 (ks4 E.1) P.2.2.2 k174 ?_
  rw [nI_clamp (by omega)]
  refine ⟨vp_in_nI (by omega) (by decide), p, e1, sb_X4_hourFor E ha e1 (fun y hy => ⟨vp_in_nI (by omega) (by decide), (P.keep hy.1).2.2.2, ?_⟩)⟩
  have ev : gi (ui y 174 a (hrF T S N a)) 174 a = hrF T S N a := by rw [gi_ui, if_pos ⟨rfl, rfl⟩]
  rw [ev]
  have Ey := E.eqx hy (Or.inl rfl)
  have E2 : SEB (ui y 174 a (hrF T S N a)) 118 T W C S A N := Ey.eqx (EQx.rf y 174).ui (Or.inr (Or.inr (by decide)))
  have f1 : PCr x (ui y 174 a (hrF T S N a)) := (hy.pc (by decide)).ui (by decide)
  have o2 : ∀ b i, b ≠ 123 → b ≠ 174 → gi (ui y 174 a (hrF T S N a)) b i = gi x b i := fun b i b1 b2 => by rw [gi_ui, if_neg (fun u => b2 u.1)]; exact hy.2 b i b1
  refine ⟨fun z => k1 z _ f1 E2 (hl.mv (fun i => o2 172 i (by decide) (by decide))) (by rw [o2 117 4 (by decide) (by decide)]; exact hg) (fun b => o2 173 b (by decide) (by decide)) (fun b => ?_), fun z => ⟨(P.keep hy.1).1, ?_⟩⟩
  · rw [gi_ui, z]
    by_cases c1 : b = a
    · rw [if_pos ⟨rfl, c1⟩, if_pos c1]
    · rw [if_neg (fun u => c1 u.2), if_neg c1]; exact hy.2 174 b (by decide)
  · rcases hrF_in (S := S) (N := N) hh0 eh0 with g0 | ⟨h, h1, h2, h3, h4⟩
    · exact absurd g0 z
    · rw [h2]
      rw [h2] at E2 f1 o2
      have e1' : gr (ui y 174 a (nI h)) (118 + 4) a = some p := by
        show gr y _ _ = _
        unfold gr; rw [hy.1]; exact e1
      refine sp_X4_grant E2 (by omega) ha e1' h1 h4 (fun v fv Ev => ?_)
      have ov : ∀ b i, ¬ (118 ≤ b ∧ b < 172) → b ≠ 174 → gi v b i = gi x b i := fun b i b1 b2 => (fv.2 b i (by omega)).trans (o2 b i (by omega) b2)
      obtain ⟨pv, ve1, ve2, ve3, vw⟩ := Ev.ask ha
      have epv : pv = p := by
        have : gr v (118 + 4) a = some p := by
          unfold gr; rw [fv.1]; exact e1'
        exact Option.some.inj (ve1.symm.trans this)
      subst epv
      have ga : ∀ i, i < 7 → ao (grT T S a (nI h)) a i = ao T a i := fun i hi => adT_off (by omega) (by omega)
      refine ⟨172, (P.keep (fv.1.trans hy.1)).2.1, ve2, 56, k172, ?_⟩
      rw [ve3 0 (by decide), ve3 1 (by decide), ga 0 (by decide), ga 1 (by decide), ec, ed, show (7 : Int32) = nI 7 by decide, pk_mul, nI_add, nI_clamp (by omega)]
      refine ⟨vp_in_nI (by omega) (by decide), fun r hr => ?_⟩
      have er : r = nI g := by rw [hr, gi_ui, if_neg (by omega), ov 117 4 (by omega) (by decide)]; exact hg
      rw [er, nI_1]
      have hlv : HLD v T S := hl.mv (fun i => ov 172 i (by omega) (by decide))
      have f2 : PCr x v := f1.tr fv.pc
      refine k2 h h1 h2 (by omega) h4 _ ((f2.ui (by decide)).ui (by decide)) ?_ ?_ (by rw [gi_ui, if_pos ⟨rfl, rfl⟩]) (fun b => ?_) (fun b => ?_)
      · exact (Ev.eqx (EQx.rf v 172).ui (Or.inr (Or.inr (by decide)))).eqx (EQx.rf _ 117).ui (Or.inr (Or.inl (by decide)))
      · refine HLD.mv (hlv.inc (T' := grT T S a (nI h)) (c0 := c) (d0 := d) (by omega) hd (by rw [so_adT (by decide)]; exact ec) (by rw [so_adT (by decide)]; exact ed) (fun s hs => ⟨so_adT' (by decide) (by omega), so_adT' (by decide) (by omega)⟩)) (fun i => ?_)
        rw [gi_ui, if_neg (by omega)]
      · rw [gi_ui, if_neg (by omega), gi_ui, if_neg (by omega)]; exact ov 173 b (by omega) (by decide)
      · rw [gi_ui, if_neg (by omega), gi_ui, if_neg (by omega), fv.2 174 b (by omega), gi_ui]
        by_cases c1 : b = a
        · rw [if_pos ⟨rfl, c1⟩, if_pos c1]
        · rw [if_neg (fun u => c1 u.2), if_neg c1]; exact hy.2 174 b (by decide)

end

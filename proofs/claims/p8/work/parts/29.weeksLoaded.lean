/-! weeks with so much load, all at once -/
def cnt (f : Nat → Bool) : Nat → Nat
  | 0 => 0
  | n + 1 => cnt f n + (if f n = true then 1 else 0)
theorem cnt_le (f : Nat → Bool) : ∀ n, cnt f n ≤ n := by
  intro n
  induction n with
  | zero => exact Nat.le_refl 0
  | succ n ih =>
    simp only [cnt]
    split <;> omega
theorem cnt_congr {f g : Nat → Bool} : ∀ n, (∀ i, i < n → f i = g i) → cnt f n = cnt g n := by
  intro n
  induction n with
  | zero => intro _; rfl
  | succ n ih =>
    intro h
    simp only [cnt]
    rw [ih (fun i hi => h i (by omega)), h n (by omega)]
def cW (T : TT) (s i : Nat) (d h io wo : Int32) : Bool := decide (so T s 1 = d ∧ so T s 2 = h ∧ ¬ tb wo s = true ∧ (so T s 3 = 0 ∨ io = 0)) && tb (bas T s) i
def nW (T : TT) (S i : Nat) (d h io wo : Int32) : Nat := cnt (fun s => cW T s i d h io wo) S
def isWL (T : TT) (S : Nat) (d h io wo least r : Int32) : Prop := ∀ i, i < 32 → (tb r i = true ↔ least ≤ nI (nW T S i d h io wo))
/-- the same but for the row of cell a -/
def EQx (x y : Cn) (a : Nat) : Prop := y.2 = x.2 ∧ ∀ b k, b ≠ a → gi y b k = gi x b k
theorem EQx.rf (x : Cn) (a : Nat) : EQx x x a := ⟨rfl, fun _ _ _ => rfl⟩
theorem EQx.ui {x y : Cn} {a k : Nat} {v : Int32} (h : EQx x y a) : EQx x (ui y a k v) a := ⟨h.1, fun b j hb => by rw [gi_ui, if_neg (fun z => hb z.1)]; exact h.2 b j hb⟩
theorem EQx.tr {x y z : Cn} {a : Nat} (h : EQx x y a) (g : EQx y z a) : EQx x z a := ⟨g.1.trans h.1, fun b k hb => (g.2 b k hb).trans (h.2 b k hb)⟩
theorem SEA.eqx {x y : Cn} {q : Nat} {T : TT} {W C S A N : Nat} (E : SEA x q T W C S A N) {a : Nat} (h : EQx x y a) (ha : a = q + 5 ∨ a < q ∨ q + 54 ≤ a) : SEA y q T W C S A N := by
  obtain ⟨e1, e2, ⟨v0, v1, v2, v3, v4, v5, v6, v7⟩, e4⟩ := E
  have hg : ∀ b k, gr y b k = gr x b k := fun b k => by unfold gr; rw [h.1]
  have hi : ∀ b k, b ≠ a → gi y b k = gi x b k := h.2
  have hr := e2
  obtain ⟨r1, r2, r3, r4, r5, r6, r7, r8, r9⟩ := e2
  refine ⟨e1, ?_, ⟨?_, ?_, ?_, ?_, ?_, ?_, ?_, ?_⟩, e4⟩
  · unfold SRf at hr ⊢
    simp only [hg]
    exact hr
  · rw [hi q 0 (by omega)]; exact v0
  · rw [hi q 1 (by omega)]; exact v1
  · rw [hi q 2 (by omega)]; exact v2
  · rw [hi q 3 (by omega)]; exact v3
  · rw [hi q 4 (by omega)]; exact v4
  · intro hh h24
    rw [hi (q + 1) hh (by omega), hi (q + 2) hh (by omega)]
    exact v5 hh h24
  · intro s p hs hp
    rw [hg] at hp
    have h0 := v6 s p hs hp
    obtain ⟨j, hj, ej⟩ := r6 s (by have := e4.2.2.2.2.2.2.1; omega)
    have hpe : p = q + 6 + j := Option.some.inj (hp.symm.trans ej)
    exact ⟨fun k h1 h2 => by rw [hi p k (by omega)]; exact h0.1 k h1 h2, by rw [hi p 7 (by omega)]; exact h0.2⟩
  · intro s p hs hp
    rw [hg] at hp
    have h0 := v7 s p hs hp
    obtain ⟨j, hj, ej⟩ := r8 s (by have := e4.2.2.2.2.2.2.2.2.1; omega)
    have hpe : p = q + 30 + j := Option.some.inj (hp.symm.trans ej)
    exact fun k h1 => by rw [hi p k (by omega)]; exact h0 k h1
set_option maxHeartbeats 2000000 in
theorem v_X4_weeksLoaded_0 {K : Sh} {x : Cn} {Q : Int32 → Cn → Prop} {b0 : Nat} {l1 : Int32} {l2 : Int32} {l3 : Int32} {l4 : Int32} {l5 : Int32} {b0_9 : Nat} {n_b0_9 : Nat} (k_b0 : kk K b0 = some (4, 0)) (g_b0_9 : gr x b0 9 = some b0_9) (k_b0_9 : kk K b0_9 = some (20, n_b0_9)) (K0 : (0 < l3 → ((l3 ≤ (gi x b0 3) → (vp_in 0 n_b0_9 ∧ (GI mX4_weeksLoaded 26 [some (.ref b0), some (.int l1), some (.int l2), some (.int l3), some (.int l4), some (.int l5), some (.int 1), none, none, none] [] K (ui x b0_9 0 (-1)) Q))) ∧ (¬ l3 ≤ (gi x b0 3) → (Q 0 x)))) ∧ (¬ 0 < l3 → (Q (-1) x))) : mSI mX4_weeksLoaded [.ref b0, .int l1, .int l2, .int l3, .int l4, .int l5] K x Q := by
  refine s_I (by decide) (by simp [Value.category]) (Nat.le_of_ble_eq_true rfl) ?_
  show mGM mX4_weeksLoaded 0 [some (.ref b0), some (.int l1), some (.int l2), some (.int l3), some (.int l4), some (.int l5), none, none, none, none] [] (hp K x) (PI K Q)
  refine r_iload_n (pc := 0) dX4_weeksLoaded_0 rfl ?_
  refine r_if_gt (pc := 1) (tgt := 6) dX4_weeksLoaded_1 (by decide) (fun q => ?_) (fun q => ?_)
  · have K0 := K0.1 q
    refine r_iload_n (pc := 6) dX4_weeksLoaded_6 rfl ?_
    refine r_aload_n (pc := 7) dX4_weeksLoaded_7 rfl ?_
    refine s_getI (pc := 8) dX4_weeksLoaded_8 fl_X4_21 rfl k_b0 ?_
    refine r_icmp_le (pc := 11) (tgt := 16) dX4_weeksLoaded_11 (by decide) (fun q => ?_) (fun q => ?_)
    · have K0 := K0.1 q
      refine r_aload_n (pc := 16) dX4_weeksLoaded_16 rfl ?_
      refine s_getR (pc := 17) dX4_weeksLoaded_17 fl_X4_46 rfl k_b0 g_b0_9 ?_
      refine r_iconst (pc := 20) (v := 0) dX4_weeksLoaded_20 (by decide) ?_
      refine r_iconst (pc := 21) (v := (-1)) dX4_weeksLoaded_21 (by decide) ?_
      obtain ⟨i_3, K0⟩ := K0
      refine s_iast (pc := 22) dX4_weeksLoaded_22 k_b0_9 i_3 ?_
      refine r_iconst (pc := 23) (v := 1) dX4_weeksLoaded_23 (by decide) ?_
      refine r_istore (pc := 24) dX4_weeksLoaded_24 (by decide) ?_
      exact r_le (L' := [some (.ref b0), some (.int l1), some (.int l2), some (.int l3), some (.int l4), some (.int l5), some (.int 1), none, none, none]) ⟨rfl, ⟨rfl, ⟨rfl, ⟨rfl, ⟨rfl, ⟨rfl, ⟨rfl, trivial⟩⟩⟩⟩⟩⟩⟩ K0
    · have K0 := K0.2 q
      refine r_iconst (pc := 14) (v := 0) dX4_weeksLoaded_14 (by decide) ?_
      exact s_iret rfl dX4_weeksLoaded_15 K0
  · have K0 := K0.2 q
    refine r_iconst (pc := 4) (v := (-1)) dX4_weeksLoaded_4 (by decide) ?_
    exact s_iret rfl dX4_weeksLoaded_5 K0
set_option maxHeartbeats 2000000 in
theorem v_X4_weeksLoaded_26 {K : Sh} {x : Cn} {Q : Int32 → Cn → Prop} {b0 : Nat} {l1 : Int32} {l2 : Int32} {l3 : Int32} {l4 : Int32} {l5 : Int32} {l6 : Int32} {b0_9 : Nat} {n_b0_9 : Nat} (k_b0 : kk K b0 = some (4, 0)) (g_b0_9 : gr x b0 9 = some b0_9) (k_b0_9 : kk K b0_9 = some (20, n_b0_9)) (K0 : (l3 < l6 → (GI mX4_weeksLoaded 49 [some (.ref b0), some (.int l1), some (.int l2), some (.int l3), some (.int l4), some (.int l5), some (.int 0), none, none, none] [] K x Q)) ∧ (¬ l3 < l6 → (vp_in l6 n_b0_9 ∧ (GI mX4_weeksLoaded 26 [some (.ref b0), some (.int l1), some (.int l2), some (.int l3), some (.int l4), some (.int l5), some (.int (l6 + 1)), none, none, none] [] K (ui x b0_9 (l6 : Int32).toNatClampNeg 0) Q)))) : GI mX4_weeksLoaded 26 [some (.ref b0), some (.int l1), some (.int l2), some (.int l3), some (.int l4), some (.int l5), some (.int l6), none, none, none] [] K x Q := by
  show mGM mX4_weeksLoaded 26 [some (.ref b0), some (.int l1), some (.int l2), some (.int l3), some (.int l4), some (.int l5), some (.int l6), none, none, none] [] (hp K x) (PI K Q)
  refine r_iload (pc := 26) dX4_weeksLoaded_26 rfl ?_
  refine r_iload_n (pc := 28) dX4_weeksLoaded_28 rfl ?_
  refine r_icmp_gt (pc := 29) (tgt := 46) dX4_weeksLoaded_29 (by decide) (fun q => ?_) (fun q => ?_)
  · have K0 := K0.1 q
    refine r_iconst (pc := 46) (v := 0) dX4_weeksLoaded_46 (by decide) ?_
    refine r_istore (pc := 47) dX4_weeksLoaded_47 (by decide) ?_
    exact r_le (L' := [some (.ref b0), some (.int l1), some (.int l2), some (.int l3), some (.int l4), some (.int l5), some (.int 0), none, none, none]) ⟨rfl, ⟨rfl, ⟨rfl, ⟨rfl, ⟨rfl, ⟨rfl, ⟨rfl, trivial⟩⟩⟩⟩⟩⟩⟩ K0
  · have K0 := K0.2 q
    refine r_aload_n (pc := 32) dX4_weeksLoaded_32 rfl ?_
    refine s_getR (pc := 33) dX4_weeksLoaded_33 fl_X4_46 rfl k_b0 g_b0_9 ?_
    refine r_iload (pc := 36) dX4_weeksLoaded_36 rfl ?_
    refine r_iconst (pc := 38) (v := 0) dX4_weeksLoaded_38 (by decide) ?_
    obtain ⟨i_2, K0⟩ := K0
    refine s_iast (pc := 39) dX4_weeksLoaded_39 k_b0_9 i_2 ?_
    refine r_iinc (pc := 40) (v := l6 + 1) dX4_weeksLoaded_40 rfl rfl (by decide) ?_
    refine r_goto (pc := 43) (L := [some (.ref b0), some (.int l1), some (.int l2), some (.int l3), some (.int l4), some (.int l5), some (.int (l6 + 1)), none, none, none]) (tgt := 26) dX4_weeksLoaded_43 (by decide) ?_
    exact r_le (L' := [some (.ref b0), some (.int l1), some (.int l2), some (.int l3), some (.int l4), some (.int l5), some (.int (l6 + 1)), none, none, none]) ⟨rfl, ⟨rfl, ⟨rfl, ⟨rfl, ⟨rfl, ⟨rfl, ⟨rfl, trivial⟩⟩⟩⟩⟩⟩⟩ K0
set_option maxHeartbeats 2000000 in
theorem v_X4_weeksLoaded_49 {K : Sh} {x : Cn} {Q : Int32 → Cn → Prop} {b0 : Nat} {l1 : Int32} {l2 : Int32} {l3 : Int32} {l4 : Int32} {l5 : Int32} {l6 : Int32} {b0_9 : Nat} {n_b0_9 : Nat} {b0_7 : Nat} {n_b0_7 : Nat} (k_b0 : kk K b0 = some (4, 0)) (g_b0_9 : gr x b0 9 = some b0_9) (k_b0_9 : kk K b0_9 = some (20, n_b0_9)) (g_b0_7 : gr x b0 7 = some b0_7) (k_b0_7 : kk K b0_7 = some (23, n_b0_7)) (K0 : ((gi x b0 3) ≤ l6 → (vp_in l3 n_b0_9 ∧ (Q (gi x b0_9 (l3 : Int32).toNatClampNeg) x))) ∧ (¬ (gi x b0 3) ≤ l6 → (vp_in l6 n_b0_7 ∧ (∃ c_4 : Nat, gr x b0_7 ((l6 : Int32).toNatClampNeg) = some c_4 ∧ (kk K c_4 = some (5, 0) ∧ ((¬ (gi x c_4 1) = l1 → (GI mX4_weeksLoaded 49 [some (.ref b0), some (.int l1), some (.int l2), some (.int l3), some (.int l4), some (.int l5), some (.int (l6 + 1)), none, none, none] [] K x Q)) ∧ ((gi x c_4 1) = l1 → ((¬ (gi x c_4 2) = l2 → (GI mX4_weeksLoaded 49 [some (.ref b0), some (.int l1), some (.int l2), some (.int l3), some (.int l4), some (.int l5), some (.int (l6 + 1)), none, none, none] [] K x Q)) ∧ ((gi x c_4 2) = l2 → (((f_bit l5 l6) → (GI mX4_weeksLoaded 49 [some (.ref b0), some (.int l1), some (.int l2), some (.int l3), some (.int l4), some (.int l5), some (.int (l6 + 1)), none, none, none] [] K x Q)) ∧ (¬ (f_bit l5 l6) → (((gi x c_4 3) = 0 → (GI mX4_weeksLoaded 118 [some (.ref b0), some (.int l1), some (.int l2), some (.int l3), some (.int l4), some (.int l5), some (.int l6), some (.ref c_4), some (.int (f_held x c_4)), some (.int l3)] [] K x Q)) ∧ (¬ (gi x c_4 3) = 0 → ((¬ l4 = 0 → (GI mX4_weeksLoaded 49 [some (.ref b0), some (.int l1), some (.int l2), some (.int l3), some (.int l4), some (.int l5), some (.int (l6 + 1)), none, none, none] [] K x Q)) ∧ (l4 = 0 → (GI mX4_weeksLoaded 118 [some (.ref b0), some (.int l1), some (.int l2), some (.int l3), some (.int l4), some (.int l5), some (.int l6), some (.ref c_4), some (.int (f_held x c_4)), some (.int l3)] [] K x Q)))))))))))))))) : GI mX4_weeksLoaded 49 [some (.ref b0), some (.int l1), some (.int l2), some (.int l3), some (.int l4), some (.int l5), some (.int l6), none, none, none] [] K x Q := by
  show mGM mX4_weeksLoaded 49 [some (.ref b0), some (.int l1), some (.int l2), some (.int l3), some (.int l4), some (.int l5), some (.int l6), none, none, none] [] (hp K x) (PI K Q)
  refine r_iload (pc := 49) dX4_weeksLoaded_49 rfl ?_
  refine r_aload_n (pc := 51) dX4_weeksLoaded_51 rfl ?_
  refine s_getI (pc := 52) dX4_weeksLoaded_52 fl_X4_21 rfl k_b0 ?_
  refine r_icmp_ge (pc := 55) (tgt := 158) dX4_weeksLoaded_55 (by decide) (fun q => ?_) (fun q => ?_)
  · have K0 := K0.1 q
    refine r_aload_n (pc := 158) dX4_weeksLoaded_158 rfl ?_
    refine s_getR (pc := 159) dX4_weeksLoaded_159 fl_X4_46 rfl k_b0 g_b0_9 ?_
    refine r_iload_n (pc := 162) dX4_weeksLoaded_162 rfl ?_
    obtain ⟨i_2, K0⟩ := K0
    refine s_iald (pc := 163) dX4_weeksLoaded_163 k_b0_9 i_2 ?_
    exact s_iret rfl dX4_weeksLoaded_164 K0
  · have K0 := K0.2 q
    refine r_aload_n (pc := 58) dX4_weeksLoaded_58 rfl ?_
    refine s_getR (pc := 59) dX4_weeksLoaded_59 fl_X4_36 rfl k_b0 g_b0_7 ?_
    refine r_iload (pc := 62) dX4_weeksLoaded_62 rfl ?_
    obtain ⟨i_3, K0⟩ := K0
    obtain ⟨c_4, g_5, K0⟩ := K0
    refine s_aald (pc := 64) dX4_weeksLoaded_64 (by decide) rfl k_b0_7 i_3 g_5 ?_
    refine r_astore (pc := 65) dX4_weeksLoaded_65 (by decide) ?_
    refine r_aload (pc := 67) (L := [some (.ref b0), some (.int l1), some (.int l2), some (.int l3), some (.int l4), some (.int l5), some (.int l6), some (.ref c_4), none, none]) dX4_weeksLoaded_67 rfl ?_
    obtain ⟨e_6, K0⟩ := K0
    refine s_getI (pc := 69) dX4_weeksLoaded_69 fl_X4_78 rfl e_6 ?_
    refine r_iload_n (pc := 72) dX4_weeksLoaded_72 rfl ?_
    refine r_icmp_ne (pc := 73) (tgt := 152) dX4_weeksLoaded_73 (by decide) (fun q => ?_) (fun q => ?_)
    · have K0 := K0.1 q
      refine r_iinc (pc := 152) (v := l6 + 1) dX4_weeksLoaded_152 rfl rfl (by decide) ?_
      refine r_goto (pc := 155) (L := [some (.ref b0), some (.int l1), some (.int l2), some (.int l3), some (.int l4), some (.int l5), some (.int (l6 + 1)), some (.ref c_4), none, none]) (tgt := 49) dX4_weeksLoaded_155 (by decide) ?_
      exact r_le (L' := [some (.ref b0), some (.int l1), some (.int l2), some (.int l3), some (.int l4), some (.int l5), some (.int (l6 + 1)), none, none, none]) ⟨rfl, ⟨rfl, ⟨rfl, ⟨rfl, ⟨rfl, ⟨rfl, ⟨rfl, trivial⟩⟩⟩⟩⟩⟩⟩ K0
    · have K0 := K0.2 q
      refine r_aload (pc := 76) dX4_weeksLoaded_76 rfl ?_
      refine s_getI (pc := 78) dX4_weeksLoaded_78 fl_X4_81 rfl e_6 ?_
      refine r_iload_n (pc := 81) dX4_weeksLoaded_81 rfl ?_
      refine r_icmp_ne (pc := 82) (tgt := 152) dX4_weeksLoaded_82 (by decide) (fun q => ?_) (fun q => ?_)
      · have K0 := K0.1 q
        refine r_iinc (pc := 152) (v := l6 + 1) dX4_weeksLoaded_152 rfl rfl (by decide) ?_
        refine r_goto (pc := 155) (L := [some (.ref b0), some (.int l1), some (.int l2), some (.int l3), some (.int l4), some (.int l5), some (.int (l6 + 1)), some (.ref c_4), none, none]) (tgt := 49) dX4_weeksLoaded_155 (by decide) ?_
        exact r_le (L' := [some (.ref b0), some (.int l1), some (.int l2), some (.int l3), some (.int l4), some (.int l5), some (.int (l6 + 1)), none, none, none]) ⟨rfl, ⟨rfl, ⟨rfl, ⟨rfl, ⟨rfl, ⟨rfl, ⟨rfl, trivial⟩⟩⟩⟩⟩⟩⟩ K0
      · have K0 := K0.2 q
        refine r_iload (pc := 85) dX4_weeksLoaded_85 rfl ?_
        refine r_iload (pc := 87) dX4_weeksLoaded_87 rfl ?_
        refine s_SNI (pc := 89) mX7_hasBit (As := [.int l5, .int l6]) dX4_weeksLoaded_89 nl_X4_84 st_X7_hasBit mo_X7_hasBit ⟨by decide, by decide⟩ (Nat.le_of_ble_eq_true rfl) (sp_X7_hasBit  ?_)
        refine r_if_ne (pc := 92) (tgt := 152) dX4_weeksLoaded_92 (by decide) (fun q => ?_) (fun q => ?_)
        · have q := b2i_nz q
          have K0 := K0.1 q
          refine r_iinc (pc := 152) (v := l6 + 1) dX4_weeksLoaded_152 rfl rfl (by decide) ?_
          refine r_goto (pc := 155) (L := [some (.ref b0), some (.int l1), some (.int l2), some (.int l3), some (.int l4), some (.int l5), some (.int (l6 + 1)), some (.ref c_4), none, none]) (tgt := 49) dX4_weeksLoaded_155 (by decide) ?_
          exact r_le (L' := [some (.ref b0), some (.int l1), some (.int l2), some (.int l3), some (.int l4), some (.int l5), some (.int (l6 + 1)), none, none, none]) ⟨rfl, ⟨rfl, ⟨rfl, ⟨rfl, ⟨rfl, ⟨rfl, ⟨rfl, trivial⟩⟩⟩⟩⟩⟩⟩ K0
        · have q := (b2i_z _).mp q
          have K0 := K0.2 q
          refine r_aload (pc := 95) dX4_weeksLoaded_95 rfl ?_
          refine s_getI (pc := 97) dX4_weeksLoaded_97 fl_X4_75 rfl e_6 ?_
          refine r_if_eq (pc := 100) (tgt := 108) dX4_weeksLoaded_100 (by decide) (fun q => ?_) (fun q => ?_)
          · have K0 := K0.1 q
            refine r_aload (pc := 108) dX4_weeksLoaded_108 rfl ?_
            refine s_VI (pc := 110) mX5_heldBits (ci := 5) (a := c_4) (As := []) dX4_weeksLoaded_110 lk_X4_88 in_X5_heldBits mo_X5_heldBits ⟨by decide, rfl⟩ ⟨by decide, by decide⟩ (Nat.le_of_ble_eq_true rfl) e_6 (sp_X5_heldBits e_6 ?_)
            refine r_istore (pc := 113) dX4_weeksLoaded_113 (by decide) ?_
            refine r_iload_n (pc := 115) (L := [some (.ref b0), some (.int l1), some (.int l2), some (.int l3), some (.int l4), some (.int l5), some (.int l6), some (.ref c_4), some (.int (f_held x c_4)), none]) dX4_weeksLoaded_115 rfl ?_
            refine r_istore (pc := 116) dX4_weeksLoaded_116 (by decide) ?_
            exact r_le (L' := [some (.ref b0), some (.int l1), some (.int l2), some (.int l3), some (.int l4), some (.int l5), some (.int l6), some (.ref c_4), some (.int (f_held x c_4)), some (.int l3)]) ⟨rfl, ⟨rfl, ⟨rfl, ⟨rfl, ⟨rfl, ⟨rfl, ⟨rfl, ⟨rfl, ⟨rfl, ⟨rfl, trivial⟩⟩⟩⟩⟩⟩⟩⟩⟩⟩ K0
          · have K0 := K0.2 q
            refine r_iload (pc := 103) dX4_weeksLoaded_103 rfl ?_
            refine r_if_ne (pc := 105) (tgt := 152) dX4_weeksLoaded_105 (by decide) (fun q => ?_) (fun q => ?_)
            · have K0 := K0.1 q
              refine r_iinc (pc := 152) (v := l6 + 1) dX4_weeksLoaded_152 rfl rfl (by decide) ?_
              refine r_goto (pc := 155) (L := [some (.ref b0), some (.int l1), some (.int l2), some (.int l3), some (.int l4), some (.int l5), some (.int (l6 + 1)), some (.ref c_4), none, none]) (tgt := 49) dX4_weeksLoaded_155 (by decide) ?_
              exact r_le (L' := [some (.ref b0), some (.int l1), some (.int l2), some (.int l3), some (.int l4), some (.int l5), some (.int (l6 + 1)), none, none, none]) ⟨rfl, ⟨rfl, ⟨rfl, ⟨rfl, ⟨rfl, ⟨rfl, ⟨rfl, trivial⟩⟩⟩⟩⟩⟩⟩ K0
            · have K0 := K0.2 q
              refine r_aload (pc := 108) dX4_weeksLoaded_108 rfl ?_
              refine s_VI (pc := 110) mX5_heldBits (ci := 5) (a := c_4) (As := []) dX4_weeksLoaded_110 lk_X4_88 in_X5_heldBits mo_X5_heldBits ⟨by decide, rfl⟩ ⟨by decide, by decide⟩ (Nat.le_of_ble_eq_true rfl) e_6 (sp_X5_heldBits e_6 ?_)
              refine r_istore (pc := 113) dX4_weeksLoaded_113 (by decide) ?_
              refine r_iload_n (pc := 115) (L := [some (.ref b0), some (.int l1), some (.int l2), some (.int l3), some (.int l4), some (.int l5), some (.int l6), some (.ref c_4), some (.int (f_held x c_4)), none]) dX4_weeksLoaded_115 rfl ?_
              refine r_istore (pc := 116) dX4_weeksLoaded_116 (by decide) ?_
              exact r_le (L' := [some (.ref b0), some (.int l1), some (.int l2), some (.int l3), some (.int l4), some (.int l5), some (.int l6), some (.ref c_4), some (.int (f_held x c_4)), some (.int l3)]) ⟨rfl, ⟨rfl, ⟨rfl, ⟨rfl, ⟨rfl, ⟨rfl, ⟨rfl, ⟨rfl, ⟨rfl, ⟨rfl, trivial⟩⟩⟩⟩⟩⟩⟩⟩⟩⟩ K0
set_option maxHeartbeats 2000000 in
theorem v_X4_weeksLoaded_118 {K : Sh} {x : Cn} {Q : Int32 → Cn → Prop} {b0 : Nat} {l1 : Int32} {l2 : Int32} {l3 : Int32} {l4 : Int32} {l5 : Int32} {l6 : Int32} {b7 : Nat} {l8 : Int32} {l9 : Int32} {b0_9 : Nat} {n_b0_9 : Nat} (k_b0 : kk K b0 = some (4, 0)) (g_b0_9 : gr x b0 9 = some b0_9) (k_b0_9 : kk K b0_9 = some (20, n_b0_9)) (K0 : (l9 < 1 → (GI mX4_weeksLoaded 49 [some (.ref b0), some (.int l1), some (.int l2), some (.int l3), some (.int l4), some (.int l5), some (.int (l6 + 1)), none, none, none] [] K x Q)) ∧ (¬ l9 < 1 → (vp_in l9 n_b0_9 ∧ (vp_in (l9 - 1) n_b0_9 ∧ (GI mX4_weeksLoaded 118 [some (.ref b0), some (.int l1), some (.int l2), some (.int l3), some (.int l4), some (.int l5), some (.int l6), some (.ref b7), some (.int l8), some (.int (l9 + (-1)))] [] K (ui x b0_9 (l9 : Int32).toNatClampNeg ((gi x b0_9 (l9 : Int32).toNatClampNeg) ||| ((gi x b0_9 ((l9 - 1) : Int32).toNatClampNeg) &&& l8))) Q))))) : GI mX4_weeksLoaded 118 [some (.ref b0), some (.int l1), some (.int l2), some (.int l3), some (.int l4), some (.int l5), some (.int l6), some (.ref b7), some (.int l8), some (.int l9)] [] K x Q := by
  show mGM mX4_weeksLoaded 118 [some (.ref b0), some (.int l1), some (.int l2), some (.int l3), some (.int l4), some (.int l5), some (.int l6), some (.ref b7), some (.int l8), some (.int l9)] [] (hp K x) (PI K Q)
  refine r_iload (pc := 118) dX4_weeksLoaded_118 rfl ?_
  refine r_iconst (pc := 120) (v := 1) dX4_weeksLoaded_120 (by decide) ?_
  refine r_icmp_lt (pc := 121) (tgt := 152) dX4_weeksLoaded_121 (by decide) (fun q => ?_) (fun q => ?_)
  · have K0 := K0.1 q
    refine r_iinc (pc := 152) (v := l6 + 1) dX4_weeksLoaded_152 rfl rfl (by decide) ?_
    refine r_goto (pc := 155) (L := [some (.ref b0), some (.int l1), some (.int l2), some (.int l3), some (.int l4), some (.int l5), some (.int (l6 + 1)), some (.ref b7), some (.int l8), some (.int l9)]) (tgt := 49) dX4_weeksLoaded_155 (by decide) ?_
    exact r_le (L' := [some (.ref b0), some (.int l1), some (.int l2), some (.int l3), some (.int l4), some (.int l5), some (.int (l6 + 1)), none, none, none]) ⟨rfl, ⟨rfl, ⟨rfl, ⟨rfl, ⟨rfl, ⟨rfl, ⟨rfl, trivial⟩⟩⟩⟩⟩⟩⟩ K0
  · have K0 := K0.2 q
    refine r_aload_n (pc := 124) dX4_weeksLoaded_124 rfl ?_
    refine s_getR (pc := 125) dX4_weeksLoaded_125 fl_X4_46 rfl k_b0 g_b0_9 ?_
    refine r_iload (pc := 128) dX4_weeksLoaded_128 rfl ?_
    refine r_dup2 (pc := 130) dX4_weeksLoaded_130 rfl rfl ?_
    obtain ⟨i_2, K0⟩ := K0
    refine s_iald (pc := 131) dX4_weeksLoaded_131 k_b0_9 i_2 ?_
    refine r_aload_n (pc := 132) dX4_weeksLoaded_132 rfl ?_
    refine s_getR (pc := 133) dX4_weeksLoaded_133 fl_X4_46 rfl k_b0 g_b0_9 ?_
    refine r_iload (pc := 136) dX4_weeksLoaded_136 rfl ?_
    refine r_iconst (pc := 138) (v := 1) dX4_weeksLoaded_138 (by decide) ?_
    refine r_isub (pc := 139) dX4_weeksLoaded_139 ?_
    obtain ⟨i_3, K0⟩ := K0
    refine s_iald (pc := 140) dX4_weeksLoaded_140 k_b0_9 i_3 ?_
    refine r_iload (pc := 141) dX4_weeksLoaded_141 rfl ?_
    refine r_iand (pc := 143) dX4_weeksLoaded_143 ?_
    refine r_ior (pc := 144) dX4_weeksLoaded_144 ?_
    refine s_iast (pc := 145) dX4_weeksLoaded_145 k_b0_9 i_2 ?_
    refine r_iinc (pc := 146) (v := l9 + (-1)) dX4_weeksLoaded_146 rfl rfl (by decide) ?_
    refine r_goto (pc := 149) (L := [some (.ref b0), some (.int l1), some (.int l2), some (.int l3), some (.int l4), some (.int l5), some (.int l6), some (.ref b7), some (.int l8), some (.int (l9 + (-1)))]) (tgt := 118) dX4_weeksLoaded_149 (by decide) ?_
    exact r_le (L' := [some (.ref b0), some (.int l1), some (.int l2), some (.int l3), some (.int l4), some (.int l5), some (.int l6), some (.ref b7), some (.int l8), some (.int (l9 + (-1)))]) ⟨rfl, ⟨rfl, ⟨rfl, ⟨rfl, ⟨rfl, ⟨rfl, ⟨rfl, ⟨rfl, ⟨rfl, ⟨rfl, trivial⟩⟩⟩⟩⟩⟩⟩⟩⟩⟩ K0
section
theorem lp_X4_weeksLoaded_118 {x : Cn} {Q : Int32 → Cn → Prop} {q : Nat} {T : TT} {W C S A N : Nat} (E : SEA x q T W C S A N) {d h io wo held : Int32} {b7 m s : Nat} (hm : m ≤ 24) (hh : ∀ i, i < 32 → tb held i = cW T s i d h io wo) (hs : s < 24)
    (k : ∀ y, EQx x y (q + 5) → (∀ j, j ≤ m → ∀ i, i < 32 → tb (gi y (q + 5) j) i = decide (j ≤ nW T (s + 1) i d h io wo)) → GI mX4_weeksLoaded 49 [some (.ref q), some (.int d), some (.int h), some (.int (nI m)), some (.int io), some (.int wo), some (.int (nI (s + 1))), none, none, none] [] KW y Q) :
    ∀ (n : Nat) (y : Cn), n ≤ m → EQx x y (q + 5) → (∀ j, j ≤ n → ∀ i, i < 32 → tb (gi y (q + 5) j) i = decide (j ≤ nW T s i d h io wo)) → (∀ j, n < j → j ≤ m → ∀ i, i < 32 → tb (gi y (q + 5) j) i = decide (j ≤ nW T (s + 1) i d h io wo)) → GI mX4_weeksLoaded 118 [some (.ref q), some (.int d), some (.int h), some (.int (nI m)), some (.int io), some (.int wo), some (.int (nI s)), some (.ref b7), some (.int held), some (.int (nI n))] [] KW y Q := by
  intro n
  induction n with
  | zero =>
    intro y hn hy h0 h1
    have E2 := E.eqx hy (Or.inl rfl)
    refine v_X4_weeksLoaded_118 (ks0 E.1) E2.2.1.2.2.2.2.1 (ks5 E.1) ⟨fun _ => ?_, fun z => ?_⟩
    · rw [nI_1]
      refine k y hy (fun j hj i hi => ?_)
      rcases Nat.eq_zero_or_pos j with rfl | hp
      · rw [h0 0 (Nat.le_refl 0) i hi]
        simp
      · exact h1 j hp hj i hi
    · exact absurd (by decide) z
  | succ n ih =>
    intro y hn hy h0 h1
    have E2 := E.eqx hy (Or.inl rfl)
    refine v_X4_weeksLoaded_118 (ks0 E.1) E2.2.1.2.2.2.2.1 (ks5 E.1) ⟨fun z => ?_, fun _ => ⟨vp_in_nI (by omega) (by decide), ?_, ?_⟩⟩
    · exact absurd z (show ¬ nI (n + 1) < nI 1 from nI_nlt (by omega) (by omega))
    · rw [nI_pred]
      exact vp_in_nI (by omega) (by decide)
    · rw [pk_m1, nI_pred, nI_clamp (by omega), nI_clamp (by omega)]
      refine ih _ (by omega) hy.ui (fun j hj i hi => ?_) (fun j hj hjm i hi => ?_)
      · rw [gi_ui, if_neg (by omega)]
        exact h0 j (by omega) i hi
      · by_cases hjn : j = n + 1
        · subst hjn
          rw [gi_ui, if_pos ⟨rfl, rfl⟩, tb_or, tb_and, h0 (n + 1) (Nat.le_refl _) i hi, h0 n (by omega) i hi, hh i hi]
          have : nW T (s + 1) i d h io wo = nW T s i d h io wo + (if cW T s i d h io wo = true then 1 else 0) := rfl
          rw [this]
          cases cW T s i d h io wo <;> simp <;> omega
        · rw [gi_ui, if_neg (by omega)]
          exact h1 j (by omega) hjm i hi
theorem lp_X4_weeksLoaded_49 {x : Cn} {Q : Int32 → Cn → Prop} {q : Nat} {T : TT} {W C S A N : Nat} (E : SEA x q T W C S A N) {d h io wo : Int32} {m : Nat} (hm : m ≤ S)
    (k : ∀ r y, EQx x y (q + 5) → isWL T S d h io wo (nI m) r → Q r y) :
    ∀ (n s : Nat) (y : Cn), s + n = S → EQx x y (q + 5) → (∀ j, j ≤ m → ∀ i, i < 32 → tb (gi y (q + 5) j) i = decide (j ≤ nW T s i d h io wo)) → GI mX4_weeksLoaded 49 [some (.ref q), some (.int d), some (.int h), some (.int (nI m)), some (.int io), some (.int wo), some (.int (nI s)), none, none, none] [] KW y Q := by
  have hS := E.nums.2.2.2.2.2.2.1
  intro n
  induction n with
  | zero =>
    intro s y hs hy h0
    have E2 := E.eqx hy (Or.inl rfl)
    have hn := E2.nums
    refine v_X4_weeksLoaded_49 (ks0 E.1) E2.2.1.2.2.2.2.1 (ks5 E.1) E2.2.1.2.2.1 (ks3 E.1) ⟨fun _ => ⟨vp_in_nI (by omega) (by decide), ?_⟩, fun z => ?_⟩
    · rw [nI_clamp (by omega)]
      refine k _ y hy (fun i hi => ?_)
      have hc : nW T S i d h io wo ≤ S := cnt_le _ _
      rw [h0 m (Nat.le_refl _) i hi, decide_eq_true_iff, show s = S by omega, nI_leI (by omega) (by omega)]
    · exact absurd (by rw [hn.2.2.1]; exact nI_le (by omega) (by omega)) z
  | succ n ih =>
    intro s y hs hy h0
    have E2 := E.eqx hy (Or.inl rfl)
    have hn := E2.nums
    obtain ⟨p, e1, e2, e3, e4, -, -⟩ := E2.ser (s := s) (by omega)
    have skip : ¬ (so T s 1 = d ∧ so T s 2 = h ∧ ¬ tb wo s = true ∧ (so T s 3 = 0 ∨ io = 0)) → GI mX4_weeksLoaded 49 [some (.ref q), some (.int d), some (.int h), some (.int (nI m)), some (.int io), some (.int wo), some (.int (nI s + 1)), none, none, none] [] KW y Q := by
      intro z
      rw [nI_1]
      refine ih (s + 1) y (by omega) hy (fun j hj i hi => ?_)
      rw [h0 j hj i hi]
      have : nW T (s + 1) i d h io wo = nW T s i d h io wo + (if cW T s i d h io wo = true then 1 else 0) := rfl
      rw [this, show cW T s i d h io wo = false by unfold cW; rw [decide_eq_false z]; rfl]
      rfl
    have take : (so T s 1 = d ∧ so T s 2 = h ∧ ¬ tb wo s = true ∧ (so T s 3 = 0 ∨ io = 0)) → GI mX4_weeksLoaded 118 [some (.ref q), some (.int d), some (.int h), some (.int (nI m)), some (.int io), some (.int wo), some (.int (nI s)), some (.ref p), some (.int (f_held y p)), some (.int (nI m))] [] KW y Q := by
      intro z
      refine lp_X4_weeksLoaded_118 E (by omega) (fun i hi => ?_) (by omega) (fun y2 hy2 g => ih (s + 1) y2 (by omega) hy2 g) m y (Nat.le_refl _) hy h0 (fun j h1 h2 => by omega)
      rw [e4]
      unfold cW
      rw [decide_eq_true z]
      simp
    refine v_X4_weeksLoaded_49 (ks0 E.1) E2.2.1.2.2.2.2.1 (ks5 E.1) E2.2.1.2.2.1 (ks3 E.1) ⟨fun z => ?_, fun _ => ⟨vp_in_nI (by omega) (by decide), p, by rw [nI_clamp (by omega)]; exact e1, e2, ?_⟩⟩
    · rw [hn.2.2.1] at z
      exact absurd z (nI_ge (by omega) (by omega))
    · rw [e3.1 1 (by decide) (by decide), e3.1 2 (by decide) (by decide), e3.1 3 (by decide) (by decide), f_bit_tb _ (by omega)]
      exact ⟨fun z => skip (fun g => z g.1), fun z1 => ⟨fun z => skip (fun g => z g.2.1), fun z2 => ⟨fun z => skip (fun g => g.2.2.1 z), fun z3 => ⟨fun z => take ⟨z1, z2, z3, Or.inl z⟩, fun z4 => ⟨fun z => skip (fun g => g.2.2.2.elim z4 z), fun z => take ⟨z1, z2, z3, Or.inr z⟩⟩⟩⟩⟩⟩
theorem lp_X4_weeksLoaded_26 {x : Cn} {Q : Int32 → Cn → Prop} {q : Nat} {T : TT} {W C S A N : Nat} (E : SEA x q T W C S A N) {d h io wo : Int32} {m : Nat} (hm : m ≤ S)
    (k : ∀ r y, EQx x y (q + 5) → isWL T S d h io wo (nI m) r → Q r y) :
    ∀ (n j : Nat) (y : Cn), j + n = m + 1 → 1 ≤ j → EQx x y (q + 5) → gi y (q + 5) 0 = -1 → (∀ i, 1 ≤ i → i < j → gi y (q + 5) i = 0) → GI mX4_weeksLoaded 26 [some (.ref q), some (.int d), some (.int h), some (.int (nI m)), some (.int io), some (.int wo), some (.int (nI j)), none, none, none] [] KW y Q := by
  have hS := E.nums.2.2.2.2.2.2.1
  intro n
  induction n with
  | zero =>
    intro j y hj h1 hy g0 g1
    have E2 := E.eqx hy (Or.inl rfl)
    refine v_X4_weeksLoaded_26 (ks0 E.1) E2.2.1.2.2.2.2.1 (ks5 E.1) ⟨fun _ => ?_, fun z => ?_⟩
    · refine lp_X4_weeksLoaded_49 E hm k S 0 y (by omega) hy (fun i hi b hb => ?_)
      rcases Nat.eq_zero_or_pos i with rfl | hp
      · rw [g0, tb_m1 hb]
        simp
      · rw [g1 i hp (by omega), tb_0]
        show false = decide (i ≤ 0)
        rw [decide_eq_false (by omega)]
    · exact absurd (nI_lt (show m < j by omega) (by omega)) z
  | succ n ih =>
    intro j y hj h1 hy g0 g1
    have E2 := E.eqx hy (Or.inl rfl)
    refine v_X4_weeksLoaded_26 (ks0 E.1) E2.2.1.2.2.2.2.1 (ks5 E.1) ⟨fun z => ?_, fun _ => ⟨vp_in_nI (by omega) (by decide), ?_⟩⟩
    · exact absurd z (nI_nlt (by omega) (by omega))
    · rw [nI_1, nI_clamp (by omega)]
      refine ih (j + 1) _ (by omega) (by omega) hy.ui ?_ (fun i hi hij => ?_)
      · rw [gi_ui, if_neg (by omega)]
        exact g0
      · by_cases hij2 : i = j
        · subst hij2
          rw [gi_ui, if_pos ⟨rfl, rfl⟩]
        · rw [gi_ui, if_neg (fun z => hij2 z.2)]
          exact g1 i hi (by omega)
theorem sp_X4_weeksLoaded {x : Cn} {Q : Int32 → Cn → Prop} {q : Nat} {T : TT} {W C S A N : Nat} (E : SEA x q T W C S A N) {d h least io wo : Int32} (k : ∀ r y, EQx x y (q + 5) → isWL T S d h io wo least r → Q r y) : mSI mX4_weeksLoaded [.ref q, .int d, .int h, .int least, .int io, .int wo] KW x Q := by
  have hn := E.nums
  have hS := hn.2.2.2.2.2.2.1
  refine v_X4_weeksLoaded_0 (ks0 E.1) E.2.1.2.2.2.2.1 (ks5 E.1) ⟨fun z => ⟨fun z2 => ⟨iv0 0 25 (by decide) (by decide) (by decide), ?_⟩, fun z2 => ?_⟩, fun z => ?_⟩
  · obtain ⟨m, hm, rfl⟩ := nI_of (x := least) (Int32.not_lt.mpr (Int32.le_of_lt z))
    rw [hn.2.2.1, nI_leI hm (by omega)] at z2
    exact lp_X4_weeksLoaded_26 E z2 k m 1 _ (by omega) (by omega) (EQx.rf x _).ui (by rw [gi_ui, if_pos ⟨rfl, rfl⟩]) (fun i h1 h2 => by omega)
  · refine k 0 x (EQx.rf x _) (fun i hi => ⟨fun g => ?_, fun g => ?_⟩)
    · rw [tb_0] at g
      cases g
    · have hc : nW T S i d h io wo ≤ S := cnt_le _ _
      refine absurd (Int32.le_trans g ?_) z2
      rw [hn.2.2.1]
      exact nI_le hc (by omega)
  · refine k (-1) x (EQx.rf x _) (fun i hi => ⟨fun _ => ?_, fun _ => tb_m1 hi⟩)
    have hc : nW T S i d h io wo ≤ S := cnt_le _ _
    exact Int32.le_trans (Int32.not_lt.mp z) (nI_pos' (by omega))

end

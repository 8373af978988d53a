theorem cnt_pos {f : Nat → Bool} : ∀ n, 0 < cnt f n → ∃ i, i < n ∧ f i = true := by
  intro n
  induction n with
  | zero => intro h; exact absurd h (by simp [cnt])
  | succ n ih =>
    intro h
    simp only [cnt] at h
    by_cases c : f n = true
    · exact ⟨n, by omega, c⟩
    · rw [if_neg c, Nat.add_zero] at h
      obtain ⟨i, hi, e⟩ := ih h
      exact ⟨i, by omega, e⟩
theorem cnt_pos' {f : Nat → Bool} {i : Nat} (hf : f i = true) : ∀ n, i < n → 0 < cnt f n := by
  intro n
  induction n with
  | zero => intro h; exact absurd h (by omega)
  | succ n ih =>
    intro h
    simp only [cnt]
    by_cases c : i = n
    · rw [← c, if_pos hf]; omega
    · have := ih (by omega)
      omega
def Lw (T : TT) (S w d h : Nat) : Nat := nW T S w (nI d) (nI h) 0 0
def inR (N W w d h : Nat) : Prop := N ≤ w ∧ w < W ∧ d < 7 ∧ h < 24
def ky (w d h : Nat) : Nat := 1000 * w + 100 * d + h
/-- the greatest so far, of the keys below K, and the first place that has it -/
def PKv (T : TT) (S W N K g p : Nat) : Prop := (∃ w d h, inR N W w d h ∧ ky w d h < K ∧ Lw T S w d h = g ∧ p = ky w d h) ∧ ∀ w d h, inR N W w d h → ky w d h < K → Lw T S w d h < g ∨ (Lw T S w d h = g ∧ p ≤ ky w d h)
theorem PKv.uq {T : TT} {S W N g p g' p' : Nat} (a : PKv T S W N 100000 g p) (b : PKv T S W N 100000 g' p') : g = g' ∧ p = p' := by
  obtain ⟨⟨w, d, h, h1, h2, h3, h4⟩, h5⟩ := a
  obtain ⟨⟨w', d', h', i1, i2, i3, i4⟩, i5⟩ := b
  have j1 := i5 w d h h1 h2
  have j2 := h5 w' d' h' i1 i2
  omega
def sdy (T : TT) (s : Nat) : Nat := (so T s 1).toNatClampNeg
def shr (T : TT) (s : Nat) : Nat := (so T s 2).toNatClampNeg
/-- the landed one's way: held weeks of series ahead of (vw, vs) are seen -/
def CI (T : TT) (S W N vw vs g p : Nat) : Prop := ((g = 0 ∧ p = 1000 * N) ∨ (0 < g ∧ ∃ w d h, inR N W w d h ∧ Lw T S w d h = g ∧ p = ky w d h)) ∧ ∀ w s, N ≤ w → w < W → s < S → tb (bas T s) w = true → (w < vw ∨ (w = vw ∧ s < vs)) → Lw T S w (sdy T s) (shr T s) < g ∨ (Lw T S w (sdy T s) (shr T s) = g ∧ p ≤ ky w (sdy T s) (shr T s))
theorem Wse.dh {T : TT} {C W s : Nat} (w : Wse T C W s) : sdy T s < 7 ∧ so T s 1 = nI (sdy T s) ∧ shr T s < 24 ∧ so T s 2 = nI (shr T s) := by
  obtain ⟨-, ⟨d, d1, d2⟩, ⟨h, h1, h2⟩, -⟩ := w
  unfold sdy shr
  rw [d2, h2, nI_clamp (by omega), nI_clamp (by omega)]
  exact ⟨d1, rfl, h1, rfl⟩
theorem CI.fin {T : TT} {S W N C g p : Nat} (hW : W ≤ 30) (hN : N < W) (ws : ∀ s, s < S → Wse T C W s) (c : CI T S W N W 0 g p) : PKv T S W N 100000 g p := by
  obtain ⟨c1, c2⟩ := c
  have pl : ∀ w d h, inR N W w d h → ky w d h < 100000 := fun w d h z => by unfold inR at z; unfold ky; omega
  have all : ∀ w d h, inR N W w d h → Lw T S w d h < g ∨ (Lw T S w d h = g ∧ p ≤ ky w d h) := by
    intro w d h hr
    by_cases z : 0 < Lw T S w d h
    · unfold Lw nW at z
      obtain ⟨s, hs, e⟩ := cnt_pos S z
      unfold cW at e
      simp only [Bool.and_eq_true, decide_eq_true_eq] at e
      obtain ⟨k1, k2, k3, k4⟩ := (ws s hs).dh
      have h1 : sdy T s = d := (nI_eq (by omega) (by unfold inR at hr; omega)).mp (k2.symm.trans e.1.1)
      have h2 : shr T s = h := (nI_eq (by omega) (by unfold inR at hr; omega)).mp (k4.symm.trans e.1.2.1)
      have := c2 w s hr.1 hr.2.1 hs e.2 (Or.inl hr.2.1)
      rwa [h1, h2] at this
    · rcases c1 with ⟨g0, p0⟩ | ⟨g1, -⟩
      · exact Or.inr ⟨by omega, by rw [p0]; unfold inR at hr; unfold ky; omega⟩
      · exact Or.inl (by omega)
  refine ⟨?_, fun w d h hr _ => all w d h hr⟩
  rcases c1 with ⟨g0, p0⟩ | ⟨-, w, d, h, h1, h2, h3⟩
  · have hr : inR N W N 0 0 := ⟨Nat.le_refl _, hN, by omega, by omega⟩
    refine ⟨N, 0, 0, hr, pl _ _ _ hr, ?_, by rw [p0]; unfold ky; omega⟩
    have := all N 0 0 hr
    omega
  · exact ⟨w, d, h, h1, pl _ _ _ h1, h2, h3⟩
theorem CI.nx {T : TT} {S W N w g p : Nat} (c : CI T S W N w S g p) : CI T S W N (w + 1) 0 g p := ⟨c.1, fun v s h1 h2 h3 h4 h5 => c.2 v s h1 h2 h3 h4 (by omega)⟩
theorem CI.no {T : TT} {S W N w s g p : Nat} (c : CI T S W N w s g p) (h : ¬ tb (bas T s) w = true) : CI T S W N w (s + 1) g p := ⟨c.1, fun v u h1 h2 h3 h4 h5 => by
  by_cases z : v = w ∧ u = s
  · rw [z.1, z.2] at h4
    exact absurd h4 h
  · exact c.2 v u h1 h2 h3 h4 (by omega)⟩
theorem CI.up {T : TT} {S W N C w s g p g' p' : Nat} (c : CI T S W N w s g p) (ws : Wse T C W s) (h1 : N ≤ w) (h2 : w < W) (hs : s < S) (hb : tb (bas T s) w = true) (k : (g < Lw T S w (sdy T s) (shr T s) ∧ g' = Lw T S w (sdy T s) (shr T s) ∧ p' = ky w (sdy T s) (shr T s)) ∨ (Lw T S w (sdy T s) (shr T s) = g ∧ ky w (sdy T s) (shr T s) < p ∧ g' = g ∧ p' = ky w (sdy T s) (shr T s)) ∨ ((Lw T S w (sdy T s) (shr T s) < g ∨ (Lw T S w (sdy T s) (shr T s) = g ∧ p ≤ ky w (sdy T s) (shr T s))) ∧ g' = g ∧ p' = p)) : CI T S W N w (s + 1) g' p' := by
  obtain ⟨k1, k2, k3, k4⟩ := ws.dh
  have hpos : 0 < Lw T S w (sdy T s) (shr T s) := by
    unfold Lw nW
    refine cnt_pos' (i := s) ?_ S hs
    unfold cW
    rw [hb, Bool.and_true, decide_eq_true_eq]
    exact ⟨k2, k4, by rw [tb_0]; decide, Or.inr rfl⟩
  have hr : inR N W w (sdy T s) (shr T s) := ⟨h1, h2, k1, k3⟩
  refine ⟨?_, fun v u i1 i2 i3 i4 i5 => ?_⟩
  · rcases k with ⟨a1, a2, a3⟩ | ⟨a1, a2, a3, a4⟩ | ⟨a1, a2, a3⟩
    · exact Or.inr ⟨by omega, w, _, _, hr, a2.symm, a3⟩
    · exact Or.inr ⟨by omega, w, _, _, hr, by omega, a4⟩
    · rw [a2, a3]; exact c.1
  · by_cases z : v = w ∧ u = s
    · rw [z.1, z.2]
      omega
    · have := c.2 v u i1 i2 i3 i4 (by omega)
      omega
theorem PKv.up {T : TT} {S W N w d h : Nat} (hr : inR N W w d h) {g p g' p' : Nat} (c : PKv T S W N (ky w d h) g p) (k : (g < Lw T S w d h ∧ g' = Lw T S w d h ∧ p' = ky w d h) ∨ (Lw T S w d h ≤ g ∧ g' = g ∧ p' = p)) : PKv T S W N (ky w d (h + 1)) g' p' := by
  obtain ⟨⟨w1, d1, e1, i1, i2, i3, i4⟩, c2⟩ := c
  refine ⟨?_, fun w2 d2 e2 j1 j2 => ?_⟩
  · rcases k with ⟨a1, a2, a3⟩ | ⟨a1, a2, a3⟩
    · exact ⟨w, d, h, hr, by unfold ky; omega, a2.symm, a3⟩
    · exact ⟨w1, d1, e1, i1, by unfold ky at i2 ⊢; omega, by omega, by omega⟩
  · by_cases z : w2 = w ∧ d2 = d ∧ e2 = h
    · rw [z.1, z.2.1, z.2.2]
      have : p < ky w d h := by omega
      omega
    · have h3 : ky w2 d2 e2 < ky w d h := by
        unfold inR at hr j1
        unfold ky at j2 ⊢
        omega
      have := c2 w2 d2 e2 j1 h3
      omega
theorem PKv.st {T : TT} {S W N : Nat} (h0 : N < W) : PKv T S W N (ky N 0 1) (Lw T S N 0 0) (ky N 0 0) := by
  refine ⟨⟨N, 0, 0, ⟨Nat.le_refl _, h0, by omega, by omega⟩, by unfold ky; omega, rfl, rfl⟩, fun w d h hr hk => ?_⟩
  have : w = N ∧ d = 0 ∧ h = 0 := by
    unfold inR at hr
    unfold ky at hk
    omega
  rw [this.1, this.2.1, this.2.2]
  exact Or.inr ⟨rfl, Nat.le_refl _⟩
theorem PKv.cg {T : TT} {S W N K K' g p : Nat} (c : PKv T S W N K g p) (h : ∀ w d h, inR N W w d h → (ky w d h < K ↔ ky w d h < K')) : PKv T S W N K' g p := by
  obtain ⟨⟨w1, d1, e1, i1, i2, i3, i4⟩, c2⟩ := c
  exact ⟨⟨w1, d1, e1, i1, (h _ _ _ i1).mp i2, i3, i4⟩, fun w d e j1 j2 => c2 w d e j1 ((h _ _ _ j1).mpr j2)⟩
/-- the reference's way, at key K -/
def RI (T : TT) (S W N K : Nat) (m v : Int32) : Prop := (K = ky N 0 0 ∧ m = -1 ∧ v = -1) ∨ ∃ g p, m = nI g ∧ v = nI p ∧ PKv T S W N K g p
theorem RI.cg {T : TT} {S W N K K' : Nat} {m v : Int32} (c : RI T S W N K m v) (hk : ky N 0 0 < K) (h : ∀ w d h, inR N W w d h → (ky w d h < K ↔ ky w d h < K')) : RI T S W N K' m v := by
  rcases c with ⟨c1, -, -⟩ | ⟨g, p, c1, c2, c3⟩
  · omega
  · exact Or.inr ⟨g, p, c1, c2, c3.cg h⟩
theorem Lw_le {T : TT} {S w d h : Nat} (hS : S ≤ 24) : Lw T S w d h ≤ 24 := Nat.le_trans (cnt_le _ _) hS
theorem RI.up {T : TT} {S W N w d h : Nat} (hS : S ≤ 24) (hr : inR N W w d h) {m v : Int32} (c : RI T S W N (ky w d h) m v) : (m < nI (Lw T S w d h) → RI T S W N (ky w d (h + 1)) (nI (Lw T S w d h)) (nI (ky w d h))) ∧ (¬ m < nI (Lw T S w d h) → RI T S W N (ky w d (h + 1)) m v) := by
  have hl := Lw_le (T := T) (w := w) (d := d) (h := h) hS
  rcases c with ⟨c1, c2, c3⟩ | ⟨g, p, c1, c2, c3⟩
  · have e : w = N ∧ d = 0 ∧ h = 0 := by
      unfold inR at hr
      unfold ky at c1
      omega
    obtain ⟨rfl, rfl, rfl⟩ := e
    refine ⟨fun _ => Or.inr ⟨_, _, rfl, rfl, PKv.st hr.2.1⟩, fun z => absurd ?_ z⟩
    rw [c2]
    have : (0 : Int32) ≤ nI (Lw T S w 0 0) := nI_pos' (by omega)
    exact Int32.lt_of_lt_of_le (by decide) this
  · have hg : g ≤ 24 := by
      obtain ⟨⟨w1, d1, e1, i1, i2, i3, i4⟩, -⟩ := c3
      rw [← i3]
      exact Lw_le hS
    rw [c1, nI_ltI (by omega) (by omega)]
    exact ⟨fun z => Or.inr ⟨_, _, rfl, rfl, c3.up hr (Or.inl ⟨z, rfl, rfl⟩)⟩, fun z => Or.inr ⟨g, p, rfl, c2, c3.up hr (Or.inr ⟨by omega, rfl, rfl⟩)⟩⟩
theorem i_ky (w d h : Nat) : (((1000 : Int32) * nI w) + (100 * nI d)) + nI h = nI (ky w d h) := by
  unfold ky
  rw [show (1000 : Int32) = nI 1000 by decide, show (100 : Int32) = nI 100 by decide, pk_mul, pk_mul, nI_add, nI_add]
/-- what peak answers -/
def Pr (T : TT) (S W N : Nat) (a r : Int32) : Prop := (¬ (0 < nI W ∧ 0 ≤ a ∧ a ≤ 1) → r = -2) ∧ ((0 < nI W ∧ 0 ≤ a ∧ a ≤ 1) → W ≤ N → r = -1) ∧ ((0 < nI W ∧ 0 ≤ a ∧ a ≤ 1) → N < W → ∃ g p, PKv T S W N 100000 g p ∧ r = if a = 0 then nI g else nI p)
theorem Pr.uq {T : TT} {S W N : Nat} {a r r' : Int32} (h : Pr T S W N a r) (k : Pr T S W N a r') : r = r' := by
  by_cases z : 0 < nI W ∧ 0 ≤ a ∧ a ≤ 1
  · by_cases c : W ≤ N
    · rw [h.2.1 z c, k.2.1 z c]
    · obtain ⟨g, p, h1, h2⟩ := h.2.2 z (by omega)
      obtain ⟨g', p', k1, k2⟩ := k.2.2 z (by omega)
      obtain ⟨e1, e2⟩ := h1.uq k1
      rw [h2, k2, e1, e2]
  · rw [h.1 z, k.1 z]
set_option maxHeartbeats 2000000 in
theorem v_X7_peak_0 {K : Sh} {x : Cn} {Q : Int32 → Cn → Prop} {b0 : Nat} {l1 : Int32} {b0_2 : Nat} (k_b0 : kk K b0 = some (7, 0)) (g_b0_2 : gr x b0 2 = some b0_2) (k_b0_2 : kk K b0_2 = some (4, 0)) (K0 : (¬ (0 < gi x b0_2 0) → (Q (-2) x)) ∧ ((0 < gi x b0_2 0) → (((0 ≤ l1 ∧ l1 ≤ 1) → ((¬ (gi x b0_2 0 ≤ gi x b0_2 1) → (GI mX7_peak 54 [some (.ref b0), some (.int l1), some (.int 0), some (.int (1000 * (gi x b0_2 1))), some (.int (gi x b0_2 1)), none, none, none, none] [] K x Q)) ∧ ((gi x b0_2 0 ≤ gi x b0_2 1) → (Q (-1) x)))) ∧ (¬ (0 ≤ l1 ∧ l1 ≤ 1) → (Q (-2) x))))) : mSI mX7_peak [.ref b0, .int l1] K x Q := by
  refine s_I (by decide) (by simp [Value.category]) (Nat.le_of_ble_eq_true rfl) ?_
  show mGM mX7_peak 0 [some (.ref b0), some (.int l1), none, none, none, none, none, none, none] [] (hp K x) (PI K Q)
  refine r_aload_n (pc := 0) dX7_peak_0 rfl ?_
  refine s_VI (pc := 1) mX7_hasText (ci := 7) (a := b0) (As := []) dX7_peak_1 lk_X7_121 in_X7_hasText mo_X7_hasText ⟨by decide, rfl⟩ ⟨by decide, by decide⟩ (Nat.le_of_ble_eq_true rfl) k_b0 (sp_X7_hasText k_b0 g_b0_2 k_b0_2 ?_)
  refine r_if_eq (pc := 4) (tgt := 16) dX7_peak_4 (by decide) (fun q => ?_) (fun q => ?_)
  · have q := (b2i_z _).mp q
    have K0 := K0.1 q
    refine r_bipush (pc := 16) (v := (-2)) dX7_peak_16 (by decide) ?_
    exact s_iret rfl dX7_peak_18 K0
  · have q := b2i_nz q
    have K0 := K0.2 q
    refine r_iload_n (pc := 7) dX7_peak_7 rfl ?_
    refine r_iconst (pc := 8) (v := 0) dX7_peak_8 (by decide) ?_
    refine r_iconst (pc := 9) (v := 1) dX7_peak_9 (by decide) ?_
    refine s_SI (pc := 10) mX7_isWithin (As := [.int l1, .int 0, .int 1]) dX7_peak_10 lk_X7_113 st_X7_isWithin mo_X7_isWithin ⟨by decide, by decide⟩ (Nat.le_of_ble_eq_true rfl) (sp_X7_isWithin  ?_)
    refine r_if_ne (pc := 13) (tgt := 19) dX7_peak_13 (by decide) (fun q => ?_) (fun q => ?_)
    · have q := b2i_nz q
      have K0 := K0.1 q
      refine r_aload_n (pc := 19) dX7_peak_19 rfl ?_
      refine s_getR (pc := 20) dX7_peak_20 fl_X7_20 rfl k_b0 g_b0_2 ?_
      refine s_VI (pc := 23) mX4_isOver (ci := 4) (a := b0_2) (As := []) dX7_peak_23 lk_X7_279 in_X4_isOver mo_X4_isOver ⟨by decide, rfl⟩ ⟨by decide, by decide⟩ (Nat.le_of_ble_eq_true rfl) k_b0_2 (sp_X4_isOver k_b0_2 ?_)
      refine r_if_eq (pc := 26) (tgt := 31) dX7_peak_26 (by decide) (fun q => ?_) (fun q => ?_)
      · have q := (b2i_z _).mp q
        have K0 := K0.1 q
        refine r_iconst (pc := 31) (v := 0) dX7_peak_31 (by decide) ?_
        refine r_istore_n (pc := 32) dX7_peak_32 (by decide) ?_
        refine r_sipush (pc := 33) (L := [some (.ref b0), some (.int l1), some (.int 0), none, none, none, none, none, none]) (v := 1000) dX7_peak_33 (by decide) ?_
        refine r_aload_n (pc := 36) dX7_peak_36 rfl ?_
        refine s_getR (pc := 37) dX7_peak_37 fl_X7_20 rfl k_b0 g_b0_2 ?_
        refine s_getI (pc := 40) dX7_peak_40 fl_X7_103 rfl k_b0_2 ?_
        refine r_imul (pc := 43) dX7_peak_43 ?_
        refine r_istore_n (pc := 44) dX7_peak_44 (by decide) ?_
        refine r_aload_n (pc := 45) (L := [some (.ref b0), some (.int l1), some (.int 0), some (.int (1000 * (gi x b0_2 1))), none, none, none, none, none]) dX7_peak_45 rfl ?_
        refine s_getR (pc := 46) dX7_peak_46 fl_X7_20 rfl k_b0 g_b0_2 ?_
        refine s_getI (pc := 49) dX7_peak_49 fl_X7_103 rfl k_b0_2 ?_
        refine r_istore (pc := 52) dX7_peak_52 (by decide) ?_
        exact r_le (L' := [some (.ref b0), some (.int l1), some (.int 0), some (.int (1000 * (gi x b0_2 1))), some (.int (gi x b0_2 1)), none, none, none, none]) ⟨rfl, ⟨rfl, ⟨rfl, ⟨rfl, ⟨rfl, trivial⟩⟩⟩⟩⟩ K0
      · have q := b2i_nz q
        have K0 := K0.2 q
        refine r_iconst (pc := 29) (v := (-1)) dX7_peak_29 (by decide) ?_
        exact s_iret rfl dX7_peak_30 K0
    · have q := (b2i_z _).mp q
      have K0 := K0.2 q
      refine r_bipush (pc := 16) (v := (-2)) dX7_peak_16 (by decide) ?_
      exact s_iret rfl dX7_peak_18 K0
set_option maxHeartbeats 2000000 in
theorem v_X7_peak_54 {K : Sh} {x : Cn} {Q : Int32 → Cn → Prop} {b0 : Nat} {l1 : Int32} {l2 : Int32} {l3 : Int32} {l4 : Int32} {b0_2 : Nat} (k_b0 : kk K b0 = some (7, 0)) (g_b0_2 : gr x b0 2 = some b0_2) (k_b0_2 : kk K b0_2 = some (4, 0)) (K0 : ((gi x b0_2 0) ≤ l4 → ((¬ l1 = 0 → (Q l3 x)) ∧ (l1 = 0 → (Q l2 x)))) ∧ (¬ (gi x b0_2 0) ≤ l4 → (GI mX7_peak 69 [some (.ref b0), some (.int l1), some (.int l2), some (.int l3), some (.int l4), some (.int 0), none, none, none] [] K x Q))) : GI mX7_peak 54 [some (.ref b0), some (.int l1), some (.int l2), some (.int l3), some (.int l4), none, none, none, none] [] K x Q := by
  show mGM mX7_peak 54 [some (.ref b0), some (.int l1), some (.int l2), some (.int l3), some (.int l4), none, none, none, none] [] (hp K x) (PI K Q)
  refine r_iload (pc := 54) dX7_peak_54 rfl ?_
  refine r_aload_n (pc := 56) dX7_peak_56 rfl ?_
  refine s_getR (pc := 57) dX7_peak_57 fl_X7_20 rfl k_b0 g_b0_2 ?_
  refine s_getI (pc := 60) dX7_peak_60 fl_X7_91 rfl k_b0_2 ?_
  refine r_icmp_ge (pc := 63) (tgt := 183) dX7_peak_63 (by decide) (fun q => ?_) (fun q => ?_)
  · have K0 := K0.1 q
    refine r_iload_n (pc := 183) dX7_peak_183 rfl ?_
    refine r_if_ne (pc := 184) (tgt := 191) dX7_peak_184 (by decide) (fun q => ?_) (fun q => ?_)
    · have K0 := K0.1 q
      refine r_iload_n (pc := 191) dX7_peak_191 rfl ?_
      exact s_iret rfl dX7_peak_192 K0
    · have K0 := K0.2 q
      refine r_iload_n (pc := 187) dX7_peak_187 rfl ?_
      refine r_goto (pc := 188) (tgt := 192) dX7_peak_188 (by decide) ?_
      exact s_iret rfl dX7_peak_192 K0
  · have K0 := K0.2 q
    refine r_iconst (pc := 66) (v := 0) dX7_peak_66 (by decide) ?_
    refine r_istore (pc := 67) dX7_peak_67 (by decide) ?_
    exact r_le (L' := [some (.ref b0), some (.int l1), some (.int l2), some (.int l3), some (.int l4), some (.int 0), none, none, none]) ⟨rfl, ⟨rfl, ⟨rfl, ⟨rfl, ⟨rfl, ⟨rfl, trivial⟩⟩⟩⟩⟩⟩ K0
set_option maxHeartbeats 2000000 in
theorem v_X7_peak_69 {K : Sh} {x : Cn} {Q : Int32 → Cn → Prop} {b0 : Nat} {l1 : Int32} {l2 : Int32} {l3 : Int32} {l4 : Int32} {l5 : Int32} {b0_2 : Nat} {b0_2_7 : Nat} {n_b0_2_7 : Nat} (k_b0 : kk K b0 = some (7, 0)) (g_b0_2 : gr x b0 2 = some b0_2) (k_b0_2 : kk K b0_2 = some (4, 0)) (g_b0_2_7 : gr x b0_2 7 = some b0_2_7) (k_b0_2_7 : kk K b0_2_7 = some (23, n_b0_2_7)) (K0 : ((gi x b0_2 3) ≤ l5 → (GI mX7_peak 54 [some (.ref b0), some (.int l1), some (.int l2), some (.int l3), some (.int (l4 + 1)), none, none, none, none] [] K x Q)) ∧ (¬ (gi x b0_2 3) ≤ l5 → (vp_in l5 n_b0_2_7 ∧ (∃ c_3 : Nat, gr x b0_2_7 ((l5 : Int32).toNatClampNeg) = some c_3 ∧ (kk K c_3 = some (5, 0) ∧ ((¬ (f_bit (f_held x c_3) l4) → (GI mX7_peak 69 [some (.ref b0), some (.int l1), some (.int l2), some (.int l3), some (.int l4), some (.int (l5 + 1)), none, none, none] [] K x Q)) ∧ ((f_bit (f_held x c_3) l4) → (mSI mX4_loadOf [.ref b0_2, .int l4, .int (gi x c_3 1), .int (gi x c_3 2)] K x (fun r_8 y_7 => (l2 < r_8 → (GI mX7_peak 69 [some (.ref b0), some (.int l1), some (.int r_8), some (.int (((1000 * l4) + (100 * (gi y_7 c_3 1))) + (gi y_7 c_3 2))), some (.int l4), some (.int (l5 + 1)), none, none, none] [] K y_7 Q)) ∧ (¬ l2 < r_8 → ((¬ r_8 = l2 → (GI mX7_peak 69 [some (.ref b0), some (.int l1), some (.int l2), some (.int l3), some (.int l4), some (.int (l5 + 1)), none, none, none] [] K y_7 Q)) ∧ (r_8 = l2 → ((l3 ≤ (((1000 * l4) + (100 * (gi y_7 c_3 1))) + (gi y_7 c_3 2)) → (GI mX7_peak 69 [some (.ref b0), some (.int l1), some (.int l2), some (.int l3), some (.int l4), some (.int (l5 + 1)), none, none, none] [] K y_7 Q)) ∧ (¬ l3 ≤ (((1000 * l4) + (100 * (gi y_7 c_3 1))) + (gi y_7 c_3 2)) → (GI mX7_peak 69 [some (.ref b0), some (.int l1), some (.int r_8), some (.int (((1000 * l4) + (100 * (gi y_7 c_3 1))) + (gi y_7 c_3 2))), some (.int l4), some (.int (l5 + 1)), none, none, none] [] K y_7 Q))))))))))))))) : GI mX7_peak 69 [some (.ref b0), some (.int l1), some (.int l2), some (.int l3), some (.int l4), some (.int l5), none, none, none] [] K x Q := by
  show mGM mX7_peak 69 [some (.ref b0), some (.int l1), some (.int l2), some (.int l3), some (.int l4), some (.int l5), none, none, none] [] (hp K x) (PI K Q)
  refine r_iload (pc := 69) dX7_peak_69 rfl ?_
  refine r_aload_n (pc := 71) dX7_peak_71 rfl ?_
  refine s_getR (pc := 72) dX7_peak_72 fl_X7_20 rfl k_b0 g_b0_2 ?_
  refine s_getI (pc := 75) dX7_peak_75 fl_X7_97 rfl k_b0_2 ?_
  refine r_icmp_ge (pc := 78) (tgt := 177) dX7_peak_78 (by decide) (fun q => ?_) (fun q => ?_)
  · have K0 := K0.1 q
    refine r_iinc (pc := 177) (v := l4 + 1) dX7_peak_177 rfl rfl (by decide) ?_
    refine r_goto (pc := 180) (L := [some (.ref b0), some (.int l1), some (.int l2), some (.int l3), some (.int (l4 + 1)), some (.int l5), none, none, none]) (tgt := 54) dX7_peak_180 (by decide) ?_
    exact r_le (L' := [some (.ref b0), some (.int l1), some (.int l2), some (.int l3), some (.int (l4 + 1)), none, none, none, none]) ⟨rfl, ⟨rfl, ⟨rfl, ⟨rfl, ⟨rfl, trivial⟩⟩⟩⟩⟩ K0
  · have K0 := K0.2 q
    refine r_aload_n (pc := 81) dX7_peak_81 rfl ?_
    refine s_getR (pc := 82) dX7_peak_82 fl_X7_20 rfl k_b0 g_b0_2 ?_
    refine s_getR (pc := 85) dX7_peak_85 fl_X7_135 rfl k_b0_2 g_b0_2_7 ?_
    refine r_iload (pc := 88) dX7_peak_88 rfl ?_
    obtain ⟨i_2, K0⟩ := K0
    obtain ⟨c_3, g_4, K0⟩ := K0
    refine s_aald (pc := 90) dX7_peak_90 (by decide) rfl k_b0_2_7 i_2 g_4 ?_
    refine r_astore (pc := 91) dX7_peak_91 (by decide) ?_
    refine r_aload (pc := 93) (L := [some (.ref b0), some (.int l1), some (.int l2), some (.int l3), some (.int l4), some (.int l5), some (.ref c_3), none, none]) dX7_peak_93 rfl ?_
    refine r_iload (pc := 95) dX7_peak_95 rfl ?_
    obtain ⟨e_5, K0⟩ := K0
    refine s_VI (pc := 97) mX5_holds (ci := 5) (a := c_3) (As := [.int l4]) dX7_peak_97 lk_X7_282 in_X5_holds mo_X5_holds ⟨by decide, rfl⟩ ⟨by decide, by decide⟩ (Nat.le_of_ble_eq_true rfl) e_5 (sp_X5_holds e_5 ?_)
    refine r_if_eq (pc := 100) (tgt := 171) dX7_peak_100 (by decide) (fun q => ?_) (fun q => ?_)
    · have q := (b2i_z _).mp q
      have K0 := K0.1 q
      refine r_iinc (pc := 171) (v := l5 + 1) dX7_peak_171 rfl rfl (by decide) ?_
      refine r_goto (pc := 174) (L := [some (.ref b0), some (.int l1), some (.int l2), some (.int l3), some (.int l4), some (.int (l5 + 1)), some (.ref c_3), none, none]) (tgt := 69) dX7_peak_174 (by decide) ?_
      exact r_le (L' := [some (.ref b0), some (.int l1), some (.int l2), some (.int l3), some (.int l4), some (.int (l5 + 1)), none, none, none]) ⟨rfl, ⟨rfl, ⟨rfl, ⟨rfl, ⟨rfl, ⟨rfl, trivial⟩⟩⟩⟩⟩⟩ K0
    · have q := b2i_nz q
      have K0 := K0.2 q
      refine r_aload_n (pc := 103) dX7_peak_103 rfl ?_
      refine s_getR (pc := 104) dX7_peak_104 fl_X7_20 rfl k_b0 g_b0_2 ?_
      refine r_iload (pc := 107) dX7_peak_107 rfl ?_
      refine r_aload (pc := 109) dX7_peak_109 rfl ?_
      refine s_getI (pc := 111) dX7_peak_111 fl_X7_144 rfl e_5 ?_
      refine r_aload (pc := 114) dX7_peak_114 rfl ?_
      refine s_getI (pc := 116) dX7_peak_116 fl_X7_147 rfl e_5 ?_
      refine s_VI (pc := 119) mX4_loadOf (ci := 4) (a := b0_2) (As := [.int l4, .int (gi x c_3 1), .int (gi x c_3 2)]) dX7_peak_119 lk_X7_208 in_X4_loadOf mo_X4_loadOf ⟨by decide, rfl⟩ ⟨by decide, by decide⟩ (Nat.le_of_ble_eq_true rfl) k_b0_2 (mSI_mono K0 (fun r_8 y_7 K0 => ?_))
      refine r_istore (pc := 122) dX7_peak_122 (by decide) ?_
      refine r_sipush (pc := 124) (L := [some (.ref b0), some (.int l1), some (.int l2), some (.int l3), some (.int l4), some (.int l5), some (.ref c_3), some (.int r_8), none]) (v := 1000) dX7_peak_124 (by decide) ?_
      refine r_iload (pc := 127) dX7_peak_127 rfl ?_
      refine r_imul (pc := 129) dX7_peak_129 ?_
      refine r_bipush (pc := 130) (v := 100) dX7_peak_130 (by decide) ?_
      refine r_aload (pc := 132) dX7_peak_132 rfl ?_
      refine s_getI (pc := 134) dX7_peak_134 fl_X7_144 rfl e_5 ?_
      refine r_imul (pc := 137) dX7_peak_137 ?_
      refine r_iadd (pc := 138) dX7_peak_138 ?_
      refine r_aload (pc := 139) dX7_peak_139 rfl ?_
      refine s_getI (pc := 141) dX7_peak_141 fl_X7_147 rfl e_5 ?_
      refine r_iadd (pc := 144) dX7_peak_144 ?_
      refine r_istore (pc := 145) dX7_peak_145 (by decide) ?_
      refine r_iload (pc := 147) (L := [some (.ref b0), some (.int l1), some (.int l2), some (.int l3), some (.int l4), some (.int l5), some (.ref c_3), some (.int r_8), some (.int (((1000 * l4) + (100 * (gi y_7 c_3 1))) + (gi y_7 c_3 2)))]) dX7_peak_147 rfl ?_
      refine r_iload_n (pc := 149) dX7_peak_149 rfl ?_
      refine r_icmp_gt (pc := 150) (tgt := 165) dX7_peak_150 (by decide) (fun q => ?_) (fun q => ?_)
      · have K0 := K0.1 q
        refine r_iload (pc := 165) dX7_peak_165 rfl ?_
        refine r_istore_n (pc := 167) dX7_peak_167 (by decide) ?_
        refine r_iload (pc := 168) (L := [some (.ref b0), some (.int l1), some (.int r_8), some (.int l3), some (.int l4), some (.int l5), some (.ref c_3), some (.int r_8), some (.int (((1000 * l4) + (100 * (gi y_7 c_3 1))) + (gi y_7 c_3 2)))]) dX7_peak_168 rfl ?_
        refine r_istore_n (pc := 170) dX7_peak_170 (by decide) ?_
        refine r_iinc (pc := 171) (L := [some (.ref b0), some (.int l1), some (.int r_8), some (.int (((1000 * l4) + (100 * (gi y_7 c_3 1))) + (gi y_7 c_3 2))), some (.int l4), some (.int l5), some (.ref c_3), some (.int r_8), some (.int (((1000 * l4) + (100 * (gi y_7 c_3 1))) + (gi y_7 c_3 2)))]) (v := l5 + 1) dX7_peak_171 rfl rfl (by decide) ?_
        refine r_goto (pc := 174) (L := [some (.ref b0), some (.int l1), some (.int r_8), some (.int (((1000 * l4) + (100 * (gi y_7 c_3 1))) + (gi y_7 c_3 2))), some (.int l4), some (.int (l5 + 1)), some (.ref c_3), some (.int r_8), some (.int (((1000 * l4) + (100 * (gi y_7 c_3 1))) + (gi y_7 c_3 2)))]) (tgt := 69) dX7_peak_174 (by decide) ?_
        exact r_le (L' := [some (.ref b0), some (.int l1), some (.int r_8), some (.int (((1000 * l4) + (100 * (gi y_7 c_3 1))) + (gi y_7 c_3 2))), some (.int l4), some (.int (l5 + 1)), none, none, none]) ⟨rfl, ⟨rfl, ⟨rfl, ⟨rfl, ⟨rfl, ⟨rfl, trivial⟩⟩⟩⟩⟩⟩ K0
      · have K0 := K0.2 q
        refine r_iload (pc := 153) dX7_peak_153 rfl ?_
        refine r_iload_n (pc := 155) dX7_peak_155 rfl ?_
        refine r_icmp_ne (pc := 156) (tgt := 171) dX7_peak_156 (by decide) (fun q => ?_) (fun q => ?_)
        · have K0 := K0.1 q
          refine r_iinc (pc := 171) (v := l5 + 1) dX7_peak_171 rfl rfl (by decide) ?_
          refine r_goto (pc := 174) (L := [some (.ref b0), some (.int l1), some (.int l2), some (.int l3), some (.int l4), some (.int (l5 + 1)), some (.ref c_3), some (.int r_8), some (.int (((1000 * l4) + (100 * (gi y_7 c_3 1))) + (gi y_7 c_3 2)))]) (tgt := 69) dX7_peak_174 (by decide) ?_
          exact r_le (L' := [some (.ref b0), some (.int l1), some (.int l2), some (.int l3), some (.int l4), some (.int (l5 + 1)), none, none, none]) ⟨rfl, ⟨rfl, ⟨rfl, ⟨rfl, ⟨rfl, ⟨rfl, trivial⟩⟩⟩⟩⟩⟩ K0
        · have K0 := K0.2 q
          refine r_iload (pc := 159) dX7_peak_159 rfl ?_
          refine r_iload_n (pc := 161) dX7_peak_161 rfl ?_
          refine r_icmp_ge (pc := 162) (tgt := 171) dX7_peak_162 (by decide) (fun q => ?_) (fun q => ?_)
          · have K0 := K0.1 q
            refine r_iinc (pc := 171) (v := l5 + 1) dX7_peak_171 rfl rfl (by decide) ?_
            refine r_goto (pc := 174) (L := [some (.ref b0), some (.int l1), some (.int l2), some (.int l3), some (.int l4), some (.int (l5 + 1)), some (.ref c_3), some (.int r_8), some (.int (((1000 * l4) + (100 * (gi y_7 c_3 1))) + (gi y_7 c_3 2)))]) (tgt := 69) dX7_peak_174 (by decide) ?_
            exact r_le (L' := [some (.ref b0), some (.int l1), some (.int l2), some (.int l3), some (.int l4), some (.int (l5 + 1)), none, none, none]) ⟨rfl, ⟨rfl, ⟨rfl, ⟨rfl, ⟨rfl, ⟨rfl, trivial⟩⟩⟩⟩⟩⟩ K0
          · have K0 := K0.2 q
            refine r_iload (pc := 165) dX7_peak_165 rfl ?_
            refine r_istore_n (pc := 167) dX7_peak_167 (by decide) ?_
            refine r_iload (pc := 168) (L := [some (.ref b0), some (.int l1), some (.int r_8), some (.int l3), some (.int l4), some (.int l5), some (.ref c_3), some (.int r_8), some (.int (((1000 * l4) + (100 * (gi y_7 c_3 1))) + (gi y_7 c_3 2)))]) dX7_peak_168 rfl ?_
            refine r_istore_n (pc := 170) dX7_peak_170 (by decide) ?_
            refine r_iinc (pc := 171) (L := [some (.ref b0), some (.int l1), some (.int r_8), some (.int (((1000 * l4) + (100 * (gi y_7 c_3 1))) + (gi y_7 c_3 2))), some (.int l4), some (.int l5), some (.ref c_3), some (.int r_8), some (.int (((1000 * l4) + (100 * (gi y_7 c_3 1))) + (gi y_7 c_3 2)))]) (v := l5 + 1) dX7_peak_171 rfl rfl (by decide) ?_
            refine r_goto (pc := 174) (L := [some (.ref b0), some (.int l1), some (.int r_8), some (.int (((1000 * l4) + (100 * (gi y_7 c_3 1))) + (gi y_7 c_3 2))), some (.int l4), some (.int (l5 + 1)), some (.ref c_3), some (.int r_8), some (.int (((1000 * l4) + (100 * (gi y_7 c_3 1))) + (gi y_7 c_3 2)))]) (tgt := 69) dX7_peak_174 (by decide) ?_
            exact r_le (L' := [some (.ref b0), some (.int l1), some (.int r_8), some (.int (((1000 * l4) + (100 * (gi y_7 c_3 1))) + (gi y_7 c_3 2))), some (.int l4), some (.int (l5 + 1)), none, none, none]) ⟨rfl, ⟨rfl, ⟨rfl, ⟨rfl, ⟨rfl, ⟨rfl, trivial⟩⟩⟩⟩⟩⟩ K0
set_option maxHeartbeats 2000000 in
theorem v_X8_peak_0 {K : Sh} {x : Cn} {Q : Int32 → Cn → Prop} {b0 : Nat} {l1 : Int32} {b0_1 : Nat} {n_b0_1 : Nat} (k_b0 : kk K b0 = some (8, 0)) (g_b0_1 : gr x b0 1 = some b0_1) (k_b0_1 : kk K b0_1 = some (20, n_b0_1)) (K0 : vp_in 0 n_b0_1 ∧ ((¬ (0 < gi x b0_1 0) → (Q (-2) x)) ∧ ((0 < gi x b0_1 0) → (((0 ≤ l1 ∧ l1 ≤ 1) → (vp_in 4 n_b0_1 ∧ ((¬ (gi x b0_1 4) = (gi x b0_1 0) → (GI mX8_peak 49 [some (.ref b0), some (.int l1), some (.int (-1)), some (.int (-1)), some (.int (gi x b0_1 4)), none, none, none] [] K x Q)) ∧ ((gi x b0_1 4) = (gi x b0_1 0) → (Q (-1) x))))) ∧ (¬ (0 ≤ l1 ∧ l1 ≤ 1) → (Q (-2) x)))))) : mSI mX8_peak [.ref b0, .int l1] K x Q := by
  refine s_I (by decide) (by simp [Value.category]) (Nat.le_of_ble_eq_true rfl) ?_
  show mGM mX8_peak 0 [some (.ref b0), some (.int l1), none, none, none, none, none, none] [] (hp K x) (PI K Q)
  refine r_aload_n (pc := 0) dX8_peak_0 rfl ?_
  obtain ⟨i_1, K0⟩ := K0
  refine s_VI (pc := 1) mX8_isThere (ci := 8) (a := b0) (As := []) dX8_peak_1 lk_X8_49 in_X8_isThere mo_X8_isThere ⟨by decide, rfl⟩ ⟨by decide, by decide⟩ (Nat.le_of_ble_eq_true rfl) k_b0 (sp_X8_isThere k_b0 g_b0_1 k_b0_1 i_1 ?_)
  refine r_if_eq (pc := 4) (tgt := 17) dX8_peak_4 (by decide) (fun q => ?_) (fun q => ?_)
  · have q := (b2i_z _).mp q
    have K0 := K0.1 q
    refine r_bipush (pc := 17) (v := (-2)) dX8_peak_17 (by decide) ?_
    exact s_iret rfl dX8_peak_19 K0
  · have q := b2i_nz q
    have K0 := K0.2 q
    refine r_iload_n (pc := 7) dX8_peak_7 rfl ?_
    refine r_i2l (pc := 8) dX8_peak_8 ?_
    refine r_lconst (pc := 9) (v := 0) dX8_peak_9 (by decide) ?_
    refine r_lconst (pc := 10) (v := 1) dX8_peak_10 (by decide) ?_
    refine s_SI (pc := 11) mX8_in (As := [.long ((l1 : Int32).toInt64), .long 0, .long 1]) dX8_peak_11 lk_X8_45 st_X8_in mo_X8_in ⟨by decide, by decide⟩ (Nat.le_of_ble_eq_true rfl) (sq_X8_in (v := l1) (lo := 0) (hi := 1) rfl (by decide) (by decide) ?_)
    refine r_if_ne (pc := 14) (tgt := 20) dX8_peak_14 (by decide) (fun q => ?_) (fun q => ?_)
    · have q := b2i_nz q
      have K0 := K0.1 q
      refine r_aload_n (pc := 20) dX8_peak_20 rfl ?_
      refine s_getR (pc := 21) dX8_peak_21 fl_X8_9 rfl k_b0 g_b0_1 ?_
      refine r_iconst (pc := 24) (v := 4) dX8_peak_24 (by decide) ?_
      obtain ⟨i_4, K0⟩ := K0
      refine s_iald (pc := 25) dX8_peak_25 k_b0_1 i_4 ?_
      refine r_aload_n (pc := 26) dX8_peak_26 rfl ?_
      refine s_getR (pc := 27) dX8_peak_27 fl_X8_9 rfl k_b0 g_b0_1 ?_
      refine r_iconst (pc := 30) (v := 0) dX8_peak_30 (by decide) ?_
      refine s_iald (pc := 31) dX8_peak_31 k_b0_1 i_1 ?_
      refine r_icmp_ne (pc := 32) (tgt := 37) dX8_peak_32 (by decide) (fun q => ?_) (fun q => ?_)
      · have K0 := K0.1 q
        refine r_iconst (pc := 37) (v := (-1)) dX8_peak_37 (by decide) ?_
        refine r_istore_n (pc := 38) dX8_peak_38 (by decide) ?_
        refine r_iconst (pc := 39) (L := [some (.ref b0), some (.int l1), some (.int (-1)), none, none, none, none, none]) (v := (-1)) dX8_peak_39 (by decide) ?_
        refine r_istore_n (pc := 40) dX8_peak_40 (by decide) ?_
        refine r_aload_n (pc := 41) (L := [some (.ref b0), some (.int l1), some (.int (-1)), some (.int (-1)), none, none, none, none]) dX8_peak_41 rfl ?_
        refine s_getR (pc := 42) dX8_peak_42 fl_X8_9 rfl k_b0 g_b0_1 ?_
        refine r_iconst (pc := 45) (v := 4) dX8_peak_45 (by decide) ?_
        refine s_iald (pc := 46) dX8_peak_46 k_b0_1 i_4 ?_
        refine r_istore (pc := 47) dX8_peak_47 (by decide) ?_
        exact r_le (L' := [some (.ref b0), some (.int l1), some (.int (-1)), some (.int (-1)), some (.int (gi x b0_1 4)), none, none, none]) ⟨rfl, ⟨rfl, ⟨rfl, ⟨rfl, ⟨rfl, trivial⟩⟩⟩⟩⟩ K0
      · have K0 := K0.2 q
        refine r_iconst (pc := 35) (v := (-1)) dX8_peak_35 (by decide) ?_
        exact s_iret rfl dX8_peak_36 K0
    · have q := (b2i_z _).mp q
      have K0 := K0.2 q
      refine r_bipush (pc := 17) (v := (-2)) dX8_peak_17 (by decide) ?_
      exact s_iret rfl dX8_peak_19 K0
set_option maxHeartbeats 2000000 in
theorem v_X8_peak_49 {K : Sh} {x : Cn} {Q : Int32 → Cn → Prop} {b0 : Nat} {l1 : Int32} {l2 : Int32} {l3 : Int32} {l4 : Int32} {b0_1 : Nat} {n_b0_1 : Nat} (k_b0 : kk K b0 = some (8, 0)) (g_b0_1 : gr x b0 1 = some b0_1) (k_b0_1 : kk K b0_1 = some (20, n_b0_1)) (K0 : vp_in 0 n_b0_1 ∧ (((gi x b0_1 0) ≤ l4 → ((¬ l1 = 0 → (Q l3 x)) ∧ (l1 = 0 → (Q l2 x)))) ∧ (¬ (gi x b0_1 0) ≤ l4 → (GI mX8_peak 63 [some (.ref b0), some (.int l1), some (.int l2), some (.int l3), some (.int l4), some (.int 0), none, none] [] K x Q)))) : GI mX8_peak 49 [some (.ref b0), some (.int l1), some (.int l2), some (.int l3), some (.int l4), none, none, none] [] K x Q := by
  show mGM mX8_peak 49 [some (.ref b0), some (.int l1), some (.int l2), some (.int l3), some (.int l4), none, none, none] [] (hp K x) (PI K Q)
  refine r_iload (pc := 49) dX8_peak_49 rfl ?_
  refine r_aload_n (pc := 51) dX8_peak_51 rfl ?_
  refine s_getR (pc := 52) dX8_peak_52 fl_X8_9 rfl k_b0 g_b0_1 ?_
  refine r_iconst (pc := 55) (v := 0) dX8_peak_55 (by decide) ?_
  obtain ⟨i_1, K0⟩ := K0
  refine s_iald (pc := 56) dX8_peak_56 k_b0_1 i_1 ?_
  refine r_icmp_ge (pc := 57) (tgt := 140) dX8_peak_57 (by decide) (fun q => ?_) (fun q => ?_)
  · have K0 := K0.1 q
    refine r_iload_n (pc := 140) dX8_peak_140 rfl ?_
    refine r_if_ne (pc := 141) (tgt := 148) dX8_peak_141 (by decide) (fun q => ?_) (fun q => ?_)
    · have K0 := K0.1 q
      refine r_iload_n (pc := 148) dX8_peak_148 rfl ?_
      exact s_iret rfl dX8_peak_149 K0
    · have K0 := K0.2 q
      refine r_iload_n (pc := 144) dX8_peak_144 rfl ?_
      refine r_goto (pc := 145) (tgt := 149) dX8_peak_145 (by decide) ?_
      exact s_iret rfl dX8_peak_149 K0
  · have K0 := K0.2 q
    refine r_iconst (pc := 60) (v := 0) dX8_peak_60 (by decide) ?_
    refine r_istore (pc := 61) dX8_peak_61 (by decide) ?_
    exact r_le (L' := [some (.ref b0), some (.int l1), some (.int l2), some (.int l3), some (.int l4), some (.int 0), none, none]) ⟨rfl, ⟨rfl, ⟨rfl, ⟨rfl, ⟨rfl, ⟨rfl, trivial⟩⟩⟩⟩⟩⟩ K0
set_option maxHeartbeats 2000000 in
theorem v_X8_peak_63 {K : Sh} {x : Cn} {Q : Int32 → Cn → Prop} {b0 : Nat} {l1 : Int32} {l2 : Int32} {l3 : Int32} {l4 : Int32} {l5 : Int32}   (K0 : (7 ≤ l5 → (GI mX8_peak 49 [some (.ref b0), some (.int l1), some (.int l2), some (.int l3), some (.int (l4 + 1)), none, none, none] [] K x Q)) ∧ (¬ 7 ≤ l5 → (GI mX8_peak 73 [some (.ref b0), some (.int l1), some (.int l2), some (.int l3), some (.int l4), some (.int l5), some (.int 0), none] [] K x Q))) : GI mX8_peak 63 [some (.ref b0), some (.int l1), some (.int l2), some (.int l3), some (.int l4), some (.int l5), none, none] [] K x Q := by
  show mGM mX8_peak 63 [some (.ref b0), some (.int l1), some (.int l2), some (.int l3), some (.int l4), some (.int l5), none, none] [] (hp K x) (PI K Q)
  refine r_iload (pc := 63) dX8_peak_63 rfl ?_
  refine r_bipush (pc := 65) (v := 7) dX8_peak_65 (by decide) ?_
  refine r_icmp_ge (pc := 67) (tgt := 134) dX8_peak_67 (by decide) (fun q => ?_) (fun q => ?_)
  · have K0 := K0.1 q
    refine r_iinc (pc := 134) (v := l4 + 1) dX8_peak_134 rfl rfl (by decide) ?_
    refine r_goto (pc := 137) (L := [some (.ref b0), some (.int l1), some (.int l2), some (.int l3), some (.int (l4 + 1)), some (.int l5), none, none]) (tgt := 49) dX8_peak_137 (by decide) ?_
    exact r_le (L' := [some (.ref b0), some (.int l1), some (.int l2), some (.int l3), some (.int (l4 + 1)), none, none, none]) ⟨rfl, ⟨rfl, ⟨rfl, ⟨rfl, ⟨rfl, trivial⟩⟩⟩⟩⟩ K0
  · have K0 := K0.2 q
    refine r_iconst (pc := 70) (v := 0) dX8_peak_70 (by decide) ?_
    refine r_istore (pc := 71) dX8_peak_71 (by decide) ?_
    exact r_le (L' := [some (.ref b0), some (.int l1), some (.int l2), some (.int l3), some (.int l4), some (.int l5), some (.int 0), none]) ⟨rfl, ⟨rfl, ⟨rfl, ⟨rfl, ⟨rfl, ⟨rfl, ⟨rfl, trivial⟩⟩⟩⟩⟩⟩⟩ K0
set_option maxHeartbeats 2000000 in
theorem v_X8_peak_73 {K : Sh} {x : Cn} {Q : Int32 → Cn → Prop} {b0 : Nat} {l1 : Int32} {l2 : Int32} {l3 : Int32} {l4 : Int32} {l5 : Int32} {l6 : Int32}  (k_b0 : kk K b0 = some (8, 0)) (K0 : (24 ≤ l6 → (GI mX8_peak 63 [some (.ref b0), some (.int l1), some (.int l2), some (.int l3), some (.int l4), some (.int (l5 + 1)), none, none] [] K x Q)) ∧ (¬ 24 ≤ l6 → (mSI mX8_loadBut [.ref b0, .int l4, .int l5, .int l6, .int 0, .int (-1)] K x (fun r_3 y_2 => (l2 < r_3 → (GI mX8_peak 73 [some (.ref b0), some (.int l1), some (.int r_3), some (.int (((1000 * l4) + (100 * l5)) + l6)), some (.int l4), some (.int l5), some (.int (l6 + 1)), none] [] K y_2 Q)) ∧ (¬ l2 < r_3 → (GI mX8_peak 73 [some (.ref b0), some (.int l1), some (.int l2), some (.int l3), some (.int l4), some (.int l5), some (.int (l6 + 1)), none] [] K y_2 Q)))))) : GI mX8_peak 73 [some (.ref b0), some (.int l1), some (.int l2), some (.int l3), some (.int l4), some (.int l5), some (.int l6), none] [] K x Q := by
  show mGM mX8_peak 73 [some (.ref b0), some (.int l1), some (.int l2), some (.int l3), some (.int l4), some (.int l5), some (.int l6), none] [] (hp K x) (PI K Q)
  refine r_iload (pc := 73) dX8_peak_73 rfl ?_
  refine r_bipush (pc := 75) (v := 24) dX8_peak_75 (by decide) ?_
  refine r_icmp_ge (pc := 77) (tgt := 128) dX8_peak_77 (by decide) (fun q => ?_) (fun q => ?_)
  · have K0 := K0.1 q
    refine r_iinc (pc := 128) (v := l5 + 1) dX8_peak_128 rfl rfl (by decide) ?_
    refine r_goto (pc := 131) (L := [some (.ref b0), some (.int l1), some (.int l2), some (.int l3), some (.int l4), some (.int (l5 + 1)), some (.int l6), none]) (tgt := 63) dX8_peak_131 (by decide) ?_
    exact r_le (L' := [some (.ref b0), some (.int l1), some (.int l2), some (.int l3), some (.int l4), some (.int (l5 + 1)), none, none]) ⟨rfl, ⟨rfl, ⟨rfl, ⟨rfl, ⟨rfl, ⟨rfl, trivial⟩⟩⟩⟩⟩⟩ K0
  · have K0 := K0.2 q
    refine r_aload_n (pc := 80) dX8_peak_80 rfl ?_
    refine r_iload (pc := 81) dX8_peak_81 rfl ?_
    refine r_iload (pc := 83) dX8_peak_83 rfl ?_
    refine r_iload (pc := 85) dX8_peak_85 rfl ?_
    refine r_iconst (pc := 87) (v := 0) dX8_peak_87 (by decide) ?_
    refine r_iconst (pc := 88) (v := (-1)) dX8_peak_88 (by decide) ?_
    refine s_VI (pc := 89) mX8_loadBut (ci := 8) (a := b0) (As := [.int l4, .int l5, .int l6, .int 0, .int (-1)]) dX8_peak_89 lk_X8_86 in_X8_loadBut mo_X8_loadBut ⟨by decide, rfl⟩ ⟨by decide, by decide⟩ (Nat.le_of_ble_eq_true rfl) k_b0 (mSI_mono K0 (fun r_3 y_2 K0 => ?_))
    refine r_istore (pc := 92) dX8_peak_92 (by decide) ?_
    refine r_iload (pc := 94) (L := [some (.ref b0), some (.int l1), some (.int l2), some (.int l3), some (.int l4), some (.int l5), some (.int l6), some (.int r_3)]) dX8_peak_94 rfl ?_
    refine r_iload_n (pc := 96) dX8_peak_96 rfl ?_
    refine r_icmp_gt (pc := 97) (tgt := 103) dX8_peak_97 (by decide) (fun q => ?_) (fun q => ?_)
    · have K0 := K0.1 q
      refine r_iload (pc := 103) dX8_peak_103 rfl ?_
      refine r_istore_n (pc := 105) dX8_peak_105 (by decide) ?_
      refine r_sipush (pc := 106) (L := [some (.ref b0), some (.int l1), some (.int r_3), some (.int l3), some (.int l4), some (.int l5), some (.int l6), some (.int r_3)]) (v := 1000) dX8_peak_106 (by decide) ?_
      refine r_iload (pc := 109) dX8_peak_109 rfl ?_
      refine r_imul (pc := 111) dX8_peak_111 ?_
      refine r_bipush (pc := 112) (v := 100) dX8_peak_112 (by decide) ?_
      refine r_iload (pc := 114) dX8_peak_114 rfl ?_
      refine r_imul (pc := 116) dX8_peak_116 ?_
      refine r_iadd (pc := 117) dX8_peak_117 ?_
      refine r_iload (pc := 118) dX8_peak_118 rfl ?_
      refine r_iadd (pc := 120) dX8_peak_120 ?_
      refine r_istore_n (pc := 121) dX8_peak_121 (by decide) ?_
      refine r_iinc (pc := 122) (L := [some (.ref b0), some (.int l1), some (.int r_3), some (.int (((1000 * l4) + (100 * l5)) + l6)), some (.int l4), some (.int l5), some (.int l6), some (.int r_3)]) (v := l6 + 1) dX8_peak_122 rfl rfl (by decide) ?_
      refine r_goto (pc := 125) (L := [some (.ref b0), some (.int l1), some (.int r_3), some (.int (((1000 * l4) + (100 * l5)) + l6)), some (.int l4), some (.int l5), some (.int (l6 + 1)), some (.int r_3)]) (tgt := 73) dX8_peak_125 (by decide) ?_
      exact r_le (L' := [some (.ref b0), some (.int l1), some (.int r_3), some (.int (((1000 * l4) + (100 * l5)) + l6)), some (.int l4), some (.int l5), some (.int (l6 + 1)), none]) ⟨rfl, ⟨rfl, ⟨rfl, ⟨rfl, ⟨rfl, ⟨rfl, ⟨rfl, trivial⟩⟩⟩⟩⟩⟩⟩ K0
    · have K0 := K0.2 q
      refine r_goto (pc := 100) (tgt := 122) dX8_peak_100 (by decide) ?_
      refine r_iinc (pc := 122) (v := l6 + 1) dX8_peak_122 rfl rfl (by decide) ?_
      refine r_goto (pc := 125) (L := [some (.ref b0), some (.int l1), some (.int l2), some (.int l3), some (.int l4), some (.int l5), some (.int (l6 + 1)), some (.int r_3)]) (tgt := 73) dX8_peak_125 (by decide) ?_
      exact r_le (L' := [some (.ref b0), some (.int l1), some (.int l2), some (.int l3), some (.int l4), some (.int l5), some (.int (l6 + 1)), none]) ⟨rfl, ⟨rfl, ⟨rfl, ⟨rfl, ⟨rfl, ⟨rfl, ⟨rfl, trivial⟩⟩⟩⟩⟩⟩⟩ K0
theorem eq_peak (a : Int32) : Both mX7_peak mX8_peak [.int a] := by
  intro x R
  obtain ⟨W, C, S, A, N, E, -, -⟩ := R.sea
  have hn := E.nums
  have ht := Rel.t2 E
  have hS : S ≤ 24 := hn.2.2.2.2.2.2.1
  have hW : W ≤ 30 := hn.2.2.2.2.1
  have hN : N ≤ W := hn.2.2.2.2.2.2.2.2
  have ws : ∀ s, s < S → Wse (gi x 718) C W s := E.2.2.2.2.2.2.2.2.2.2.2.2.2.2.2.1
  have rf : mSI mX8_peak [.ref 717, .int a] KW x (fun r' z => Pr (gi x 718) S W N a r' ∧ Rel z) := by
    refine v_X8_peak_0 km R.2.1.1 km1 ⟨v0 (k := 0) (by decide) rfl rfl, ?_⟩
    rw [ht.1, ht.2.2.2.2, nI_eq (by omega) (by omega)]
    refine ⟨fun z => ⟨⟨fun _ => rfl, fun w => absurd w.1 z, fun w => absurd w.1 z⟩, R⟩, fun z1 => ⟨fun z2 => ⟨v0 (k := 4) (by decide) rfl rfl, fun z3 => ?_, fun z3 => ⟨⟨fun w => absurd ⟨z1, z2⟩ w, fun _ _ => rfl, fun _ w => by omega⟩, R⟩⟩, fun z => ⟨⟨fun _ => rfl, fun w => absurd w.2 z, fun w => absurd w.2 z⟩, R⟩⟩⟩
    have hNW : N < W := by omega
    have done : ∀ m v, RI (gi x 718) S W N (ky W 0 0) m v → ((¬ a = 0 → Pr (gi x 718) S W N a v ∧ Rel x) ∧ (a = 0 → Pr (gi x 718) S W N a m ∧ Rel x)) := by
      intro m v c
      rcases c with ⟨c1, -, -⟩ | ⟨g, p, c1, c2, c3⟩
      · unfold ky at c1
        omega
      · have c4 : PKv (gi x 718) S W N 100000 g p := c3.cg (fun w d h z => by unfold inR at z; unfold ky; omega)
        exact ⟨fun w => ⟨⟨fun u => absurd ⟨z1, z2⟩ u, fun _ u => by omega, fun _ _ => ⟨g, p, c4, by rw [if_neg w]; exact c2⟩⟩, R⟩, fun w => ⟨⟨fun u => absurd ⟨z1, z2⟩ u, fun _ u => by omega, fun _ _ => ⟨g, p, c4, by rw [if_pos w]; exact c1⟩⟩, R⟩⟩
    have key : ∀ k w, w + k = W → N ≤ w → ∀ m v, RI (gi x 718) S W N (ky w 0 0) m v → GI mX8_peak 49 [some (.ref 717), some (.int a), some (.int m), some (.int v), some (.int (nI w)), none, none, none] [] KW x (fun r' z => Pr (gi x 718) S W N a r' ∧ Rel z) := by
      intro k
      induction k with
      | zero =>
        intro w h1 h2 m v c
        have : w = W := by omega
        subst this
        exact v_X8_peak_49 km R.2.1.1 km1 ⟨v0 (k := 0) (by decide) rfl rfl, fun _ => done m v c, fun z => absurd (by rw [ht.1]; exact Int32.le_refl _) z⟩
      | succ k ih =>
        intro w h1 h2 m v c
        refine v_X8_peak_49 km R.2.1.1 km1 ⟨v0 (k := 0) (by decide) rfl rfl, fun z => absurd (by rw [ht.1] at z; exact z) (nI_ge (by omega) (by omega)), fun _ => ?_⟩
        have key2 : ∀ k2 d, d + k2 = 7 → ∀ m v, RI (gi x 718) S W N (ky w d 0) m v → GI mX8_peak 63 [some (.ref 717), some (.int a), some (.int m), some (.int v), some (.int (nI w)), some (.int (nI d)), none, none] [] KW x (fun r' z => Pr (gi x 718) S W N a r' ∧ Rel z) := by
          intro k2
          induction k2 with
          | zero =>
            intro d hd m v c
            have : d = 7 := by omega
            subst this
            refine v_X8_peak_63 ⟨fun _ => ?_, fun z => absurd (Int32.le_refl _) z⟩
            rw [nI_1]
            exact ih (w + 1) (by omega) (by omega) m v (c.cg (by unfold ky; omega) (fun w1 d1 e1 z => by unfold inR at z; unfold ky; omega))
          | succ k2 ih2 =>
            intro d hd m v c
            refine v_X8_peak_63 ⟨fun z => absurd z (nI_ge (b := 7) (by omega) (by decide)), fun _ => ?_⟩
            have key3 : ∀ k3 h, h + k3 = 24 → ∀ m v, RI (gi x 718) S W N (ky w d h) m v → GI mX8_peak 73 [some (.ref 717), some (.int a), some (.int m), some (.int v), some (.int (nI w)), some (.int (nI d)), some (.int (nI h)), none] [] KW x (fun r' z => Pr (gi x 718) S W N a r' ∧ Rel z) := by
              intro k3
              induction k3 with
              | zero =>
                intro h hh m v c
                have : h = 24 := by omega
                subst this
                refine v_X8_peak_73 km ⟨fun _ => ?_, fun z => absurd (Int32.le_refl _) z⟩
                rw [nI_1]
                exact ih2 (d + 1) (by omega) m v (c.cg (by unfold ky; omega) (fun w1 d1 e1 z => by unfold inR at z; unfold ky; omega))
              | succ k3 ih3 =>
                intro h hh m v c
                refine v_X8_peak_73 km ⟨fun z => absurd z (nI_ge (b := 24) (by omega) (by decide)), fun _ => ?_⟩
                have hr : inR N W w d h := ⟨h2, by omega, by omega, by omega⟩
                have u := c.up hS hr
                refine sp_X8_loadBut R.2.1 km1 ht.2.2.1 hS (by omega) ?_
                rw [ldB_nW0 wo_0 S hS, nI_1, i_ky]
                exact ⟨fun z => ih3 (h + 1) (by omega) _ _ (u.1 z), fun z => ih3 (h + 1) (by omega) _ _ (u.2 z)⟩
            exact key3 24 0 (by omega) m v c
        exact key2 7 0 (by omega) m v c
    exact key (W - N) N (by omega) (Nat.le_refl _) _ _ (Or.inl ⟨rfl, rfl, rfl⟩)
  have out : ∀ r, Pr (gi x 718) S W N a r → mSI mX8_peak [.ref 717, .int a] KW x (fun r' z => r = r' ∧ Rel z) := fun r hr => mSI_mono rf (fun r' z w => ⟨hr.uq w.1, w.2⟩)
  refine v_X7_peak_0 k0 R.1.2.1 (ks0 E.1) ?_
  rw [hn.1, hn.2.1, nI_leI (by omega) (by omega)]
  refine ⟨fun z => out _ ⟨fun _ => rfl, fun w => absurd w.1 z, fun w => absurd w.1 z⟩, fun z1 => ⟨fun z2 => ⟨fun z3 => ?_, fun z3 => out _ ⟨fun w => absurd ⟨z1, z2⟩ w, fun _ _ => rfl, fun _ w => by omega⟩⟩, fun z => out _ ⟨fun _ => rfl, fun w => absurd w.2 z, fun w => absurd w.2 z⟩⟩⟩
  have hNW : N < W := by omega
  have key : ∀ k w, w + k = W → N ≤ w → ∀ g p, CI (gi x 718) S W N w 0 g p → GI mX7_peak 54 [some (.ref 0), some (.int a), some (.int (nI g)), some (.int (nI p)), some (.int (nI w)), none, none, none, none] [] KW x (fun r y => mSI mX8_peak [.ref 717, .int a] KW y (fun r' z => r = r' ∧ Rel z)) := by
    intro k
    induction k with
    | zero =>
      intro w h1 h2 g p c
      have : w = W := by omega
      subst this
      have c4 := c.fin hW hNW ws
      exact v_X7_peak_54 k0 R.1.2.1 (ks0 E.1) ⟨fun _ => ⟨fun z => out _ ⟨fun u => absurd ⟨z1, z2⟩ u, fun _ u => by omega, fun _ _ => ⟨g, p, c4, by rw [if_neg z]⟩⟩, fun z => out _ ⟨fun u => absurd ⟨z1, z2⟩ u, fun _ u => by omega, fun _ _ => ⟨g, p, c4, by rw [if_pos z]⟩⟩⟩, fun z => absurd (by rw [hn.1]; exact Int32.le_refl _) z⟩
    | succ k ih =>
      intro w h1 h2 g p c
      refine v_X7_peak_54 k0 R.1.2.1 (ks0 E.1) ⟨fun z => absurd (by rw [hn.1] at z; exact z) (nI_ge (by omega) (by omega)), fun _ => ?_⟩
      have key2 : ∀ k2 s, s + k2 = S → ∀ g p, CI (gi x 718) S W N w s g p → GI mX7_peak 69 [some (.ref 0), some (.int a), some (.int (nI g)), some (.int (nI p)), some (.int (nI w)), some (.int (nI s)), none, none, none] [] KW x (fun r y => mSI mX8_peak [.ref 717, .int a] KW y (fun r' z => r = r' ∧ Rel z)) := by
        intro k2
        induction k2 with
        | zero =>
          intro s hs g p c
          have : s = S := by omega
          subst this
          refine v_X7_peak_69 k0 R.1.2.1 (ks0 E.1) E.2.1.2.2.1 (ks3 E.1) ⟨fun _ => ?_, fun z => absurd (by rw [hn.2.2.1]; exact Int32.le_refl _) z⟩
          rw [nI_1]
          exact ih (w + 1) (by omega) (by omega) g p c.nx
        | succ k2 ih2 =>
          intro s hs g p c
          obtain ⟨q, e1, e2, e3, e4, -, e6⟩ := E.ser (s := s) (by omega)
          obtain ⟨k1, k2', k3, k4⟩ := e6.dh
          refine v_X7_peak_69 k0 R.1.2.1 (ks0 E.1) E.2.1.2.2.1 (ks3 E.1) ⟨fun z => absurd (by rw [hn.2.2.1] at z; exact z) (nI_ge (by omega) (by omega)), fun _ => ⟨vp_in_nI (by omega) (by decide), q, by rw [nI_clamp (by omega)]; exact e1, e2, ?_⟩⟩
          rw [e4, f_bit_tb _ (by omega), nI_1, e3.1 1 (by decide) (by decide), e3.1 2 (by decide) (by decide), k2', k4]
          refine ⟨fun z => ih2 (s + 1) (by omega) g p (c.no z), fun z => sp_X4_loadOf E (by omega) ?_⟩
          rw [ldB_nW0 wo_0 S hS, e3.1 1 (by decide) (by decide), e3.1 2 (by decide) (by decide), k2', k4, i_ky]
          have hl := Lw_le (T := gi x 718) (w := w) (d := sdy (gi x 718) s) (h := shr (gi x 718) s) hS
          have hg : g < 2 ^ 31 ∧ p < 2 ^ 31 := by
            rcases c.1 with ⟨u1, u2⟩ | ⟨-, w1, d1, h1, u1, u2, u3⟩
            · omega
            · have := Lw_le (T := gi x 718) (w := w1) (d := d1) (h := h1) hS
              unfold inR at u1
              unfold ky at u3
              omega
          show (nI g < nI (Lw (gi x 718) S w (sdy (gi x 718) s) (shr (gi x 718) s)) → _) ∧ (¬ nI g < nI (Lw (gi x 718) S w (sdy (gi x 718) s) (shr (gi x 718) s)) → (¬ nI (Lw (gi x 718) S w (sdy (gi x 718) s) (shr (gi x 718) s)) = nI g → _) ∧ (nI (Lw (gi x 718) S w (sdy (gi x 718) s) (shr (gi x 718) s)) = nI g → _ ∧ _))
          have hk : ky w (sdy (gi x 718) s) (shr (gi x 718) s) < 2 ^ 31 := by unfold ky; omega
          rw [nI_ltI hg.1 (by omega), nI_eq (by omega) hg.1, nI_leI hg.2 hk]
          have up := fun g' p' => CI.up (g' := g') (p' := p') c e6 h2 (by omega) (by omega) z
          refine ⟨fun w1 => ih2 (s + 1) (by omega) _ _ (up _ _ (Or.inl ⟨w1, rfl, rfl⟩)), fun w1 => ⟨fun w2 => ih2 (s + 1) (by omega) _ _ (up _ _ (Or.inr (Or.inr ⟨Or.inl (by omega), rfl, rfl⟩))), fun w2 => ⟨fun w3 => ih2 (s + 1) (by omega) _ _ (up _ _ (Or.inr (Or.inr ⟨Or.inr ⟨w2, w3⟩, rfl, rfl⟩))), fun w3 => ?_⟩⟩⟩
          unfold Lw at w2
          rw [w2]
          exact ih2 (s + 1) (by omega) _ _ (up _ _ (Or.inr (Or.inl ⟨w2, by unfold ky at w3 ⊢; omega, rfl, rfl⟩)))
      exact key2 S 0 (by omega) g p c
  have := key (W - N) N (by omega) (Nat.le_refl _) 0 (1000 * N) ⟨Or.inl ⟨rfl, rfl⟩, fun w s i1 i2 i3 i4 i5 => by omega⟩
  rw [show (1000 : Int32) = nI 1000 by decide, pk_mul]
  exact this


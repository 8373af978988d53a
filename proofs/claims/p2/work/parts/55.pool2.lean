theorem cnt_lt {f : Nat → Bool} : ∀ n, cnt f n < n → ∃ i, i < n ∧ f i = false := by
  intro n
  induction n with
  | zero => intro h; exact absurd h (Nat.not_lt_zero _)
  | succ n ih =>
    intro h
    cases hq : f n with
    | false => exact ⟨n, by omega, hq⟩
    | true =>
      have h : cnt f n + (if f n = true then 1 else 0) < n + 1 := h
      rw [if_pos hq] at h
      obtain ⟨i, h1, h2⟩ := ih (by omega)
      exact ⟨i, by omega, h2⟩
theorem cnt_all {f : Nat → Bool} : ∀ n, cnt f n = n → ∀ i, i < n → f i = true := by
  intro n
  induction n with
  | zero => intro _ i hi; omega
  | succ n ih =>
    intro h i hi
    have h : cnt f n + (if f n = true then 1 else 0) = n + 1 := h
    have hl := cnt_le f n
    cases hq : f n with
    | false => rw [if_neg (by rw [hq]; decide)] at h; omega
    | true =>
      rw [if_pos hq] at h
      by_cases c : i = n
      · rw [c]; exact hq
      · exact ih (by omega) i (by omega)
theorem cnt_set {f g : Nat → Bool} {a : Nat} (hf : f a = false) (hg : g a = true) (h : ∀ i, i ≠ a → g i = f i) : ∀ n, a < n → cnt g n = cnt f n + 1 := by
  intro n
  induction n with
  | zero => intro h; omega
  | succ n ih =>
    intro ha
    show cnt g n + (if g n = true then 1 else 0) = cnt f n + (if f n = true then 1 else 0) + 1
    by_cases c : n = a
    · subst c
      rw [cnt_congr n (fun i hi => h i (by omega)), hf, hg]
      rfl
    · rw [ih (by omega), h n c]
      omega
/-- a pool as it is played: row, series, turns, hours, grants -/
abbrev PS : Type := TT × Nat × TT × TT × Nat
def fl (k : Nat) : Int32 := if k % 2 = 0 then 1 else 0
def plA (A k : Nat) (p : PS) : Nat := (chC p.1 p.2.1 A (usd p.2.2.1) (fl k)).toNatClampNeg
noncomputable def plS (A N : Nat) : Nat → PS → PS := fun k p => if hrF p.1 p.2.1 N (plA A k p) = -1 then (p.1, p.2.1, uT p.2.2.1 (plA A k p) (nI k), uT p.2.2.2.1 (plA A k p) (-1), p.2.2.2.2) else (grT p.1 p.2.1 (plA A k p) (hrF p.1 p.2.1 N (plA A k p)), p.2.1 + 1, uT p.2.2.1 (plA A k p) (nI k), uT p.2.2.2.1 (plA A k p) (hrF p.1 p.2.1 N (plA A k p)), p.2.2.2.2 + 1)
theorem plS_f {A N k a : Nat} {p : PS} (ea : plA A k p = a) (h : hrF p.1 p.2.1 N a = -1) : plS A N k p = (p.1, p.2.1, uT p.2.2.1 a (nI k), uT p.2.2.2.1 a (-1), p.2.2.2.2) := by
  unfold plS
  rw [ea, if_pos h]
theorem plS_t {A N k a : Nat} {p : PS} {v : Int32} (ea : plA A k p = a) (h : hrF p.1 p.2.1 N a = v) (hv : ¬ v = -1) : plS A N k p = (grT p.1 p.2.1 a v, p.2.1 + 1, uT p.2.2.1 a (nI k), uT p.2.2.2.1 a v, p.2.2.2.2 + 1) := by
  unfold plS
  rw [ea, h, if_neg hv]
def PIV (W C A N : Nat) (T0 : TT) (k : Nat) (p : PS) : Prop := WFB p.1 W C p.2.1 A N ∧ cnt (usd p.2.2.1) A = k ∧ (∀ a, A ≤ a → p.2.2.1 a = -1 ∧ p.2.2.2.1 a = -1) ∧ (∀ i, i < 62 ∨ 350 ≤ i → i ≠ 2 → p.1 i = T0 i) ∧ p.2.2.2.2 ≤ k ∧ ∀ a, p.2.2.1 a = -1 → p.2.2.2.1 a = -1
theorem usd_f {t : TT} {a : Nat} : usd t a = false ↔ t a = -1 := by
  unfold usd
  rw [decide_eq_false_iff_not, Classical.not_not]
theorem usd_t {t : TT} {a : Nat} : usd t a = true ↔ ¬ t a = -1 := by
  unfold usd
  rw [decide_eq_true_iff]
theorem fl_01 (k : Nat) : fl k = 0 ∨ fl k = 1 := by
  unfold fl
  by_cases c : k % 2 = 0
  · rw [if_pos c]; exact Or.inr rfl
  · rw [if_neg c]; exact Or.inl rfl
theorem PIV.a {W C A N k : Nat} {T0 : TT} {p : PS} (iv : PIV W C A N T0 k p) (hk : k < A) : ∃ a, a < A ∧ plA A k p = a ∧ chC p.1 p.2.1 A (usd p.2.2.1) (fl k) = nI a ∧ p.2.2.1 a = -1 := by
  have hA : A ≤ 24 := iv.1.2.2.2.2.2.2.2.2.1
  obtain ⟨i, hi, hu⟩ := cnt_lt A (by rw [iv.2.1]; exact hk)
  obtain ⟨a, ha, ga, ea⟩ := chC_ok (T := p.1) (S := p.2.1) (fl_01 k) hA hi hu
  refine ⟨a, ha, ?_, ea, usd_f.mp ga⟩
  unfold plA
  rw [ea, nI_clamp (by omega)]
theorem usd_cnt {t : TT} {A a k : Nat} (ha : a < A) (hk : k < 2 ^ 31) (h : t a = -1) : cnt (usd (uT t a (nI k))) A = cnt (usd t) A + 1 :=
  cnt_set (usd_f.mpr h) (usd_t.mpr (by rw [uT_at]; exact nI_ne1 hk)) (fun i hi => by unfold usd; rw [uT_ne _ _ hi]) A ha
theorem PIV.f {W C A N k a : Nat} {T0 : TT} {p : PS} (iv : PIV W C A N T0 k p) (ha : a < A) (hk : k < A) (h : p.2.2.1 a = -1) : PIV W C A N T0 (k + 1) (p.1, p.2.1, uT p.2.2.1 a (nI k), uT p.2.2.2.1 a (-1), p.2.2.2.2) := by
  have hA : A ≤ 24 := iv.1.2.2.2.2.2.2.2.2.1
  obtain ⟨i1, i2, i3, i4, i5, i6⟩ := iv
  refine ⟨i1, ?_, fun b hb => ?_, i4, ?_, fun b hb => ?_⟩
  · show cnt (usd (uT p.2.2.1 a (nI k))) A = k + 1
    rw [usd_cnt ha (by omega) h, i2]
  · show uT p.2.2.1 a (nI k) b = -1 ∧ uT p.2.2.2.1 a (-1) b = -1
    rw [uT_ne _ _ (by omega), uT_ne _ _ (by omega)]; exact i3 b hb
  · show p.2.2.2.2 ≤ k + 1
    omega
  · show uT p.2.2.2.1 a (-1) b = -1
    have hb : uT p.2.2.1 a (nI k) b = -1 := hb
    by_cases c : b = a
    · rw [c, uT_at]
    · rw [uT_ne _ _ c] at hb ⊢; exact i6 b hb
theorem PIV.t {W C A N k a h : Nat} {T0 : TT} {p : PS} (iv : PIV W C A N T0 k p) (ha : a < A) (hk : k < A) (h1 : p.2.2.1 a = -1) (hh : h < 24) (hS : p.2.1 < 24) (hl : ¬ (ao p.1 a 5).toNatClampNeg < N) : PIV W C A N T0 (k + 1) (grT p.1 p.2.1 a (nI h), p.2.1 + 1, uT p.2.2.1 a (nI k), uT p.2.2.2.1 a (nI h), p.2.2.2.2 + 1) := by
  have hA : A ≤ 24 := iv.1.2.2.2.2.2.2.2.2.1
  obtain ⟨i1, i2, i3, i4, i5, i6⟩ := iv
  refine ⟨i1.add hS (Was.gr i1 ha hh hl), ?_, fun b hb => ?_, fun i hi h2 => ?_, ?_, fun b hb => ?_⟩
  · show cnt (usd (uT p.2.2.1 a (nI k))) A = k + 1
    rw [usd_cnt ha (by omega) h1, i2]
  · show uT p.2.2.1 a (nI k) b = -1 ∧ uT p.2.2.2.1 a (nI h) b = -1
    rw [uT_ne _ _ (by omega), uT_ne _ _ (by omega)]; exact i3 b hb
  · exact (adT_off h2 (by omega)).trans (i4 i hi h2)
  · show p.2.2.2.2 + 1 ≤ k + 1
    omega
  · show uT p.2.2.2.1 a (nI h) b = -1
    have hb : uT p.2.2.1 a (nI k) b = -1 := hb
    by_cases c : b = a
    · rw [c, uT_at] at hb; exact absurd hb (nI_ne1 (by omega))
    · rw [uT_ne _ _ c] at hb ⊢; exact i6 b hb
def pl0 (T0 : TT) (S : Nat) : PS := (T0, S, fun _ => -1, fun _ => -1, 0)
theorem PIV.st {W C S A N : Nat} {T0 : TT} (F : WFB T0 W C S A N) : PIV W C A N T0 0 (pl0 T0 S) := by
  refine ⟨F, ?_, fun _ _ => ⟨rfl, rfl⟩, fun _ _ _ => rfl, Nat.le_refl _, fun _ _ => rfl⟩
  show cnt (usd (fun _ => -1)) A = 0
  rw [cnt_congr (g := fun _ => false) A (fun i _ => usd_f.mpr rfl)]
  induction A with
  | zero => rfl
  | succ n ih => 
    have : ∀ n, cnt (fun _ => false) n = 0 := fun n => by
      induction n with
      | zero => rfl
      | succ n ih => show cnt (fun _ => false) n + _ = 0; rw [ih]; rfl
    exact this _
/-- at each turn, and at the end, it is in order -/
theorem PIV.run {W C S A N : Nat} {T0 : TT} (F : WFB T0 W C S A N) : ∀ k, k ≤ A → PIV W C A N T0 k (accT (plS A N) k (pl0 T0 S)) := by
  intro k
  induction k with
  | zero => intro _; exact PIV.st F
  | succ k ih =>
    intro hk
    have iv := ih (by omega)
    simp only [accT]
    generalize accT (plS A N) k (pl0 T0 S) = p at iv ⊢
    obtain ⟨a, ha, e1, e2, e3⟩ := iv.a (by omega)
    obtain ⟨-, -, ⟨h0, hh0, eh0⟩, -⟩ := iv.1.2.2.2.2.2.2.2.2.2.2.2.2.2 a ha
    rcases hrF_in (S := p.2.1) (N := N) hh0 eh0 with g0 | ⟨h, h1, h2, h3, h4⟩
    · rw [plS_f e1 g0]; exact iv.f ha (by omega) e3
    · rw [plS_t e1 h2 (nI_ne1 (by omega))]
      exact iv.t ha (by omega) e3 h1 (by have := iv.1.2.2.2.2.2.2.1; omega) h4
def CPR (y : Cn) (p : PS) (W C A N : Nat) : Prop := SEB y 118 p.1 W C p.2.1 A N ∧ HLD y p.1 p.2.1 ∧ gi y 117 4 = nI p.2.2.2.2 ∧ ∀ a, ¬ p.2.2.1 a = -1 → gi y 173 a = p.2.2.1 a ∧ gi y 174 a = p.2.2.2.1 a
def hlT (T : TT) (h : Nat) : TT := uT (uT T (6 + 2 * h) (T (6 + 2 * h) + 1)) (7 + 2 * h) (T (7 + 2 * h) + 1)
theorem hlT_off {T : TT} {h i : Nat} (hh : h < 24) (c : i < 6 ∨ 54 ≤ i) : hlT T h i = T i := by
  unfold hlT
  rw [uT_ne _ _ (by omega), uT_ne _ _ (by omega)]
theorem WFB.hl {T : TT} {W C S A N h : Nat} (F : WFB T W C S A N) (hh : h < 24) : WFB (hlT T h) W C S A N := by
  obtain ⟨w1, w2, w3, w4, w5, w6, w7, w8, w9, w10, w11, w12, w13, w14⟩ := F
  have hT : ∀ i, i < 6 ∨ 54 ≤ i → hlT T h i = T i := fun i hi => hlT_off hh hi
  exact ⟨by rw [hT 0 (by omega)]; exact w1, w2, w3, by rw [hT 1 (by omega)]; exact w4, w5, by rw [hT 2 (by omega)]; exact w6, w7, by rw [hT 3 (by omega)]; exact w8, w9, by rw [hT 4 (by omega)]; exact w10, w11, w12, fun s hs => (w13 s hs).cg (fun k hk => hT _ (by omega)), fun a ha => (w14 a ha).cg (fun k hk => hT _ (by omega))⟩
theorem SEB.hl {x : Cn} {q : Nat} {T : TT} {W C S A N h : Nat} (E : SEB x q T W C S A N) (hh : h < 24) : SEB (ui (ui x (q + 1) h (T (6 + 2 * h) + 1)) (q + 2) h (T (7 + 2 * h) + 1)) q (hlT T h) W C S A N := by
  have F := E.2.2.2.hl hh
  obtain ⟨e1, e2, ⟨v0, v1, v2, v3, v4, v5, v6, v7⟩, w1, w2, w3, w4, w5, w6, w7, w8, w9, w10, w11, w12, w13, w14⟩ := E
  obtain ⟨r1, r2, r3, r4, r5, r6, r7, r8, r9⟩ := id e2
  have hT : ∀ i, i < 6 ∨ 54 ≤ i → hlT T h i = T i := fun i hi => hlT_off hh hi
  have eo : ∀ b k, b ≠ q + 1 → b ≠ q + 2 → gi (ui (ui x (q + 1) h (T (6 + 2 * h) + 1)) (q + 2) h (T (7 + 2 * h) + 1)) b k = gi x b k := fun b k b1 b2 => by rw [gi_ui, if_neg (fun u => b2 u.1), gi_ui, if_neg (fun u => b1 u.1)]
  refine ⟨e1, e2.keep rfl, ⟨?_, ?_, ?_, ?_, ?_, ?_, ?_, ?_⟩, F⟩
  · rw [eo q 0 (by omega) (by omega), hT 0 (by omega)]; exact v0
  · rw [eo q 1 (by omega) (by omega), hT 4 (by omega)]; exact v1
  · rw [eo q 2 (by omega) (by omega), hT 5 (by omega)]; exact v2
  · rw [eo q 3 (by omega) (by omega), hT 2 (by omega)]; exact v3
  · rw [eo q 4 (by omega) (by omega), hT 3 (by omega)]; exact v4
  · intro i hi
    by_cases c : i = h
    · subst c
      refine ⟨?_, ?_⟩
      · rw [gi_ui, if_neg (by omega), gi_ui, if_pos ⟨rfl, rfl⟩]
        unfold hlT
        rw [uT_ne _ _ (by omega), uT_at]
      · rw [gi_ui, if_pos ⟨rfl, rfl⟩]
        unfold hlT
        rw [uT_at]
    · refine ⟨?_, ?_⟩
      · rw [gi_ui, if_neg (by omega), gi_ui, if_neg (fun u => c u.2)]
        unfold hlT
        rw [uT_ne _ _ (by omega), uT_ne _ _ (by omega)]
        exact (v5 i hi).1
      · rw [gi_ui, if_neg (fun u => c u.2), gi_ui, if_neg (by omega)]
        unfold hlT
        rw [uT_ne _ _ (by omega), uT_ne _ _ (by omega)]
        exact (v5 i hi).2
  · intro s p hs hp
    obtain ⟨j, hj, ej⟩ := r6 s (by omega)
    have ep : p = q + 6 + j := Option.some.inj ((show gr x (q + 3) s = some p from hp).symm.trans ej)
    exact (v6 s p hs hp).cg (fun k _ => eo p k (by omega) (by omega)) (fun k hk => hT _ (by omega))
  · intro s p hs hp
    obtain ⟨j, hj, ej⟩ := r8 s (by omega)
    have ep : p = q + 30 + j := Option.some.inj ((show gr x (q + 4) s = some p from hp).symm.trans ej)
    exact (v7 s p hs hp).cg (fun k _ => eo p k (by omega) (by omega)) (fun k hk => hT _ (by omega))
set_option maxHeartbeats 2000000 in
theorem v_X2_serve_0 {K : Sh} {x : Cn} {Q : Cn → Prop} {b0 : Nat} {b1 : Nat} {l2 : Int32} {b0_0 : Nat} (k_b0 : kk K b0 = some (2, 0)) (g_b0_0 : gr x b0 0 = some b0_0) (k_b0_0 : kk K b0_0 = some (4, 0)) (K0 : mSV mX4_copyFrom [.ref b0_0, .ref b1] K x (fun y_1 => (l2 < 0 → (mSV mX2_countSlots [.ref b0] K y_1 (fun y_3 => mSI mX2_allAsks [.ref b0] K (ui y_3 b0 4 0) (fun r_5 y_4 => GV mX2_serve 61 [some (.ref b0), some (.ref b1), some (.int l2), some (.int r_5), some (.int 0), none] [] K y_4 Q)))) ∧ (¬ l2 < 0 → ((24 ≤ l2 → (mSV mX2_countSlots [.ref b0] K y_1 (fun y_7 => mSI mX2_allAsks [.ref b0] K (ui y_7 b0 4 0) (fun r_9 y_8 => GV mX2_serve 61 [some (.ref b0), some (.ref b1), some (.int l2), some (.int r_9), some (.int 0), none] [] K y_8 Q)))) ∧ (¬ 24 ≤ l2 → (gr y_1 b0 0 = some b0_0 ∧ (∃ c_11 : Nat, gr y_1 b0_0 5 = some c_11 ∧ (∃ n_14 : Nat, kk K c_11 = some (20, n_14) ∧ (vp_in l2 n_14 ∧ (∃ c_16 : Nat, gr y_1 b0_0 6 = some c_16 ∧ (∃ n_19 : Nat, kk K c_16 = some (20, n_19) ∧ (vp_in l2 n_19 ∧ (mSV mX2_countSlots [.ref b0] K (ui (ui y_1 c_11 (l2 : Int32).toNatClampNeg ((gi y_1 c_11 (l2 : Int32).toNatClampNeg) + 1)) c_16 (l2 : Int32).toNatClampNeg ((gi (ui y_1 c_11 (l2 : Int32).toNatClampNeg ((gi y_1 c_11 (l2 : Int32).toNatClampNeg) + 1)) c_16 (l2 : Int32).toNatClampNeg) + 1)) (fun y_21 => mSI mX2_allAsks [.ref b0] K (ui y_21 b0 4 0) (fun r_23 y_22 => GV mX2_serve 61 [some (.ref b0), some (.ref b1), some (.int l2), some (.int r_23), some (.int 0), none] [] K y_22 Q))))))))))))))) : mSV mX2_serve [.ref b0, .ref b1, .int l2] K x Q := by
  refine s_V (by decide) (by simp [Value.category]) (Nat.le_of_ble_eq_true rfl) ?_
  show mGM mX2_serve 0 [some (.ref b0), some (.ref b1), some (.int l2), none, none, none] [] (hp K x) (PV K Q)
  refine r_aload_n (pc := 0) dX2_serve_0 rfl ?_
  refine s_getR (pc := 1) dX2_serve_1 fl_X2_12 rfl k_b0 g_b0_0 ?_
  refine r_aload_n (pc := 4) dX2_serve_4 rfl ?_
  refine s_VV (pc := 5) mX4_copyFrom (ci := 4) (a := b0_0) (As := [.ref b1]) dX2_serve_5 lk_X2_32 in_X4_copyFrom mo_X4_copyFrom ⟨by decide, rfl⟩ ⟨by decide, by decide⟩ (Nat.le_of_ble_eq_true rfl) k_b0_0 (mSV_mono K0 (fun y_1 K0 => ?_))
  refine r_iload_n (pc := 8) dX2_serve_8 rfl ?_
  refine r_if_lt (pc := 9) (tgt := 44) dX2_serve_9 (by decide) (fun q => ?_) (fun q => ?_)
  · have K0 := K0.1 q
    refine r_aload_n (pc := 44) dX2_serve_44 rfl ?_
    refine s_VV (pc := 45) mX2_countSlots (ci := 2) (a := b0) (As := []) dX2_serve_45 lk_X2_36 in_X2_countSlots mo_X2_countSlots ⟨by decide, rfl⟩ ⟨by decide, by decide⟩ (Nat.le_of_ble_eq_true rfl) k_b0 (mSV_mono K0 (fun y_3 K0 => ?_))
    refine r_aload_n (pc := 48) dX2_serve_48 rfl ?_
    refine r_iconst (pc := 49) (v := 0) dX2_serve_49 (by decide) ?_
    refine s_putI (pc := 50) dX2_serve_50 fl_X2_28 rfl rfl k_b0 ?_
    refine r_aload_n (pc := 53) dX2_serve_53 rfl ?_
    refine s_VI (pc := 54) mX2_allAsks (ci := 2) (a := b0) (As := []) dX2_serve_54 lk_X2_39 in_X2_allAsks mo_X2_allAsks ⟨by decide, rfl⟩ ⟨by decide, by decide⟩ (Nat.le_of_ble_eq_true rfl) k_b0 (mSI_mono K0 (fun r_5 y_4 K0 => ?_))
    refine r_istore_n (pc := 57) dX2_serve_57 (by decide) ?_
    refine r_iconst (pc := 58) (L := [some (.ref b0), some (.ref b1), some (.int l2), some (.int r_5), none, none]) (v := 0) dX2_serve_58 (by decide) ?_
    refine r_istore (pc := 59) dX2_serve_59 (by decide) ?_
    exact r_le (L' := [some (.ref b0), some (.ref b1), some (.int l2), some (.int r_5), some (.int 0), none]) ⟨rfl, ⟨rfl, ⟨rfl, ⟨rfl, ⟨rfl, trivial⟩⟩⟩⟩⟩ K0
  · have K0 := K0.2 q
    refine r_iload_n (pc := 12) dX2_serve_12 rfl ?_
    refine r_bipush (pc := 13) (v := 24) dX2_serve_13 (by decide) ?_
    refine r_icmp_ge (pc := 15) (tgt := 44) dX2_serve_15 (by decide) (fun q => ?_) (fun q => ?_)
    · have K0 := K0.1 q
      refine r_aload_n (pc := 44) dX2_serve_44 rfl ?_
      refine s_VV (pc := 45) mX2_countSlots (ci := 2) (a := b0) (As := []) dX2_serve_45 lk_X2_36 in_X2_countSlots mo_X2_countSlots ⟨by decide, rfl⟩ ⟨by decide, by decide⟩ (Nat.le_of_ble_eq_true rfl) k_b0 (mSV_mono K0 (fun y_7 K0 => ?_))
      refine r_aload_n (pc := 48) dX2_serve_48 rfl ?_
      refine r_iconst (pc := 49) (v := 0) dX2_serve_49 (by decide) ?_
      refine s_putI (pc := 50) dX2_serve_50 fl_X2_28 rfl rfl k_b0 ?_
      refine r_aload_n (pc := 53) dX2_serve_53 rfl ?_
      refine s_VI (pc := 54) mX2_allAsks (ci := 2) (a := b0) (As := []) dX2_serve_54 lk_X2_39 in_X2_allAsks mo_X2_allAsks ⟨by decide, rfl⟩ ⟨by decide, by decide⟩ (Nat.le_of_ble_eq_true rfl) k_b0 (mSI_mono K0 (fun r_9 y_8 K0 => ?_))
      refine r_istore_n (pc := 57) dX2_serve_57 (by decide) ?_
      refine r_iconst (pc := 58) (L := [some (.ref b0), some (.ref b1), some (.int l2), some (.int r_9), none, none]) (v := 0) dX2_serve_58 (by decide) ?_
      refine r_istore (pc := 59) dX2_serve_59 (by decide) ?_
      exact r_le (L' := [some (.ref b0), some (.ref b1), some (.int l2), some (.int r_9), some (.int 0), none]) ⟨rfl, ⟨rfl, ⟨rfl, ⟨rfl, ⟨rfl, trivial⟩⟩⟩⟩⟩ K0
    · have K0 := K0.2 q
      refine r_aload_n (pc := 18) dX2_serve_18 rfl ?_
      obtain ⟨g_10, K0⟩ := K0
      refine s_getR (pc := 19) dX2_serve_19 fl_X2_12 rfl k_b0 g_10 ?_
      obtain ⟨c_11, g_12, K0⟩ := K0
      refine s_getR (pc := 22) dX2_serve_22 fl_X2_47 rfl k_b0_0 g_12 ?_
      refine r_iload_n (pc := 25) dX2_serve_25 rfl ?_
      refine r_dup2 (pc := 26) dX2_serve_26 rfl rfl ?_
      obtain ⟨n_14, e_13, K0⟩ := K0
      obtain ⟨i_15, K0⟩ := K0
      refine s_iald (pc := 27) dX2_serve_27 e_13 i_15 ?_
      refine r_iconst (pc := 28) (v := 1) dX2_serve_28 (by decide) ?_
      refine r_iadd (pc := 29) dX2_serve_29 ?_
      refine s_iast (pc := 30) dX2_serve_30 e_13 i_15 ?_
      refine r_aload_n (pc := 31) dX2_serve_31 rfl ?_
      refine s_getR (pc := 32) dX2_serve_32 fl_X2_12 rfl k_b0 g_10 ?_
      obtain ⟨c_16, g_17, K0⟩ := K0
      refine s_getR (pc := 35) dX2_serve_35 fl_X2_50 rfl k_b0_0 g_17 ?_
      refine r_iload_n (pc := 38) dX2_serve_38 rfl ?_
      refine r_dup2 (pc := 39) dX2_serve_39 rfl rfl ?_
      obtain ⟨n_19, e_18, K0⟩ := K0
      obtain ⟨i_20, K0⟩ := K0
      refine s_iald (pc := 40) dX2_serve_40 e_18 i_20 ?_
      refine r_iconst (pc := 41) (v := 1) dX2_serve_41 (by decide) ?_
      refine r_iadd (pc := 42) dX2_serve_42 ?_
      refine s_iast (pc := 43) dX2_serve_43 e_18 i_20 ?_
      refine r_aload_n (pc := 44) dX2_serve_44 rfl ?_
      refine s_VV (pc := 45) mX2_countSlots (ci := 2) (a := b0) (As := []) dX2_serve_45 lk_X2_36 in_X2_countSlots mo_X2_countSlots ⟨by decide, rfl⟩ ⟨by decide, by decide⟩ (Nat.le_of_ble_eq_true rfl) k_b0 (mSV_mono K0 (fun y_21 K0 => ?_))
      refine r_aload_n (pc := 48) dX2_serve_48 rfl ?_
      refine r_iconst (pc := 49) (v := 0) dX2_serve_49 (by decide) ?_
      refine s_putI (pc := 50) dX2_serve_50 fl_X2_28 rfl rfl k_b0 ?_
      refine r_aload_n (pc := 53) dX2_serve_53 rfl ?_
      refine s_VI (pc := 54) mX2_allAsks (ci := 2) (a := b0) (As := []) dX2_serve_54 lk_X2_39 in_X2_allAsks mo_X2_allAsks ⟨by decide, rfl⟩ ⟨by decide, by decide⟩ (Nat.le_of_ble_eq_true rfl) k_b0 (mSI_mono K0 (fun r_23 y_22 K0 => ?_))
      refine r_istore_n (pc := 57) dX2_serve_57 (by decide) ?_
      refine r_iconst (pc := 58) (L := [some (.ref b0), some (.ref b1), some (.int l2), some (.int r_23), none, none]) (v := 0) dX2_serve_58 (by decide) ?_
      refine r_istore (pc := 59) dX2_serve_59 (by decide) ?_
      exact r_le (L' := [some (.ref b0), some (.ref b1), some (.int l2), some (.int r_23), some (.int 0), none]) ⟨rfl, ⟨rfl, ⟨rfl, ⟨rfl, ⟨rfl, trivial⟩⟩⟩⟩⟩ K0
set_option maxHeartbeats 2000000 in
theorem v_X2_serve_61 {K : Sh} {x : Cn} {Q : Cn → Prop} {b0 : Nat} {b1 : Nat} {l2 : Int32} {l3 : Int32} {l4 : Int32} {b0_0 : Nat} (k_b0 : kk K b0 = some (2, 0)) (g_b0_0 : gr x b0 0 = some b0_0) (k_b0_0 : kk K b0_0 = some (4, 0)) (K0 : ((gi x b0_0 4) ≤ l4 → (Q x)) ∧ (¬ (gi x b0_0 4) ≤ l4 → ((¬ (l4 - l4 / 2 * 2) = 0 → (mSI mX2_chosen [.ref b0, .int l3, .int 0] K x (fun r_4 y_3 => (r_4 < 0 → (GV mX2_serve 61 [some (.ref b0), some (.ref b1), some (.int l2), some (.int l3), some (.int (l4 + 1)), none] [] K y_3 Q)) ∧ (¬ r_4 < 0 → (gr y_3 b0 0 = some b0_0 ∧ (((gi y_3 b0_0 4) ≤ r_4 → (GV mX2_serve 61 [some (.ref b0), some (.ref b1), some (.int l2), some (.int l3), some (.int (l4 + 1)), none] [] K y_3 Q)) ∧ (¬ (gi y_3 b0_0 4) ≤ r_4 → (∃ c_8 : Nat, gr y_3 b0 2 = some c_8 ∧ (∃ n_11 : Nat, kk K c_8 = some (20, n_11) ∧ (vp_in r_4 n_11 ∧ (mSV mX2_lookAt [.ref b0, .int r_4] K (ui y_3 c_8 (r_4 : Int32).toNatClampNeg l4) (fun y_13 => GV mX2_serve 61 [some (.ref b0), some (.ref b1), some (.int l2), some (.int (l3 &&& ((1 <<< (r_4 &&& 31)) ^^^ (-1)))), some (.int (l4 + 1)), none] [] K y_13 Q)))))))))))) ∧ ((l4 - l4 / 2 * 2) = 0 → (mSI mX2_chosen [.ref b0, .int l3, .int 1] K x (fun r_15 y_14 => (r_15 < 0 → (GV mX2_serve 61 [some (.ref b0), some (.ref b1), some (.int l2), some (.int l3), some (.int (l4 + 1)), none] [] K y_14 Q)) ∧ (¬ r_15 < 0 → (gr y_14 b0 0 = some b0_0 ∧ (((gi y_14 b0_0 4) ≤ r_15 → (GV mX2_serve 61 [some (.ref b0), some (.ref b1), some (.int l2), some (.int l3), some (.int (l4 + 1)), none] [] K y_14 Q)) ∧ (¬ (gi y_14 b0_0 4) ≤ r_15 → (∃ c_19 : Nat, gr y_14 b0 2 = some c_19 ∧ (∃ n_22 : Nat, kk K c_19 = some (20, n_22) ∧ (vp_in r_15 n_22 ∧ (mSV mX2_lookAt [.ref b0, .int r_15] K (ui y_14 c_19 (r_15 : Int32).toNatClampNeg l4) (fun y_24 => GV mX2_serve 61 [some (.ref b0), some (.ref b1), some (.int l2), some (.int (l3 &&& ((1 <<< (r_15 &&& 31)) ^^^ (-1)))), some (.int (l4 + 1)), none] [] K y_24 Q))))))))))))))) : GV mX2_serve 61 [some (.ref b0), some (.ref b1), some (.int l2), some (.int l3), some (.int l4), none] [] K x Q := by
  show mGM mX2_serve 61 [some (.ref b0), some (.ref b1), some (.int l2), some (.int l3), some (.int l4), none] [] (hp K x) (PV K Q)
  refine r_iload (pc := 61) dX2_serve_61 rfl ?_
  refine r_aload_n (pc := 63) dX2_serve_63 rfl ?_
  refine s_getR (pc := 64) dX2_serve_64 fl_X2_12 rfl k_b0 g_b0_0 ?_
  refine s_getI (pc := 67) dX2_serve_67 fl_X2_53 rfl k_b0_0 ?_
  refine r_icmp_ge (pc := 70) (tgt := 139) dX2_serve_70 (by decide) (fun q => ?_) (fun q => ?_)
  · have K0 := K0.1 q
    exact s_ret rfl dX2_serve_139 K0
  · have K0 := K0.2 q
    refine r_aload_n (pc := 73) dX2_serve_73 rfl ?_
    refine r_iload_n (pc := 74) dX2_serve_74 rfl ?_
    refine r_iload (pc := 75) dX2_serve_75 rfl ?_
    refine r_iconst (pc := 77) (v := 2) dX2_serve_77 (by decide) ?_
    refine r_irem (pc := 78) dX2_serve_78 (by decide) ?_
    refine r_if_ne (pc := 79) (tgt := 86) dX2_serve_79 (by decide) (fun q => ?_) (fun q => ?_)
    · have K0 := K0.1 q
      refine r_iconst (pc := 86) (v := 0) dX2_serve_86 (by decide) ?_
      refine s_VI (pc := 87) mX2_chosen (ci := 2) (a := b0) (As := [.int l3, .int 0]) dX2_serve_87 lk_X2_43 in_X2_chosen mo_X2_chosen ⟨by decide, rfl⟩ ⟨by decide, by decide⟩ (Nat.le_of_ble_eq_true rfl) k_b0 (mSI_mono K0 (fun r_4 y_3 K0 => ?_))
      refine r_istore (pc := 90) dX2_serve_90 (by decide) ?_
      refine r_iload (pc := 92) (L := [some (.ref b0), some (.ref b1), some (.int l2), some (.int l3), some (.int l4), some (.int r_4)]) dX2_serve_92 rfl ?_
      refine r_if_lt (pc := 94) (tgt := 133) dX2_serve_94 (by decide) (fun q => ?_) (fun q => ?_)
      · have K0 := K0.1 q
        refine r_iinc (pc := 133) (v := l4 + 1) dX2_serve_133 rfl rfl (by decide) ?_
        refine r_goto (pc := 136) (L := [some (.ref b0), some (.ref b1), some (.int l2), some (.int l3), some (.int (l4 + 1)), some (.int r_4)]) (tgt := 61) dX2_serve_136 (by decide) ?_
        exact r_le (L' := [some (.ref b0), some (.ref b1), some (.int l2), some (.int l3), some (.int (l4 + 1)), none]) ⟨rfl, ⟨rfl, ⟨rfl, ⟨rfl, ⟨rfl, trivial⟩⟩⟩⟩⟩ K0
      · have K0 := K0.2 q
        refine r_iload (pc := 97) dX2_serve_97 rfl ?_
        refine r_aload_n (pc := 99) dX2_serve_99 rfl ?_
        obtain ⟨g_6, K0⟩ := K0
        refine s_getR (pc := 100) dX2_serve_100 fl_X2_12 rfl k_b0 g_6 ?_
        refine s_getI (pc := 103) dX2_serve_103 fl_X2_53 rfl k_b0_0 ?_
        refine r_icmp_ge (pc := 106) (tgt := 133) dX2_serve_106 (by decide) (fun q => ?_) (fun q => ?_)
        · have K0 := K0.1 q
          refine r_iinc (pc := 133) (v := l4 + 1) dX2_serve_133 rfl rfl (by decide) ?_
          refine r_goto (pc := 136) (L := [some (.ref b0), some (.ref b1), some (.int l2), some (.int l3), some (.int (l4 + 1)), some (.int r_4)]) (tgt := 61) dX2_serve_136 (by decide) ?_
          exact r_le (L' := [some (.ref b0), some (.ref b1), some (.int l2), some (.int l3), some (.int (l4 + 1)), none]) ⟨rfl, ⟨rfl, ⟨rfl, ⟨rfl, ⟨rfl, trivial⟩⟩⟩⟩⟩ K0
        · have K0 := K0.2 q
          refine r_iload_n (pc := 109) dX2_serve_109 rfl ?_
          refine r_iconst (pc := 110) (v := 1) dX2_serve_110 (by decide) ?_
          refine r_iload (pc := 111) dX2_serve_111 rfl ?_
          refine r_ishl (pc := 113) dX2_serve_113 ?_
          refine r_iconst (pc := 114) (v := (-1)) dX2_serve_114 (by decide) ?_
          refine r_ixor (pc := 115) dX2_serve_115 ?_
          refine r_iand (pc := 116) dX2_serve_116 ?_
          refine r_istore_n (pc := 117) dX2_serve_117 (by decide) ?_
          refine r_aload_n (pc := 118) (L := [some (.ref b0), some (.ref b1), some (.int l2), some (.int (l3 &&& ((1 <<< (r_4 &&& 31)) ^^^ (-1)))), some (.int l4), some (.int r_4)]) dX2_serve_118 rfl ?_
          obtain ⟨c_8, g_9, K0⟩ := K0
          refine s_getR (pc := 119) dX2_serve_119 fl_X2_22 rfl k_b0 g_9 ?_
          refine r_iload (pc := 122) dX2_serve_122 rfl ?_
          refine r_iload (pc := 124) dX2_serve_124 rfl ?_
          obtain ⟨n_11, e_10, K0⟩ := K0
          obtain ⟨i_12, K0⟩ := K0
          refine s_iast (pc := 126) dX2_serve_126 e_10 i_12 ?_
          refine r_aload_n (pc := 127) dX2_serve_127 rfl ?_
          refine r_iload (pc := 128) dX2_serve_128 rfl ?_
          refine s_VV (pc := 130) mX2_lookAt (ci := 2) (a := b0) (As := [.int r_4]) dX2_serve_130 lk_X2_56 in_X2_lookAt mo_X2_lookAt ⟨by decide, rfl⟩ ⟨by decide, by decide⟩ (Nat.le_of_ble_eq_true rfl) k_b0 (mSV_mono K0 (fun y_13 K0 => ?_))
          refine r_iinc (pc := 133) (v := l4 + 1) dX2_serve_133 rfl rfl (by decide) ?_
          refine r_goto (pc := 136) (L := [some (.ref b0), some (.ref b1), some (.int l2), some (.int (l3 &&& ((1 <<< (r_4 &&& 31)) ^^^ (-1)))), some (.int (l4 + 1)), some (.int r_4)]) (tgt := 61) dX2_serve_136 (by decide) ?_
          exact r_le (L' := [some (.ref b0), some (.ref b1), some (.int l2), some (.int (l3 &&& ((1 <<< (r_4 &&& 31)) ^^^ (-1)))), some (.int (l4 + 1)), none]) ⟨rfl, ⟨rfl, ⟨rfl, ⟨rfl, ⟨rfl, trivial⟩⟩⟩⟩⟩ K0
    · have K0 := K0.2 q
      refine r_iconst (pc := 82) (v := 1) dX2_serve_82 (by decide) ?_
      refine r_goto (pc := 83) (tgt := 87) dX2_serve_83 (by decide) ?_
      refine s_VI (pc := 87) mX2_chosen (ci := 2) (a := b0) (As := [.int l3, .int 1]) dX2_serve_87 lk_X2_43 in_X2_chosen mo_X2_chosen ⟨by decide, rfl⟩ ⟨by decide, by decide⟩ (Nat.le_of_ble_eq_true rfl) k_b0 (mSI_mono K0 (fun r_15 y_14 K0 => ?_))
      refine r_istore (pc := 90) dX2_serve_90 (by decide) ?_
      refine r_iload (pc := 92) (L := [some (.ref b0), some (.ref b1), some (.int l2), some (.int l3), some (.int l4), some (.int r_15)]) dX2_serve_92 rfl ?_
      refine r_if_lt (pc := 94) (tgt := 133) dX2_serve_94 (by decide) (fun q => ?_) (fun q => ?_)
      · have K0 := K0.1 q
        refine r_iinc (pc := 133) (v := l4 + 1) dX2_serve_133 rfl rfl (by decide) ?_
        refine r_goto (pc := 136) (L := [some (.ref b0), some (.ref b1), some (.int l2), some (.int l3), some (.int (l4 + 1)), some (.int r_15)]) (tgt := 61) dX2_serve_136 (by decide) ?_
        exact r_le (L' := [some (.ref b0), some (.ref b1), some (.int l2), some (.int l3), some (.int (l4 + 1)), none]) ⟨rfl, ⟨rfl, ⟨rfl, ⟨rfl, ⟨rfl, trivial⟩⟩⟩⟩⟩ K0
      · have K0 := K0.2 q
        refine r_iload (pc := 97) dX2_serve_97 rfl ?_
        refine r_aload_n (pc := 99) dX2_serve_99 rfl ?_
        obtain ⟨g_17, K0⟩ := K0
        refine s_getR (pc := 100) dX2_serve_100 fl_X2_12 rfl k_b0 g_17 ?_
        refine s_getI (pc := 103) dX2_serve_103 fl_X2_53 rfl k_b0_0 ?_
        refine r_icmp_ge (pc := 106) (tgt := 133) dX2_serve_106 (by decide) (fun q => ?_) (fun q => ?_)
        · have K0 := K0.1 q
          refine r_iinc (pc := 133) (v := l4 + 1) dX2_serve_133 rfl rfl (by decide) ?_
          refine r_goto (pc := 136) (L := [some (.ref b0), some (.ref b1), some (.int l2), some (.int l3), some (.int (l4 + 1)), some (.int r_15)]) (tgt := 61) dX2_serve_136 (by decide) ?_
          exact r_le (L' := [some (.ref b0), some (.ref b1), some (.int l2), some (.int l3), some (.int (l4 + 1)), none]) ⟨rfl, ⟨rfl, ⟨rfl, ⟨rfl, ⟨rfl, trivial⟩⟩⟩⟩⟩ K0
        · have K0 := K0.2 q
          refine r_iload_n (pc := 109) dX2_serve_109 rfl ?_
          refine r_iconst (pc := 110) (v := 1) dX2_serve_110 (by decide) ?_
          refine r_iload (pc := 111) dX2_serve_111 rfl ?_
          refine r_ishl (pc := 113) dX2_serve_113 ?_
          refine r_iconst (pc := 114) (v := (-1)) dX2_serve_114 (by decide) ?_
          refine r_ixor (pc := 115) dX2_serve_115 ?_
          refine r_iand (pc := 116) dX2_serve_116 ?_
          refine r_istore_n (pc := 117) dX2_serve_117 (by decide) ?_
          refine r_aload_n (pc := 118) (L := [some (.ref b0), some (.ref b1), some (.int l2), some (.int (l3 &&& ((1 <<< (r_15 &&& 31)) ^^^ (-1)))), some (.int l4), some (.int r_15)]) dX2_serve_118 rfl ?_
          obtain ⟨c_19, g_20, K0⟩ := K0
          refine s_getR (pc := 119) dX2_serve_119 fl_X2_22 rfl k_b0 g_20 ?_
          refine r_iload (pc := 122) dX2_serve_122 rfl ?_
          refine r_iload (pc := 124) dX2_serve_124 rfl ?_
          obtain ⟨n_22, e_21, K0⟩ := K0
          obtain ⟨i_23, K0⟩ := K0
          refine s_iast (pc := 126) dX2_serve_126 e_21 i_23 ?_
          refine r_aload_n (pc := 127) dX2_serve_127 rfl ?_
          refine r_iload (pc := 128) dX2_serve_128 rfl ?_
          refine s_VV (pc := 130) mX2_lookAt (ci := 2) (a := b0) (As := [.int r_15]) dX2_serve_130 lk_X2_56 in_X2_lookAt mo_X2_lookAt ⟨by decide, rfl⟩ ⟨by decide, by decide⟩ (Nat.le_of_ble_eq_true rfl) k_b0 (mSV_mono K0 (fun y_24 K0 => ?_))
          refine r_iinc (pc := 133) (v := l4 + 1) dX2_serve_133 rfl rfl (by decide) ?_
          refine r_goto (pc := 136) (L := [some (.ref b0), some (.ref b1), some (.int l2), some (.int (l3 &&& ((1 <<< (r_15 &&& 31)) ^^^ (-1)))), some (.int (l4 + 1)), some (.int r_15)]) (tgt := 61) dX2_serve_136 (by decide) ?_
          exact r_le (L' := [some (.ref b0), some (.ref b1), some (.int l2), some (.int (l3 &&& ((1 <<< (r_15 &&& 31)) ^^^ (-1)))), some (.int (l4 + 1)), none]) ⟨rfl, ⟨rfl, ⟨rfl, ⟨rfl, ⟨rfl, trivial⟩⟩⟩⟩⟩ K0
section
theorem sp_X2_serve_lp {x : Cn} {Q : Cn → Prop} {W C S A N : Nat} {T0 : TT} {b1 : Nat} {hp : Int32} (P : PLf x) (F : WFB T0 W C S A N) (k : ∀ y, PCr x y → CPR y (accT (plS A N) A (pl0 T0 S)) W C A N → Q y) {y : Cn} {left : Int32} (fy : PCr x y) (cy : CPR y (pl0 T0 S) W C A N) (hu : ∀ a, a < A → tb left a = !(usd (fun _ => -1) a)) : GV mX2_serve 61 [some (.ref 117), some (.ref b1), some (.int hp), some (.int left), some (.int 0), none] [] KW y Q := by
  refine lp_acc (plS A N) (fun k p => PIV W C A N T0 k p → ∀ y left, PCr x y → CPR y p W C A N → (∀ a, a < A → tb left a = !(usd p.2.2.1 a)) → GV mX2_serve 61 [some (.ref 117), some (.ref b1), some (.int hp), some (.int left), some (.int (nI k)), none] [] KW y Q) A (pl0 T0 S) ?_ (fun k p hk n1 => ?_) (PIV.st F) y left fy cy hu
  · intro iv y left fy cy hu
    exact v_X2_serve_61 k117 (P.keep fy.1).1 (ks0 cy.1.1) ⟨fun _ => k y fy cy, fun z => absurd (by rw [cy.1.nums.2.2.2.1]; exact Int32.le_refl _) z⟩
  · intro iv y left fy cy hu
    obtain ⟨a, ha, e1, e2, e3⟩ := iv.a hk
    obtain ⟨E, hl, hg, hth⟩ := cy
    have hA : A ≤ 24 := E.nums.2.2.2.2.2.2.2.1
    have P2 := P.keep fy.1
    have hu' : ∀ b, b < A → tb (left &&& ((1 <<< (nI a &&& 31)) ^^^ (-1))) b = !(usd (uT p.2.2.1 a (nI k)) b) := by
      intro b hb
      rw [tb_and, tb_not _ (by omega), tb_one a (by omega) b (by omega), hu b hb]
      by_cases c : b = a
      · subst c
        rw [usd_t.mpr (show ¬ uT p.2.2.1 b (nI k) b = -1 by rw [uT_at]; exact nI_ne1 (by omega)), decide_eq_true rfl]
        simp
      · rw [decide_eq_false c, show usd (uT p.2.2.1 a (nI k)) b = usd p.2.2.1 b by unfold usd; rw [uT_ne _ _ c]]
        simp
    have look : mSV mX2_lookAt [.ref 117, .int (nI a)] KW (ui y 173 a (nI k)) (fun y_13 => GV mX2_serve 61 [some (.ref 117), some (.ref b1), some (.int hp), some (.int (left &&& ((1 <<< (nI a &&& 31)) ^^^ (-1)))), some (.int (nI (k + 1))), none] [] KW y_13 Q) := by
      have E2 : SEB (ui y 173 a (nI k)) 118 p.1 W C p.2.1 A N := E.eqx (EQx.rf y 173).ui (Or.inr (Or.inr (by decide)))
      have P3 : PLf (ui y 173 a (nI k)) := P2.keep rfl
      have f3 : PCr x (ui y 173 a (nI k)) := fy.ui (by decide)
      refine sp_X2_lookAt P3 E2 (hl.mv (fun i => by rw [gi_ui, if_neg (by omega)])) (g := p.2.2.2.2) (by rw [gi_ui, if_neg (by omega)]; exact hg) ha (fun h0 v fv Ev lv gv tv hv => ?_) (fun h h1 h2 h3 h4 v fv Ev lv gv tv hv => ?_)
      · refine n1 _ (plS_f e1 h0) (iv.f ha hk e3) v _ (f3.tr fv) ⟨Ev, lv, gv, fun b hb => ?_⟩ hu'
        show gi v 173 b = uT p.2.2.1 a (nI k) b ∧ gi v 174 b = uT p.2.2.2.1 a (-1) b
        rw [tv, hv, gi_ui]
        by_cases c : b = a
        · subst c
          rw [if_pos ⟨rfl, rfl⟩, if_pos rfl, uT_at, uT_at]; exact ⟨rfl, rfl⟩
        · rw [if_neg (fun u => c u.2), if_neg c, uT_ne _ _ c, uT_ne _ _ c, gi_ui, if_neg (by omega)]
          exact hth b (by have hb : ¬ uT p.2.2.1 a (nI k) b = -1 := hb
                          rw [uT_ne _ _ c] at hb; exact hb)
      · refine n1 _ (plS_t e1 h2 (nI_ne1 (by omega))) (iv.t ha hk e3 h1 h3 h4) v _ (f3.tr fv) ⟨Ev, lv, gv, fun b hb => ?_⟩ hu'
        show gi v 173 b = uT p.2.2.1 a (nI k) b ∧ gi v 174 b = uT p.2.2.2.1 a (nI h) b
        rw [tv, hv, gi_ui]
        by_cases c : b = a
        · subst c
          rw [if_pos ⟨rfl, rfl⟩, if_pos rfl, uT_at, uT_at]; exact ⟨rfl, rfl⟩
        · rw [if_neg (fun u => c u.2), if_neg c, uT_ne _ _ c, uT_ne _ _ c, gi_ui, if_neg (by omega)]
          exact hth b (by have hb : ¬ uT p.2.2.1 a (nI k) b = -1 := hb
                          rw [uT_ne _ _ c] at hb; exact hb)
    have e4 : gi y 118 4 = nI A := E.nums.2.2.2.1
    refine v_X2_serve_61 k117 P2.1 (ks0 E.1) ⟨fun z => absurd (by rw [e4] at z; exact z) (nI_ge hk (by omega)), fun _ => ?_⟩
    rw [show nI k - nI k / 2 * 2 = nI (k % 2) from pk_rem (d := 2) (by omega) (by decide) (by decide), nI_z (by omega), nI_1]
    have go : ∀ r, r = nI a → (r < 0 → GV mX2_serve 61 [some (.ref 117), some (.ref b1), some (.int hp), some (.int left), some (.int (nI (k + 1))), none] [] KW y Q) ∧ (¬ r < 0 → gr y 117 0 = some 118 ∧ ((gi y 118 4 ≤ r → GV mX2_serve 61 [some (.ref 117), some (.ref b1), some (.int hp), some (.int left), some (.int (nI (k + 1))), none] [] KW y Q) ∧ (¬ gi y 118 4 ≤ r → ∃ c_8, gr y 117 2 = some c_8 ∧ ∃ n_11, kk KW c_8 = some (20, n_11) ∧ (vp_in r n_11 ∧ mSV mX2_lookAt [.ref 117, .int r] KW (ui y c_8 (r : Int32).toNatClampNeg (nI k)) (fun y_13 => GV mX2_serve 61 [some (.ref 117), some (.ref b1), some (.int hp), some (.int (left &&& ((1 <<< (r &&& 31)) ^^^ (-1)))), some (.int (nI (k + 1))), none] [] KW y_13 Q))))) := by
      rintro r rfl
      refine ⟨fun z => absurd z (nI_pos (by omega)), fun _ => ⟨P2.1, fun z => absurd (by rw [e4] at z; exact z) (nI_ge ha (by omega)), fun _ => ⟨173, P2.2.2.1, 24, k173, vp_in_nI (by omega) (by decide), ?_⟩⟩⟩
      rw [nI_clamp (by omega)]
      exact look
    refine ⟨fun z => sp_X2_chosen P2 E hl hu (go _ ?_), fun z => sp_X2_chosen P2 E hl hu (go _ ?_)⟩
    · rw [← e2]; unfold fl; rw [if_neg z]
    · rw [← e2]; unfold fl; rw [if_pos z]
theorem sp_X2_serve {x : Cn} {Q : Cn → Prop} {T T0 : TT} {W C S A N : Nat} {hp : Int32} (c : CRf x) (E : SEA x 2 T W C S A N) (hh : (hp = -1 ∧ T0 = T) ∨ ∃ h, h < 24 ∧ hp = nI h ∧ T0 = hlT T h) (k : ∀ y, PCr x y → CPR y (accT (plS A N) A (pl0 T0 S)) W C A N → Q y) : mSV mX2_serve [.ref 117, .ref 2, .int hp] KW x Q := by
  have P := c.pl
  have hA : A ≤ 24 := E.nums.2.2.2.2.2.2.2.1
  have I118 : Isea 118 := Or.inr (Or.inr (Or.inl rfl))
  have fin : ∀ v, PCr x v → SEB v 118 T0 W C S A N → mSV mX2_countSlots [.ref 117] KW v (fun y_3 => mSI mX2_allAsks [.ref 117] KW (ui y_3 117 4 0) (fun r_5 y_4 => GV mX2_serve 61 [some (.ref 117), some (.ref 2), some (.int hp), some (.int r_5), some (.int 0), none] [] KW y_4 Q)) := by
    intro v fv Ev
    refine sp_X2_countSlots (P.keep fv.1) Ev (fun w hw lw => ?_)
    have Ew := Ev.eqx hw (Or.inr (Or.inr (by decide)))
    have E2 : SEB (ui w 117 4 0) 118 T0 W C S A N := Ew.eqx (EQx.rf w 117).ui (Or.inr (Or.inl (by decide)))
    have f2 : PCr x (ui w 117 4 0) := (fv.tr (hw.pc (by decide))).ui (by decide)
    refine v_X2_allAsks_0 k117 (P.keep f2.1).1 (ks0 I118) (sp_X2_serve_lp P Ev.2.2.2 k f2 ⟨E2, lw.mv (fun i => by rw [gi_ui, if_neg (by omega)]), by rw [gi_ui, if_pos ⟨rfl, rfl⟩]; rfl, fun a ha => absurd rfl ha⟩ (fun a ha => ?_))
    rw [E2.nums.2.2.2.1, tb_alls A (by omega) a (by omega), decide_eq_true ha, usd_f.mpr rfl]
    rfl
  refine v_X2_serve_0 k117 P.1 (ks0 I118) (sp_X4_copyFrom I118 c.2.2.2.2.2.2.2.2.2.2.2.2.2.2.2.2.2.2.1 E (by decide) (fun y fy Ey => ?_))
  rcases hh with ⟨rfl, rfl⟩ | ⟨h, hh, rfl, rfl⟩
  · exact ⟨fun _ => fin y fy.pc Ey.b, fun z => absurd (by decide) z⟩
  · refine ⟨fun z => absurd z (nI_pos (by omega)), fun _ => ⟨fun z => absurd z (nI_ge (b := 24) hh (by decide)), fun _ => ⟨(P.keep fy.1).1, 119, Ey.2.1.1, 24, ks1 I118, vp_in_nI hh (by decide), 120, Ey.2.1.2.1, 24, ks2 I118, vp_in_nI hh (by decide), ?_⟩⟩⟩
    have v5 := Ey.2.2.1.2.2.2.2.2.1 h hh
    have g1 : gi y 119 h = T (6 + 2 * h) := v5.1
    have g2 : gi y 120 h = T (7 + 2 * h) := v5.2
    rw [nI_clamp (by omega), g1, show gi (ui y 119 h (T (6 + 2 * h) + 1)) 120 h = T (7 + 2 * h) by rw [gi_ui, if_neg (by omega)]; exact g2]
    exact fin _ ((fy.pc.ui (by decide)).ui (by decide)) (Ey.b.hl hh)

end

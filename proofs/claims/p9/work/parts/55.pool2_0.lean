theorem cnt_lt {f : Nat → Bool} : ∀ n, cnt f n < n → ∃ i, i < n ∧ f i = false := by
  intro n
  induction n with
  | zero => intro h; exact absurd h (Nat.not_lt_zero _)
  | succ n ih =>
    intro h
    cases hq : f n with
    | false => exact ⟨n, by omega, hq⟩
    | true =>
      have h : cnt f n + (if f n = true then 1 else 0) < n + 1 := h
      rw [if_pos hq] at h
      obtain ⟨i, h1, h2⟩ := ih (by omega)
      exact ⟨i, by omega, h2⟩
theorem cnt_all {f : Nat → Bool} : ∀ n, cnt f n = n → ∀ i, i < n → f i = true := by
  intro n
  induction n with
  | zero => intro _ i hi; omega
  | succ n ih =>
    intro h i hi
    have h : cnt f n + (if f n = true then 1 else 0) = n + 1 := h
    have hl := cnt_le f n
    cases hq : f n with
    | false => rw [if_neg (by rw [hq]; decide)] at h; omega
    | true =>
      rw [if_pos hq] at h
      by_cases c : i = n
      · rw [c]; exact hq
      · exact ih (by omega) i (by omega)
theorem cnt_set {f g : Nat → Bool} {a : Nat} (hf : f a = false) (hg : g a = true) (h : ∀ i, i ≠ a → g i = f i) : ∀ n, a < n → cnt g n = cnt f n + 1 := by
  intro n
  induction n with
  | zero => intro h; omega
  | succ n ih =>
    intro ha
    show cnt g n + (if g n = true then 1 else 0) = cnt f n + (if f n = true then 1 else 0) + 1
    by_cases c : n = a
    · subst c
      rw [cnt_congr n (fun i hi => h i (by omega)), hf, hg]
      rfl
    · rw [ih (by omega), h n c]
      omega
/-- a pool as it is played: row, series, turns, hours, grants -/
abbrev PS : Type := TT × Nat × TT × TT × Nat
def fl (k : Nat) : Int32 := if k % 2 = 0 then 1 else 0
def plA (A k : Nat) (p : PS) : Nat := (chC p.1 p.2.1 A (usd p.2.2.1) (fl k)).toNatClampNeg
noncomputable def plS (A N : Nat) : Nat → PS → PS := fun k p => if hrF p.1 p.2.1 N (plA A k p) = -1 then (p.1, p.2.1, uT p.2.2.1 (plA A k p) (nI k), uT p.2.2.2.1 (plA A k p) (-1), p.2.2.2.2) else (grT p.1 p.2.1 (plA A k p) (hrF p.1 p.2.1 N (plA A k p)), p.2.1 + 1, uT p.2.2.1 (plA A k p) (nI k), uT p.2.2.2.1 (plA A k p) (hrF p.1 p.2.1 N (plA A k p)), p.2.2.2.2 + 1)
theorem plS_f {A N k a : Nat} {p : PS} (ea : plA A k p = a) (h : hrF p.1 p.2.1 N a = -1) : plS A N k p = (p.1, p.2.1, uT p.2.2.1 a (nI k), uT p.2.2.2.1 a (-1), p.2.2.2.2) := by
  unfold plS
  rw [ea, if_pos h]
theorem plS_t {A N k a : Nat} {p : PS} {v : Int32} (ea : plA A k p = a) (h : hrF p.1 p.2.1 N a = v) (hv : ¬ v = -1) : plS A N k p = (grT p.1 p.2.1 a v, p.2.1 + 1, uT p.2.2.1 a (nI k), uT p.2.2.2.1 a v, p.2.2.2.2 + 1) := by
  unfold plS
  rw [ea, h, if_neg hv]
def PIV (W C A N : Nat) (T0 : TT) (k : Nat) (p : PS) : Prop := WFB p.1 W C p.2.1 A N ∧ cnt (usd p.2.2.1) A = k ∧ (∀ a, A ≤ a → p.2.2.1 a = -1 ∧ p.2.2.2.1 a = -1) ∧ (∀ i, i < 62 ∨ 350 ≤ i → i ≠ 2 → p.1 i = T0 i) ∧ p.2.2.2.2 ≤ k ∧ ∀ a, p.2.2.1 a = -1 → p.2.2.2.1 a = -1
theorem usd_f {t : TT} {a : Nat} : usd t a = false ↔ t a = -1 := by
  unfold usd
  rw [decide_eq_false_iff_not, Classical.not_not]
theorem usd_t {t : TT} {a : Nat} : usd t a = true ↔ ¬ t a = -1 := by
  unfold usd
  rw [decide_eq_true_iff]
theorem fl_01 (k : Nat) : fl k = 0 ∨ fl k = 1 := by
  unfold fl
  by_cases c : k % 2 = 0
  · rw [if_pos c]; exact Or.inr rfl
  · rw [if_neg c]; exact Or.inl rfl
theorem PIV.a {W C A N k : Nat} {T0 : TT} {p : PS} (iv : PIV W C A N T0 k p) (hk : k < A) : ∃ a, a < A ∧ plA A k p = a ∧ chC p.1 p.2.1 A (usd p.2.2.1) (fl k) = nI a ∧ p.2.2.1 a = -1 := by
  have hA : A ≤ 24 := iv.1.2.2.2.2.2.2.2.2.1
  obtain ⟨i, hi, hu⟩ := cnt_lt A (by rw [iv.2.1]; exact hk)
  obtain ⟨a, ha, ga, ea⟩ := chC_ok (T := p.1) (S := p.2.1) (fl_01 k) hA hi hu
  refine ⟨a, ha, ?_, ea, usd_f.mp ga⟩
  unfold plA
  rw [ea, nI_clamp (by omega)]
theorem usd_cnt {t : TT} {A a k : Nat} (ha : a < A) (hk : k < 2 ^ 31) (h : t a = -1) : cnt (usd (uT t a (nI k))) A = cnt (usd t) A + 1 :=
  cnt_set (usd_f.mpr h) (usd_t.mpr (by rw [uT_at]; exact nI_ne1 hk)) (fun i hi => by unfold usd; rw [uT_ne _ _ hi]) A ha
theorem PIV.f {W C A N k a : Nat} {T0 : TT} {p : PS} (iv : PIV W C A N T0 k p) (ha : a < A) (hk : k < A) (h : p.2.2.1 a = -1) : PIV W C A N T0 (k + 1) (p.1, p.2.1, uT p.2.2.1 a (nI k), uT p.2.2.2.1 a (-1), p.2.2.2.2) := by
  have hA : A ≤ 24 := iv.1.2.2.2.2.2.2.2.2.1
  obtain ⟨i1, i2, i3, i4, i5, i6⟩ := iv
  refine ⟨i1, ?_, fun b hb => ?_, i4, ?_, fun b hb => ?_⟩
  · show cnt (usd (uT p.2.2.1 a (nI k))) A = k + 1
    rw [usd_cnt ha (by omega) h, i2]
  · show uT p.2.2.1 a (nI k) b = -1 ∧ uT p.2.2.2.1 a (-1) b = -1
    rw [uT_ne _ _ (by omega), uT_ne _ _ (by omega)]; exact i3 b hb
  · show p.2.2.2.2 ≤ k + 1
    omega
  · show uT p.2.2.2.1 a (-1) b = -1
    have hb : uT p.2.2.1 a (nI k) b = -1 := hb
    by_cases c : b = a
    · rw [c, uT_at]
    · rw [uT_ne _ _ c] at hb ⊢; exact i6 b hb
theorem PIV.t {W C A N k a h : Nat} {T0 : TT} {p : PS} (iv : PIV W C A N T0 k p) (ha : a < A) (hk : k < A) (h1 : p.2.2.1 a = -1) (hh : h < 24) (hS : p.2.1 < 24) (hl : ¬ (ao p.1 a 5).toNatClampNeg < N) : PIV W C A N T0 (k + 1) (grT p.1 p.2.1 a (nI h), p.2.1 + 1, uT p.2.2.1 a (nI k), uT p.2.2.2.1 a (nI h), p.2.2.2.2 + 1) := by
  have hA : A ≤ 24 := iv.1.2.2.2.2.2.2.2.2.1
  obtain ⟨i1, i2, i3, i4, i5, i6⟩ := iv
  refine ⟨i1.add hS (Was.gr i1 ha hh hl), ?_, fun b hb => ?_, fun i hi h2 => ?_, ?_, fun b hb => ?_⟩
  · show cnt (usd (uT p.2.2.1 a (nI k))) A = k + 1
    rw [usd_cnt ha (by omega) h1, i2]
  · show uT p.2.2.1 a (nI k) b = -1 ∧ uT p.2.2.2.1 a (nI h) b = -1
    rw [uT_ne _ _ (by omega), uT_ne _ _ (by omega)]; exact i3 b hb
  · exact (adT_off h2 (by omega)).trans (i4 i hi h2)
  · show p.2.2.2.2 + 1 ≤ k + 1
    omega
  · show uT p.2.2.2.1 a (nI h) b = -1
    have hb : uT p.2.2.1 a (nI k) b = -1 := hb
    by_cases c : b = a
    · rw [c, uT_at] at hb; exact absurd hb (nI_ne1 (by omega))
    · rw [uT_ne _ _ c] at hb ⊢; exact i6 b hb
def pl0 (T0 : TT) (S : Nat) : PS := (T0, S, fun _ => -1, fun _ => -1, 0)
theorem PIV.st {W C S A N : Nat} {T0 : TT} (F : WFB T0 W C S A N) : PIV W C A N T0 0 (pl0 T0 S) := by
  refine ⟨F, ?_, fun _ _ => ⟨rfl, rfl⟩, fun _ _ _ => rfl, Nat.le_refl _, fun _ _ => rfl⟩
  show cnt (usd (fun _ => -1)) A = 0
  rw [cnt_congr (g := fun _ => false) A (fun i _ => usd_f.mpr rfl)]
  induction A with
  | zero => rfl
  | succ n ih => 
    have : ∀ n, cnt (fun _ => false) n = 0 := fun n => by
      induction n with
      | zero => rfl
      | succ n ih => show cnt (fun _ => false) n + _ = 0; rw [ih]; rfl
    exact this _

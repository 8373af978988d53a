/-! the shape behind both constructors -/
def skd (j : Nat) : Nat × Nat := if j = 0 then (4, 0) else if j ≤ 2 then (20, 24) else if j = 3 then (23, 24) else if j = 4 then (24, 24) else if j = 5 then (20, 25) else if j < 30 then (5, 0) else (0, 0)
def kwf (a : Nat) : Nat × Nat := if a = 0 then (7, 0) else if a = 1 then (21, 1200) else if a < 56 then skd (a - 2) else if a = 56 then (1, 0) else if a = 57 then (20, 48) else if a = 58 then (22, 10) else if a = 59 then (3, 0) else if a < 114 then skd (a - 60) else if a = 114 then (1, 0) else if a = 115 then (20, 48) else if a = 116 then (21, 0) else if a = 117 then (2, 0) else if a < 172 then skd (a - 118) else if a = 172 then (20, 56) else if a ≤ 174 then (20, 24) else if a = 175 then (6, 0) else if a = 176 then (21, 2400) else if a < 717 then skd ((a - 177) % 54) else if a = 717 then (8, 0) else if a ≤ 719 then (20, 518) else if a = 720 then (21, 1200) else if a = 721 then (20, 7) else if a ≤ 723 then (20, 24) else if a = 724 then (20, 5180) else (21, 3000)
def KW : Sh := (726, kwf)
/-- where seasons lie -/
def Isea (q : Nat) : Prop := q = 2 ∨ q = 60 ∨ q = 118 ∨ ∃ i, i < 10 ∧ q = 177 + 54 * i
theorem ksea {q : Nat} (h : Isea q) : ∀ j, j < 54 → kk KW (q + j) = some (skd j) := by
  rcases h with rfl | rfl | rfl | ⟨i, hi, rfl⟩
  · decide +kernel
  · decide +kernel
  · decide +kernel
  · have : ∀ i, i < 10 → ∀ j, j < 54 → kk KW (177 + 54 * i + j) = some (skd j) := by decide +kernel
    exact this i hi
theorem Isea.lt {q : Nat} (h : Isea q) : 2 ≤ q ∧ q + 54 ≤ 717 := by
  rcases h with rfl | rfl | rfl | ⟨i, hi, rfl⟩ <;> omega
section KS
variable {q : Nat}
theorem ks0 (h : Isea q) : kk KW q = some (4, 0) := ksea h 0 (by decide)
theorem ks1 (h : Isea q) : kk KW (q + 1) = some (20, 24) := ksea h 1 (by decide)
theorem ks2 (h : Isea q) : kk KW (q + 2) = some (20, 24) := ksea h 2 (by decide)
theorem ks3 (h : Isea q) : kk KW (q + 3) = some (23, 24) := ksea h 3 (by decide)
theorem ks4 (h : Isea q) : kk KW (q + 4) = some (24, 24) := ksea h 4 (by decide)
theorem ks5 (h : Isea q) : kk KW (q + 5) = some (20, 25) := ksea h 5 (by decide)
theorem ks6 (h : Isea q) {j : Nat} (hj : j < 24) : kk KW (q + 6 + j) = some (5, 0) := by
  have := ksea h (6 + j) (by omega)
  rw [Nat.add_assoc, this]
  unfold skd
  rw [if_neg (by omega), if_neg (by omega), if_neg (by omega), if_neg (by omega), if_neg (by omega), if_pos (by omega)]
theorem ks30 (h : Isea q) {j : Nat} (hj : j < 24) : kk KW (q + 30 + j) = some (0, 0) := by
  have := ksea h (30 + j) (by omega)
  rw [Nat.add_assoc, this]
  unfold skd
  rw [if_neg (by omega), if_neg (by omega), if_neg (by omega), if_neg (by omega), if_neg (by omega), if_neg (by omega)]
end KS
/-! the told row as the state of all -/
abbrev TT : Type := Nat → Int32
def so (T : TT) (s k : Nat) : Int32 := T (62 + 12 * s + k)
def ao (T : TT) (a k : Nat) : Int32 := T (350 + 7 * a + k)
def bas (T : TT) (s : Nat) : Int32 := ((so T s 7 ||| so T s 8) ||| so T s 9) ||| so T s 10
/-- a series of the row is sound: C carriers, W weeks -/
def Wse (T : TT) (C W s : Nat) : Prop := (∃ c, c < C ∧ so T s 0 = nI c) ∧ (∃ d, d < 7 ∧ so T s 1 = nI d) ∧ (∃ h, h < 24 ∧ so T s 2 = nI h) ∧ (so T s 3 = 0 ∨ so T s 3 = 1) ∧ (so T s 4 = 0 ∨ so T s 4 = 1) ∧ (∃ f l, f ≤ l ∧ l < W ∧ so T s 5 = nI f ∧ so T s 6 = nI l) ∧ (∀ i, i < 32 → ∀ k j, k < 5 → j < 5 → tb (so T s (7 + k)) i = true → tb (so T s (7 + j)) i = true → k = j) ∧ ∀ i k, k < 5 → tb (so T s (7 + k)) i = true → i < W
def Was (T : TT) (C W a : Nat) : Prop := (∃ c, c < C ∧ ao T a 0 = nI c) ∧ (∃ d, d < 7 ∧ ao T a 1 = nI d) ∧ (∃ h, h < 24 ∧ ao T a 2 = nI h) ∧ (ao T a 3 = 0 ∨ ao T a 3 = 1) ∧ (∃ f l, f + 4 ≤ l ∧ l < W ∧ ao T a 4 = nI f ∧ ao T a 5 = nI l) ∧ ∃ b, b ≤ 9 ∧ ao T a 6 = nI b
/-- the row is sound: W weeks, C carriers, S series, A asks, now N -/
def WF (T : TT) (W C S A N : Nat) : Prop := T 0 = nI W ∧ ((W = 0 ∧ C = 0) ∨ 5 ≤ W) ∧ W ≤ 30 ∧ T 1 = nI C ∧ C ≤ 8 ∧ T 2 = nI S ∧ S ≤ 24 ∧ T 3 = nI A ∧ A ≤ 24 ∧ T 4 = nI N ∧ N ≤ W ∧ (∀ h, h < 24 → ∃ a b, a ≤ 10 ∧ b ≤ 10 ∧ T (6 + 2 * h) = nI a ∧ T (7 + 2 * h) = nI b) ∧ (∀ s, s < S → Wse T C W s) ∧ ∀ a, a < A → Was T C W a
/-! a season of the landed one shows the row -/
def SER (x : Cn) (p : Nat) (T : TT) (s : Nat) : Prop := (∀ k, k < 12 → k ≠ 7 → gi x p k = so T s k) ∧ gi x p 7 = bas T s ||| so T s 11
def ASR (x : Cn) (p : Nat) (T : TT) (a : Nat) : Prop := ∀ k, k < 7 → gi x p k = ao T a k
def SRf (x : Cn) (q : Nat) : Prop := gr x q 5 = some (q + 1) ∧ gr x q 6 = some (q + 2) ∧ gr x q 7 = some (q + 3) ∧ gr x q 8 = some (q + 4) ∧ gr x q 9 = some (q + 5) ∧ (∀ s, s < 24 → ∃ j, j < 24 ∧ gr x (q + 3) s = some (q + 6 + j)) ∧ (∀ s t, s < 24 → t < 24 → gr x (q + 3) s = gr x (q + 3) t → s = t) ∧ (∀ s, s < 24 → ∃ j, j < 24 ∧ gr x (q + 4) s = some (q + 30 + j)) ∧ ∀ s t, s < 24 → t < 24 → gr x (q + 4) s = gr x (q + 4) t → s = t
def SVl (x : Cn) (q : Nat) (T : TT) (S A : Nat) : Prop := gi x q 0 = T 0 ∧ gi x q 1 = T 4 ∧ gi x q 2 = T 5 ∧ gi x q 3 = T 2 ∧ gi x q 4 = T 3 ∧ (∀ h, h < 24 → gi x (q + 1) h = T (6 + 2 * h) ∧ gi x (q + 2) h = T (7 + 2 * h)) ∧ (∀ s p, s < S → gr x (q + 3) s = some p → SER x p T s) ∧ ∀ a p, a < A → gr x (q + 4) a = some p → ASR x p T a
/-- all of it -/
def SEA (x : Cn) (q : Nat) (T : TT) (W C S A N : Nat) : Prop := Isea q ∧ SRf x q ∧ SVl x q T S A ∧ WF T W C S A N
/-! bits of a series -/
theorem tb_bas (T : TT) (s i : Nat) : tb (bas T s) i = (((tb (so T s 7) i || tb (so T s 8) i) || tb (so T s 9) i) || tb (so T s 10) i) := by
  unfold bas
  rw [tb_or, tb_or, tb_or]
theorem SER.held {x : Cn} {p : Nat} {T : TT} {C W s : Nat} (h : SER x p T s) (w : Wse T C W s) : f_held x p = bas T s := by
  obtain ⟨-, -, -, -, -, -, hd, -⟩ := w
  unfold f_held
  rw [h.2, h.1 11 (by decide) (by decide)]
  apply tb_ext
  intro i hi
  rw [tb_and, tb_or, tb_not _ hi, tb_bas]
  have d0 := hd i hi 0 4 (by decide) (by decide)
  have d1 := hd i hi 1 4 (by decide) (by decide)
  have d2 := hd i hi 2 4 (by decide) (by decide)
  have d3 := hd i hi 3 4 (by decide) (by decide)
  simp only [Nat.add_zero, Nat.reduceAdd] at d0 d1 d2 d3
  cases h7 : tb (so T s 7) i <;> cases h8 : tb (so T s 8) i <;> cases h9 : tb (so T s 9) i <;> cases h10 : tb (so T s 10) i <;> cases h11 : tb (so T s 11) i <;> simp_all
theorem SER.opn {x : Cn} {p : Nat} {T : TT} {C W s : Nat} (h : SER x p T s) (w : Wse T C W s) : f_open x p = so T s 7 := by
  obtain ⟨-, -, -, -, -, -, hd, -⟩ := w
  unfold f_open
  rw [h.2, h.1 8 (by decide) (by decide), h.1 9 (by decide) (by decide), h.1 10 (by decide) (by decide), h.1 11 (by decide) (by decide)]
  apply tb_ext
  intro i hi
  rw [tb_and, tb_or, tb_not _ hi, tb_bas, tb_or, tb_or, tb_or]
  have d1 := hd i hi 0 1 (by decide) (by decide)
  have d2 := hd i hi 0 2 (by decide) (by decide)
  have d3 := hd i hi 0 3 (by decide) (by decide)
  have d4 := hd i hi 0 4 (by decide) (by decide)
  simp only [Nat.add_zero, Nat.reduceAdd] at d1 d2 d3 d4
  cases h7 : tb (so T s 7) i <;> cases h8 : tb (so T s 8) i <;> cases h9 : tb (so T s 9) i <;> cases h10 : tb (so T s 10) i <;> cases h11 : tb (so T s 11) i <;> simp_all
/-! places in the rows -/
theorem ix1 (s : Nat) {v : Int32} (k : Nat) (hk : v = nI k) : ((62 + (12 * nI s)) + v) = nI (62 + 12 * s + k) := by
  rw [hk, show (62 : Int32) = nI 62 by decide, show (12 : Int32) = nI 12 by decide, pk_mul, nI_add, nI_add]
theorem ix2 (s : Nat) {v : Int32} (k : Nat) (hk : v = nI k) : ((350 + (7 * nI s)) + v) = nI (350 + 7 * s + k) := by
  rw [hk, show (350 : Int32) = nI 350 by decide, show (7 : Int32) = nI 7 by decide, pk_mul, nI_add, nI_add]
theorem ic1 {s : Nat} (hs : s < 24) {v : Int32} (k : Nat) (hk : v = nI k) (h12 : k < 12) : (((62 + (12 * nI s)) + v) : Int32).toNatClampNeg = 62 + 12 * s + k := by rw [ix1 s k hk, nI_clamp (by omega)]
theorem ic2 {s : Nat} (hs : s < 24) {v : Int32} (k : Nat) (hk : v = nI k) (h12 : k < 7) : (((350 + (7 * nI s)) + v) : Int32).toNatClampNeg = 350 + 7 * s + k := by rw [ix2 s k hk, nI_clamp (by omega)]
theorem iv1 {s : Nat} (hs : s < 24) {v : Int32} (k : Nat) (hk : v = nI k) (h12 : k < 12) : vp_in (((62 + (12 * nI s)) + v) : Int32) 518 := by rw [ix1 s k hk]; exact vp_in_nI (by omega) (by decide)
theorem iv2 {s : Nat} (hs : s < 24) {v : Int32} (k : Nat) (hk : v = nI k) (h12 : k < 7) : vp_in (((350 + (7 * nI s)) + v) : Int32) 518 := by rw [ix2 s k hk]; exact vp_in_nI (by omega) (by decide)
theorem iv0 {v : Int32} (k N : Nat) (hk : v = nI k) (h : k < N) (hN : N < 2 ^ 31) : vp_in v N := by rw [hk]; exact vp_in_nI h hN
/-! the references of the reference itself: t is the row at hand -/
def MRf (x : Cn) (t : Nat) : Prop := gr x 717 1 = some 718 ∧ gr x 717 2 = some 719 ∧ gr x 717 3 = some t ∧ gr x 717 4 = some 720 ∧ gr x 717 15 = some 721 ∧ gr x 717 16 = some 722 ∧ gr x 717 17 = some 723 ∧ gr x 717 20 = some 724 ∧ gr x 717 21 = some 725
theorem km : kk KW 717 = some (8, 0) := by decide
theorem km1 : kk KW 718 = some (20, 518) := by decide
theorem km2 : kk KW 719 = some (20, 518) := by decide
/-- an int within 0 .. n-1 -/
theorem inN {v : Int32} {n : Nat} (hn : n < 2 ^ 31) (h : 0 ≤ v ∧ v < nI n) : ∃ j, j < n ∧ v = nI j := by
  obtain ⟨j, hj, rfl⟩ := nI_of (Int32.not_lt.mpr h.1)
  exact ⟨j, (nI_ltI hj hn).mp h.2, rfl⟩
theorem inN' {v : Int32} {n : Nat} (hn : n < 2 ^ 31) : (0 ≤ v ∧ v ≤ nI n - 1) ↔ (0 ≤ v ∧ v < nI n) := by
  cases n with
  | zero =>
    constructor
    · intro h
      have h1 : v ≤ -1 := h.2
      exact absurd (Int32.le_trans h.1 h1) (by decide)
    · intro h
      exact absurd h.2 (Int32.not_lt.mpr h.1)
  | succ n =>
    rw [nI_pred]
    constructor
    · intro h
      refine ⟨h.1, ?_⟩
      obtain ⟨j, hj, rfl⟩ := nI_of (Int32.not_lt.mpr h.1)
      have := (nI_leI hj (by omega)).mp h.2
      exact nI_lt (by omega) hn
    · intro h
      refine ⟨h.1, ?_⟩
      obtain ⟨j, hj, rfl⟩ := nI_of (Int32.not_lt.mpr h.1)
      have := (nI_ltI hj hn).mp h.2
      exact nI_le (by omega) (by omega)

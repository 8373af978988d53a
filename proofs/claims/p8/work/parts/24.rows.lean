/-! reads of the reference's rows, by number of series or ask -/
def l24 (v : Int32) (n : Nat) : Prop := 0 ≤ v ∧ v < 24 ∧ n = 518
def l12 (v : Int32) : Prop := 0 ≤ v ∧ v < 12
def l7 (v : Int32) : Prop := 0 ≤ v ∧ v < 7
theorem l24_nI {s n : Nat} (h : s < 24) (hn : n = 518) : l24 (nI s) n := ⟨nI_pos' (by omega), nI_lt h (by decide), hn⟩
theorem l24_of {v : Int32} {n : Nat} (h : l24 v n) : ∃ s, s < 24 ∧ v = nI s ∧ n = 518 := by
  obtain ⟨h1, h2, h3⟩ := h
  obtain ⟨j, hj, e⟩ := inN (n := 24) (by decide) ⟨h1, h2⟩
  exact ⟨j, hj, e, h3⟩
theorem l12_of {v : Int32} (h : l12 v) : ∃ s, s < 12 ∧ v = nI s := inN (n := 12) (by decide) h
theorem l7_of {v : Int32} (h : l7 v) : ∃ s, s < 7 ∧ v = nI s := inN (n := 7) (by decide) h
section SRX
variable {K : Sh} {x : Cn} {Q : Int32 → Cn → Prop} {b t n : Nat}
theorem sr_X8_one {l1 l2 : Int32} (h1 : kk K b = some (8, 0)) (h2 : gr x b 3 = some t) (h3 : kk K t = some (20, n)) (h4 : l24 l1 n) (h5 : l12 l2) (k : Q (so (gi x t) l1.toNatClampNeg l2.toNatClampNeg) x) : mSI mX8_one [.ref b, .int l1, .int l2] K x Q := by
  obtain ⟨s, hs, rfl, rfl⟩ := l24_of h4
  obtain ⟨j, hj, rfl⟩ := l12_of h5
  refine sp_X8_one h1 h2 h3 (iv1 hs j rfl hj) ?_
  rw [ic1 hs j rfl hj]
  rw [nI_clamp (by omega), nI_clamp (by omega)] at k
  exact k
theorem sr_X8_ask0 {l1 l2 : Int32} (h1 : kk K b = some (8, 0)) (h2 : gr x b 3 = some t) (h3 : kk K t = some (20, n)) (h4 : l24 l1 n) (h5 : l7 l2) (k : Q (ao (gi x t) l1.toNatClampNeg l2.toNatClampNeg) x) : mSI mX8_ask0 [.ref b, .int l1, .int l2] K x Q := by
  obtain ⟨s, hs, rfl, rfl⟩ := l24_of h4
  obtain ⟨j, hj, rfl⟩ := l7_of h5
  refine sp_X8_ask0 h1 h2 h3 (iv2 hs j rfl hj) ?_
  rw [ic2 hs j rfl hj]
  rw [nI_clamp (by omega), nI_clamp (by omega)] at k
  exact k
theorem sr_X8_basisOf {l1 : Int32} (h1 : kk K b = some (8, 0)) (h2 : gr x b 3 = some t) (h3 : kk K t = some (20, n)) (h4 : l24 l1 n) (k : Q (bas (gi x t) l1.toNatClampNeg) x) : mSI mX8_basisOf [.ref b, .int l1] K x Q := by
  obtain ⟨s, hs, rfl, rfl⟩ := l24_of h4
  refine sp_X8_basisOf h1 h2 h3 (iv1 hs 7 (by decide) (by decide)) (iv1 hs 8 (by decide) (by decide)) (iv1 hs 9 (by decide) (by decide)) (iv1 hs 10 (by decide) (by decide)) ?_
  rw [ic1 hs 7 (by decide) (by decide), ic1 hs 8 (by decide) (by decide), ic1 hs 9 (by decide) (by decide), ic1 hs 10 (by decide) (by decide)]
  rw [nI_clamp (by omega)] at k
  exact k
theorem sr_X8_goodOf {l1 : Int32} (h1 : kk K b = some (8, 0)) (h2 : gr x b 3 = some t) (h3 : kk K t = some (20, n)) (h4 : l24 l1 n) (k : Q (nI (cpt (so (gi x t) l1.toNatClampNeg 8 ||| so (gi x t) l1.toNatClampNeg 10))) x) : mSI mX8_goodOf [.ref b, .int l1] K x Q := by
  obtain ⟨s, hs, rfl, rfl⟩ := l24_of h4
  refine sp_X8_goodOf h1 h2 h3 (iv1 hs 8 (by decide) (by decide)) (iv1 hs 10 (by decide) (by decide)) ?_
  rw [ic1 hs 8 (by decide) (by decide), ic1 hs 10 (by decide) (by decide)]
  rw [nI_clamp (by omega)] at k
  exact k
theorem sr_X8_isNew {l1 : Int32} (h1 : kk K b = some (8, 0)) (h2 : gr x b 3 = some t) (h3 : kk K t = some (20, n)) (h4 : l24 l1 n) (k : Q (b2i (so (gi x t) l1.toNatClampNeg 4 = 1)) x) : mSI mX8_isNew [.ref b, .int l1] K x Q := by
  obtain ⟨s, hs, rfl, rfl⟩ := l24_of h4
  refine sp_X8_isNew h1 h2 h3 (iv1 hs 4 (by decide) (by decide)) ?_
  rw [ic1 hs 4 (by decide) (by decide)]
  rw [nI_clamp (by omega)] at k
  exact k
theorem sr_X8_weeksOf {l1 : Int32} (h1 : kk K b = some (8, 0)) (h2 : gr x b 3 = some t) (h3 : kk K t = some (20, n)) (h4 : l24 l1 n) (k : Q (f_span (ao (gi x t) l1.toNatClampNeg 4) (ao (gi x t) l1.toNatClampNeg 5) &&& f_span (gi x t 4) (gi x t 0 - 1)) x) : mSI mX8_weeksOf [.ref b, .int l1] K x Q := by
  obtain ⟨s, hs, rfl, rfl⟩ := l24_of h4
  refine sp_X8_weeksOf h1 h2 h3 (iv2 hs 4 (by decide) (by decide)) (iv2 hs 5 (by decide) (by decide)) (iv0 4 518 (by decide) (by decide) (by decide)) (iv0 0 518 (by decide) (by decide) (by decide)) ?_
  rw [ic2 hs 4 (by decide) (by decide), ic2 hs 5 (by decide) (by decide)]
  rw [nI_clamp (by omega)] at k
  exact k
end SRX
/-! sums and sets over the first n numbers -/
def sumT (f : Nat → Int32) : Nat → Int32
  | 0 => 0
  | n + 1 => sumT f n + f n
def orT (f : Nat → Bool) : Nat → Int32
  | 0 => 0
  | n + 1 => orT f n ||| (if f n = true then (1 : Int32) <<< (nI n &&& 31) else 0)
theorem sumT_congr {f g : Nat → Int32} : ∀ n, (∀ i, i < n → f i = g i) → sumT f n = sumT g n := by
  intro n
  induction n with
  | zero => intro _; rfl
  | succ n ih =>
    intro h
    simp only [sumT]
    rw [ih (fun i hi => h i (by omega)), h n (by omega)]
theorem orT_congr {f g : Nat → Bool} : ∀ n, (∀ i, i < n → f i = g i) → orT f n = orT g n := by
  intro n
  induction n with
  | zero => intro _; rfl
  | succ n ih =>
    intro h
    simp only [orT]
    rw [ih (fun i hi => h i (by omega)), h n (by omega)]

theorem ix1 (s : Nat) {v : Int32} (k : Nat) (hk : v = nI k) : ((62 + (12 * nI s)) + v) = nI (62 + 12 * s + k) := by
  rw [hk, show (62 : Int32) = nI 62 by decide, show (12 : Int32) = nI 12 by decide, pk_mul, nI_add, nI_add]
theorem ix2 (s : Nat) {v : Int32} (k : Nat) (hk : v = nI k) : ((350 + (7 * nI s)) + v) = nI (350 + 7 * s + k) := by
  rw [hk, show (350 : Int32) = nI 350 by decide, show (7 : Int32) = nI 7 by decide, pk_mul, nI_add, nI_add]
theorem ic1 {s : Nat} (hs : s < 24) {v : Int32} (k : Nat) (hk : v = nI k) (h12 : k < 12) : (((62 + (12 * nI s)) + v) : Int32).toNatClampNeg = 62 + 12 * s + k := by rw [ix1 s k hk, nI_clamp (by omega)]
theorem ic2 {s : Nat} (hs : s < 24) {v : Int32} (k : Nat) (hk : v = nI k) (h12 : k < 7) : (((350 + (7 * nI s)) + v) : Int32).toNatClampNeg = 350 + 7 * s + k := by rw [ix2 s k hk, nI_clamp (by omega)]
theorem iv1 {s : Nat} (hs : s < 24) {v : Int32} (k : Nat) (hk : v = nI k) (h12 : k < 12) : vp_in (((62 + (12 * nI s)) + v) : Int32) 518 := by rw [ix1 s k hk]; exact vp_in_nI (by omega) (by decide)
theorem iv2 {s : Nat} (hs : s < 24) {v : Int32} (k : Nat) (hk : v = nI k) (h12 : k < 7) : vp_in (((350 + (7 * nI s)) + v) : Int32) 518 := by rw [ix2 s k hk]; exact vp_in_nI (by omega) (by decide)
theorem iv0 {v : Int32} (k N : Nat) (hk : v = nI k) (h : k < N) (hN : N < 2 ^ 31) : vp_in v N := by rw [hk]; exact vp_in_nI h hN
/-! the references of the reference itself: t is the row at hand -/
def MRf (x : Cn) (t : Nat) : Prop := gr x 717 1 = some 718 ∧ gr x 717 2 = some 719 ∧ gr x 717 3 = some t ∧ gr x 717 4 = some 720 ∧ gr x 717 15 = some 721 ∧ gr x 717 16 = some 722 ∧ gr x 717 17 = some 723 ∧ gr x 717 20 = some 724 ∧ gr x 717 21 = some 725

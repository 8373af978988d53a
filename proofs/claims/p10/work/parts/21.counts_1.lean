theorem one_and {H L P Q : Nat} (hL : L < 256) (hQ : Q < 256) : (256 * H + L) &&& (256 * P + Q) = 256 * (H &&& P) + (L &&& Q) := by
  have := land_split 8 (a := H) (b := L) (c := P) (d := Q) (by omega) (by omega)
  rwa [show (2 : Nat) ^ 8 = 256 by decide] at this
theorem s16 {a b : Nat} (ha : a < 256) (hb : b < 256) : ((256 * a + b) / 2 &&& 21845) ≤ 256 * a + b ∧ st1 (256 * a + b) = 256 * by1 a + by1 b ∧ st2 (256 * by1 a + by1 b) = 256 * by2 (by1 a) + by2 (by1 b) ∧ st3 (256 * by2 (by1 a) + by2 (by1 b)) = 256 * npc 8 a + npc 8 b := by
  obtain ⟨a1, a2, a3, a4, a5, a6⟩ := by_ok a ha
  obtain ⟨b1, b2, b3, b4, b5, b6⟩ := by_ok b hb
  have e1 : (256 * a + b) / 2 &&& 21845 = 256 * (a / 2 &&& 85) + (b / 2 &&& 85) := by
    have e : (256 * a + b) / 2 = 256 * (a / 2) + (128 * (a % 2) + b / 2) := by omega
    rw [e, show (21845 : Nat) = 256 * 85 + 85 by decide, one_and (by omega) (by decide), hi_and7 (by omega) _ (by decide)]
  refine ⟨by rw [e1]; omega, ?_, ?_, ?_⟩
  · unfold st1
    rw [e1]
    unfold by1
    omega
  · have h1 : by1 a < 256 := by omega
    have h2 : by1 b < 256 := by omega
    have e : (256 * by1 a + by1 b) / 4 = 256 * (by1 a / 4) + (64 * (by1 a % 4) + by1 b / 4) := by omega
    unfold st2
    rw [e, show (13107 : Nat) = 256 * 51 + 51 by decide, one_and h2 (by decide), one_and (by omega) (by decide), hi_and6 (by omega) _ (by decide)]
    unfold by2
    omega
  · have e : (256 * by2 (by1 a) + by2 (by1 b)) + (256 * by2 (by1 a) + by2 (by1 b)) / 16 = 256 * (by2 (by1 a) + by2 (by1 a) / 16) + (16 * (by2 (by1 a) % 16) + (by2 (by1 b) + by2 (by1 b) / 16)) := by omega
    unfold st3
    rw [e, show (3855 : Nat) = 256 * 15 + 15 by decide, one_and (by omega) (by decide)]
    have e2 : (16 * (by2 (by1 a) % 16) + (by2 (by1 b) + by2 (by1 b) / 16)) &&& 15 = (by2 (by1 b) + by2 (by1 b) / 16) &&& 15 := by
      rw [and15, and15]
      omega
    rw [e2, ← a6, ← b6]
    rfl

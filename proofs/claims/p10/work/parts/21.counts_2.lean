theorem stA_ok {n : Nat} (h : n < 65536) : (n / 2 &&& 21845) ≤ n ∧ st1 n ≤ 43690 ∧ st2 (st1 n) ≤ 17476 ∧ st2 (st1 n) % 16 ≤ 4 ∧ ∃ p q, stA n = 256 * p + q ∧ p ≤ 8 ∧ q ≤ 8 ∧ npc 16 n = p + q := by
  obtain ⟨h1, h2, h3, h4⟩ := s16 (a := n / 256) (b := n % 256) (by omega) (by omega)
  obtain ⟨a1, a2, a3, a4, a5, a6⟩ := by_ok (n / 256) (by omega)
  obtain ⟨b1, b2, b3, b4, b5, b6⟩ := by_ok (n % 256) (by omega)
  rw [show 256 * (n / 256) + n % 256 = n by omega] at h1 h2
  refine ⟨h1, by rw [h2]; omega, by rw [h2, h3]; omega, by rw [h2, h3]; omega, npc 8 (n / 256), npc 8 (n % 256), ?_, npc_le _ _, npc_le _ _, ?_⟩
  · unfold stA
    rw [h2, h3, h4]
  · have := npc_split 8 8 n
    rw [show (2 : Nat) ^ 8 = 256 by decide] at this
    rw [show (16 : Nat) = 8 + 8 by decide, this]
    omega
theorem two_and {H L P Q : Nat} (hL : L < 65536) (hQ : Q < 65536) : (65536 * H + L) &&& (65536 * P + Q) = 65536 * (H &&& P) + (L &&& Q) := by
  have := land_split 16 (a := H) (b := L) (c := P) (d := Q) (by omega) (by omega)
  rwa [show (2 : Nat) ^ 16 = 65536 by decide] at this
theorem w_1 {H L : Nat} (hH : H < 65536) (hL : L < 65536) : (65536 * H + L) / 2 &&& 1431655765 = 65536 * (H / 2 &&& 21845) + (L / 2 &&& 21845) := by
  have e : (65536 * H + L) / 2 = 65536 * (H / 2) + (32768 * (H % 2) + L / 2) := by omega
  rw [e, show (1431655765 : Nat) = 65536 * 21845 + 21845 by decide, two_and (by omega) (by decide), hi_and (by omega) _ (by decide)]
theorem w_2 {H L : Nat} (hH : H < 65536) (hL : L < 65536) : ((65536 * H + L) &&& 858993459) + ((65536 * H + L) / 4 &&& 858993459) = 65536 * st2 H + st2 L := by
  have e : (65536 * H + L) / 4 = 65536 * (H / 4) + (16384 * (H % 4) + L / 4) := by omega
  rw [e, show (858993459 : Nat) = 65536 * 13107 + 13107 by decide, two_and hL (by decide), two_and (by omega) (by decide), hi_and4 (by omega) _ (by decide)]
  unfold st2
  omega
theorem w_3 {H L : Nat} (hH : H ≤ 17476) (hL : L ≤ 17476) (h4 : H % 16 ≤ 4) : ((65536 * H + L) + (65536 * H + L) / 16) &&& 252645135 = 65536 * st3 H + st3 L := by
  have e : (65536 * H + L) + (65536 * H + L) / 16 = 65536 * (H + H / 16) + (4096 * (H % 16) + (L + L / 16)) := by omega
  have e2 : (4096 * (H % 16) + (L + L / 16)) < 65536 := by omega
  rw [e, show (252645135 : Nat) = 65536 * 3855 + 3855 by decide, two_and e2 (by decide)]
  have e3 : 4096 * (H % 16) + (L + L / 16) = 4096 * (H % 16 + (L + L / 16) / 4096) + (L + L / 16) % 4096 := by omega
  have e4 : (4096 * (H % 16) + (L + L / 16)) &&& 3855 = (L + L / 16) &&& 3855 := by
    rw [e3, hi_and12 (by omega) _ (by decide)]
    have e5 : L + L / 16 = 4096 * ((L + L / 16) / 4096) + (L + L / 16) % 4096 := by omega
    have e6 : (L + L / 16) &&& 3855 = (L + L / 16) % 4096 &&& 3855 := by
      have := hi_and12 (b := (L + L / 16) / 4096) (l := (L + L / 16) % 4096) (by omega) 3855 (by decide)
      rwa [← e5] at this
    rw [e6]
  rw [e4]
  rfl

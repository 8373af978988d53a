/-! the two counts of bits are one -/
def st1 (n : Nat) : Nat := n - (n / 2 &&& 21845)
def st2 (n : Nat) : Nat := (n &&& 13107) + (n / 4 &&& 13107)
def st3 (n : Nat) : Nat := (n + n / 16) &&& 3855
def stA (n : Nat) : Nat := st3 (st2 (st1 n))
def by1 (n : Nat) : Nat := n - (n / 2 &&& 85)
def by2 (n : Nat) : Nat := (n &&& 51) + (n / 4 &&& 51)
def by3 (n : Nat) : Nat := (n + n / 16) &&& 15
theorem by_ok : ∀ b, b < 256 → (b / 2 &&& 85) ≤ b ∧ by1 b ≤ 170 ∧ by2 (by1 b) ≤ 68 ∧ by2 (by1 b) % 16 ≤ 4 ∧ by2 (by1 b) / 16 ≤ 4 ∧ by3 (by2 (by1 b)) = npc 8 b := by decide +kernel
theorem hi_and {b l : Nat} (hl : l < 32768) (m : Nat) (hm : m < 32768) : (32768 * b + l) &&& m = l &&& m := by
  have := land_split 15 (a := b) (b := l) (c := 0) (d := m) (by omega) (by omega)
  rw [show (2 : Nat) ^ 15 = 32768 by decide] at this
  simpa using this
theorem hi_and4 {b l : Nat} (hl : l < 16384) (m : Nat) (hm : m < 16384) : (16384 * b + l) &&& m = l &&& m := by
  have := land_split 14 (a := b) (b := l) (c := 0) (d := m) (by omega) (by omega)
  rw [show (2 : Nat) ^ 14 = 16384 by decide] at this
  simpa using this
theorem hi_and12 {b l : Nat} (hl : l < 4096) (m : Nat) (hm : m < 4096) : (4096 * b + l) &&& m = l &&& m := by
  have := land_split 12 (a := b) (b := l) (c := 0) (d := m) (by omega) (by omega)
  rw [show (2 : Nat) ^ 12 = 4096 by decide] at this
  simpa using this
theorem hi_and7 {b l : Nat} (hl : l < 128) (m : Nat) (hm : m < 128) : (128 * b + l) &&& m = l &&& m := by
  have := land_split 7 (a := b) (b := l) (c := 0) (d := m) (by omega) (by omega)
  rw [show (2 : Nat) ^ 7 = 128 by decide] at this
  simpa using this
theorem hi_and6 {b l : Nat} (hl : l < 64) (m : Nat) (hm : m < 64) : (64 * b + l) &&& m = l &&& m := by
  have := land_split 6 (a := b) (b := l) (c := 0) (d := m) (by omega) (by omega)
  rw [show (2 : Nat) ^ 6 = 64 by decide] at this
  simpa using this
theorem and15 (n : Nat) : n &&& 15 = n % 16 := Nat.and_two_pow_sub_one_eq_mod n 4
theorem one_and {H L P Q : Nat} (hL : L < 256) (hQ : Q < 256) : (256 * H + L) &&& (256 * P + Q) = 256 * (H &&& P) + (L &&& Q) := by
  have := land_split 8 (a := H) (b := L) (c := P) (d := Q) (by omega) (by omega)
  rwa [show (2 : Nat) ^ 8 = 256 by decide] at this
theorem s16 {a b : Nat} (ha : a < 256) (hb : b < 256) : ((256 * a + b) / 2 &&& 21845) ≤ 256 * a + b ∧ st1 (256 * a + b) = 256 * by1 a + by1 b ∧ st2 (256 * by1 a + by1 b) = 256 * by2 (by1 a) + by2 (by1 b) ∧ st3 (256 * by2 (by1 a) + by2 (by1 b)) = 256 * npc 8 a + npc 8 b := by
  obtain ⟨a1, a2, a3, a4, a5, a6⟩ := by_ok a ha
  obtain ⟨b1, b2, b3, b4, b5, b6⟩ := by_ok b hb
  have e1 : (256 * a + b) / 2 &&& 21845 = 256 * (a / 2 &&& 85) + (b / 2 &&& 85) := by
    have e : (256 * a + b) / 2 = 256 * (a / 2) + (128 * (a % 2) + b / 2) := by omega
    rw [e, show (21845 : Nat) = 256 * 85 + 85 by decide, one_and (by omega) (by decide), hi_and7 (by omega) _ (by decide)]
  refine ⟨by rw [e1]; omega, ?_, ?_, ?_⟩
  · unfold st1
    rw [e1]
    unfold by1
    omega
  · have h1 : by1 a < 256 := by omega
    have h2 : by1 b < 256 := by omega
    have e : (256 * by1 a + by1 b) / 4 = 256 * (by1 a / 4) + (64 * (by1 a % 4) + by1 b / 4) := by omega
    unfold st2
    rw [e, show (13107 : Nat) = 256 * 51 + 51 by decide, one_and h2 (by decide), one_and (by omega) (by decide), hi_and6 (by omega) _ (by decide)]
    unfold by2
    omega
  · have e : (256 * by2 (by1 a) + by2 (by1 b)) + (256 * by2 (by1 a) + by2 (by1 b)) / 16 = 256 * (by2 (by1 a) + by2 (by1 a) / 16) + (16 * (by2 (by1 a) % 16) + (by2 (by1 b) + by2 (by1 b) / 16)) := by omega
    unfold st3
    rw [e, show (3855 : Nat) = 256 * 15 + 15 by decide, one_and (by omega) (by decide)]
    have e2 : (16 * (by2 (by1 a) % 16) + (by2 (by1 b) + by2 (by1 b) / 16)) &&& 15 = (by2 (by1 b) + by2 (by1 b) / 16) &&& 15 := by
      rw [and15, and15]
      omega
    rw [e2, ← a6, ← b6]
    rfl
theorem stA_ok {n : Nat} (h : n < 65536) : (n / 2 &&& 21845) ≤ n ∧ st1 n ≤ 43690 ∧ st2 (st1 n) ≤ 17476 ∧ st2 (st1 n) % 16 ≤ 4 ∧ ∃ p q, stA n = 256 * p + q ∧ p ≤ 8 ∧ q ≤ 8 ∧ npc 16 n = p + q := by
  obtain ⟨h1, h2, h3, h4⟩ := s16 (a := n / 256) (b := n % 256) (by omega) (by omega)
  obtain ⟨a1, a2, a3, a4, a5, a6⟩ := by_ok (n / 256) (by omega)
  obtain ⟨b1, b2, b3, b4, b5, b6⟩ := by_ok (n % 256) (by omega)
  rw [show 256 * (n / 256) + n % 256 = n by omega] at h1 h2
  refine ⟨h1, by rw [h2]; omega, by rw [h2, h3]; omega, by rw [h2, h3]; omega, npc 8 (n / 256), npc 8 (n % 256), ?_, npc_le _ _, npc_le _ _, ?_⟩
  · unfold stA
    rw [h2, h3, h4]
  · have := npc_split 8 8 n
    rw [show (2 : Nat) ^ 8 = 256 by decide] at this
    rw [show (16 : Nat) = 8 + 8 by decide, this]
    omega
theorem two_and {H L P Q : Nat} (hL : L < 65536) (hQ : Q < 65536) : (65536 * H + L) &&& (65536 * P + Q) = 65536 * (H &&& P) + (L &&& Q) := by
  have := land_split 16 (a := H) (b := L) (c := P) (d := Q) (by omega) (by omega)
  rwa [show (2 : Nat) ^ 16 = 65536 by decide] at this
theorem w_1 {H L : Nat} (hH : H < 65536) (hL : L < 65536) : (65536 * H + L) / 2 &&& 1431655765 = 65536 * (H / 2 &&& 21845) + (L / 2 &&& 21845) := by
  have e : (65536 * H + L) / 2 = 65536 * (H / 2) + (32768 * (H % 2) + L / 2) := by omega
  rw [e, show (1431655765 : Nat) = 65536 * 21845 + 21845 by decide, two_and (by omega) (by decide), hi_and (by omega) _ (by decide)]
theorem w_2 {H L : Nat} (hH : H < 65536) (hL : L < 65536) : ((65536 * H + L) &&& 858993459) + ((65536 * H + L) / 4 &&& 858993459) = 65536 * st2 H + st2 L := by
  have e : (65536 * H + L) / 4 = 65536 * (H / 4) + (16384 * (H % 4) + L / 4) := by omega
  rw [e, show (858993459 : Nat) = 65536 * 13107 + 13107 by decide, two_and hL (by decide), two_and (by omega) (by decide), hi_and4 (by omega) _ (by decide)]
  unfold st2
  omega
theorem w_3 {H L : Nat} (hH : H ≤ 17476) (hL : L ≤ 17476) (h4 : H % 16 ≤ 4) : ((65536 * H + L) + (65536 * H + L) / 16) &&& 252645135 = 65536 * st3 H + st3 L := by
  have e : (65536 * H + L) + (65536 * H + L) / 16 = 65536 * (H + H / 16) + (4096 * (H % 16) + (L + L / 16)) := by omega
  have e2 : (4096 * (H % 16) + (L + L / 16)) < 65536 := by omega
  rw [e, show (252645135 : Nat) = 65536 * 3855 + 3855 by decide, two_and e2 (by decide)]
  have e3 : 4096 * (H % 16) + (L + L / 16) = 4096 * (H % 16 + (L + L / 16) / 4096) + (L + L / 16) % 4096 := by omega
  have e4 : (4096 * (H % 16) + (L + L / 16)) &&& 3855 = (L + L / 16) &&& 3855 := by
    rw [e3, hi_and12 (by omega) _ (by decide)]
    have e5 : L + L / 16 = 4096 * ((L + L / 16) / 4096) + (L + L / 16) % 4096 := by omega
    have e6 : (L + L / 16) &&& 3855 = (L + L / 16) % 4096 &&& 3855 := by
      have := hi_and12 (b := (L + L / 16) / 4096) (l := (L + L / 16) % 4096) (by omega) 3855 (by decide)
      rwa [← e5] at this
    rw [e6]
  rw [e4]
  rfl
theorem f_sh_n {n k : Nat} (hn : n < 2 ^ 32) (hk : k < 32) : f_sh (nI n) (nI k) = nI (n / 2 ^ k) := by
  apply tn_inj
  unfold f_sh
  rw [pk_ushr (nI n) (nI k) k (sh_amt k hk), pk_tn hn, pk_tn (Nat.lt_of_le_of_lt (Nat.div_le_self _ _) hn)]
theorem f_bc_cpt (v : Int32) : f_bc v = nI (cpt v) := by
  obtain ⟨N, hN, rfl⟩ : ∃ N, N < 2 ^ 32 ∧ v = nI N := ⟨_, tn_lt v, (tn_nI v).symm⟩
  obtain ⟨H, L, hH, hL, rfl⟩ : ∃ H L, H < 65536 ∧ L < 65536 ∧ N = 65536 * H + L := ⟨N / 65536, N % 65536, by omega, by omega, by omega⟩
  obtain ⟨h1, h2, h3, h4, p, q, h5, h6, h7, h8⟩ := stA_ok hH
  obtain ⟨l1, l2, l3, l4, u, w, l5, l6, l7, l8⟩ := stA_ok hL
  have c1 : f_b1 (nI (65536 * H + L)) = nI (65536 * st1 H + st1 L) := by
    unfold f_b1
    rw [show (1 : Int32) = nI 1 by decide, f_sh_n hN (by decide), show (1431655765 : Int32) = nI 1431655765 by decide, nI_and (by omega) (by decide), show (2 : Nat) ^ 1 = 2 by decide, w_1 hH hL, pk_sub (by omega)]
    unfold st1
    congr 1
    omega
  have c2 : f_b2 (nI (65536 * st1 H + st1 L)) = nI (65536 * st2 (st1 H) + st2 (st1 L)) := by
    unfold f_b2
    rw [show (2 : Int32) = nI 2 by decide, f_sh_n (by omega) (by decide), show (858993459 : Int32) = nI 858993459 by decide, nI_and (by omega) (by decide), nI_and (by omega) (by decide), nI_add, show (2 : Nat) ^ 2 = 4 by decide, w_2 (by omega) (by omega)]
  have c3 : f_b3 (nI (65536 * st2 (st1 H) + st2 (st1 L))) = nI (65536 * stA H + stA L) := by
    unfold f_b3
    rw [show (4 : Int32) = nI 4 by decide, f_sh_n (by omega) (by decide), show (252645135 : Int32) = nI 252645135 by decide, nI_add, nI_and (by omega) (by decide), show (2 : Nat) ^ 4 = 16 by decide, w_3 h3 l3 h4]
    rfl
  have c4 : f_b4 (nI (65536 * stA H + stA L)) = nI ((65536 * stA H + stA L) + (65536 * stA H + stA L) / 256) := by
    unfold f_b4
    rw [show (8 : Int32) = nI 8 by decide, f_sh_n (by omega) (by decide), nI_add]
  have c5 : f_b5 (nI ((65536 * stA H + stA L) + (65536 * stA H + stA L) / 256)) = nI (((65536 * stA H + stA L) + (65536 * stA H + stA L) / 256) + ((65536 * stA H + stA L) + (65536 * stA H + stA L) / 256) / 65536) := by
    unfold f_b5
    rw [show (16 : Int32) = nI 16 by decide, f_sh_n (by omega) (by decide), nI_add]
  unfold f_bc
  rw [c1, c2, c3, c4, c5, show (63 : Int32) = nI 63 by decide, pk_andN (by omega) 6 (by decide)]
  unfold cpt
  rw [pk_tn hN, show (32 : Nat) = 16 + 16 by decide, npc_split, show (2 : Nat) ^ 16 = 65536 by decide, show (65536 * H + L) % 65536 = L by omega, show (65536 * H + L) / 65536 = H by omega]
  congr 1
  rw [show (2 : Nat) ^ 6 = 64 by decide, h8, l8, h5, l5]
  have x1 : (65536 * (256 * p + q) + (256 * u + w)) / 256 = 65536 * p + 256 * q + u := by omega
  rw [x1]
  have x2 : (65536 * (256 * p + q) + (256 * u + w) + (65536 * p + 256 * q + u)) / 65536 = 256 * p + q + p := by omega
  rw [x2]
  omega
section SP3
variable {K : Sh} {x : Cn} {Q : Int32 → Cn → Prop}
theorem lp_X8_bits {l0 : Int32} : ∀ (n : Nat) (l1 l2 : Int32), cpt l2 = n → Q (l1 + nI n) x → GI mX8_bits 4 [some (.int l0), some (.int l1), some (.int l2)] [] K x Q := by
  intro n
  induction n with
  | zero =>
    intro l1 l2 h k
    refine v_X8_bits_4 ⟨fun q => ?_, fun q => ?_⟩
    · rw [nI_0, Int32.add_zero] at k
      exact k
    · have := cpt_clear l2 q
      omega
  | succ n ih =>
    intro l1 l2 h k
    refine v_X8_bits_4 ⟨fun q => ?_, fun q => ?_⟩
    · rw [q, cpt_0] at h
      omega
    · have := cpt_clear l2 q
      refine ih _ _ (by omega) ?_
      rw [show l1 + 1 + nI n = l1 + nI (n + 1) by rw [nI_succ, Int32.add_assoc, Int32.add_comm 1]]
      exact k
theorem sp_X8_bits {a : Int32} (k : Q (nI (cpt a)) x) : mSI mX8_bits [.int a] K x Q := v_X8_bits_0 (lp_X8_bits (cpt a) _ _ rfl (by rw [Int32.zero_add]; exact k))
end SP3

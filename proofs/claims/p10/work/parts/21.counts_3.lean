theorem f_sh_n {n k : Nat} (hn : n < 2 ^ 32) (hk : k < 32) : f_sh (nI n) (nI k) = nI (n / 2 ^ k) := by
  apply tn_inj
  unfold f_sh
  rw [pk_ushr (nI n) (nI k) k (sh_amt k hk), pk_tn hn, pk_tn (Nat.lt_of_le_of_lt (Nat.div_le_self _ _) hn)]
theorem bc1 {H L : Nat} (hH : H < 65536) (hL : L < 65536) (h1 : (H / 2 &&& 21845) ≤ H) (l1 : (L / 2 &&& 21845) ≤ L) : f_b1 (nI (65536 * H + L)) = nI (65536 * st1 H + st1 L) := by
  have hN : 65536 * H + L < 2 ^ 32 := by omega
  have hD : (65536 * H + L) / 2 < 2 ^ 32 := Nat.lt_of_le_of_lt (Nat.div_le_self _ _) hN
  unfold f_b1
  rw [show (1 : Int32) = nI 1 by decide, f_sh_n hN (by decide), show (1431655765 : Int32) = nI 1431655765 by decide, show (2 : Nat) ^ 1 = 2 by decide, nI_and hD (by decide), w_1 hH hL]
  unfold st1
  rw [pk_sub (by omega)]
  congr 1
  omega
theorem bc2 {H L : Nat} (hH : H ≤ 43690) (hL : L ≤ 43690) : f_b2 (nI (65536 * H + L)) = nI (65536 * st2 H + st2 L) := by
  have hN : 65536 * H + L < 2 ^ 32 := by omega
  have hD : (65536 * H + L) / 4 < 2 ^ 32 := Nat.lt_of_le_of_lt (Nat.div_le_self _ _) hN
  unfold f_b2
  rw [show (2 : Int32) = nI 2 by decide, f_sh_n hN (by decide), show (858993459 : Int32) = nI 858993459 by decide, show (2 : Nat) ^ 2 = 4 by decide, nI_and hN (by decide), nI_and hD (by decide), nI_add, w_2 (by omega) (by omega)]
theorem bc3 {H L : Nat} (hH : H ≤ 17476) (hL : L ≤ 17476) (h4 : H % 16 ≤ 4) : f_b3 (nI (65536 * H + L)) = nI (65536 * st3 H + st3 L) := by
  have hN : 65536 * H + L < 2 ^ 32 := by omega
  have hD : 65536 * H + L + (65536 * H + L) / 16 < 2 ^ 32 := by omega
  unfold f_b3
  rw [show (4 : Int32) = nI 4 by decide, f_sh_n hN (by decide), show (252645135 : Int32) = nI 252645135 by decide, nI_add, show (2 : Nat) ^ 4 = 16 by decide, nI_and hD (by decide), w_3 hH hL h4]
theorem bc4 {A : Nat} (h : A < 2 ^ 32) : f_b4 (nI A) = nI (A + A / 256) := by
  unfold f_b4
  rw [show (8 : Int32) = nI 8 by decide, f_sh_n h (by decide), nI_add]

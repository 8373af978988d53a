theorem w_3 {H L : Nat} (hH : H ≤ 17476) (hL : L ≤ 17476) (h4 : H % 16 ≤ 4) : ((65536 * H + L) + (65536 * H + L) / 16) &&& 252645135 = 65536 * st3 H + st3 L := by
  have e : (65536 * H + L) + (65536 * H + L) / 16 = 65536 * (H + H / 16) + (4096 * (H % 16) + (L + L / 16)) := by omega
  have e2 : (4096 * (H % 16) + (L + L / 16)) < 65536 := by omega
  rw [e, show (252645135 : Nat) = 65536 * 3855 + 3855 by decide, two_and e2 (by decide)]
  have e3 : 4096 * (H % 16) + (L + L / 16) = 4096 * (H % 16 + (L + L / 16) / 4096) + (L + L / 16) % 4096 := by omega
  have e4 : (4096 * (H % 16) + (L + L / 16)) &&& 3855 = (L + L / 16) &&& 3855 := by
    rw [e3, hi_and12 (by omega) _ (by decide)]
    have e5 : L + L / 16 = 4096 * ((L + L / 16) / 4096) + (L + L / 16) % 4096 := by omega
    have e6 : (L + L / 16) &&& 3855 = (L + L / 16) % 4096 &&& 3855 := by
      have := hi_and12 (b := (L + L / 16) / 4096) (l := (L + L / 16) % 4096) (by omega) 3855 (by decide)
      rwa [← e5] at this
    rw [e6]
  rw [e4]
  rfl
theorem f_sh_n {n k : Nat} (hn : n < 2 ^ 32) (hk : k < 32) : f_sh (nI n) (nI k) = nI (n / 2 ^ k) := by
  apply tn_inj
  unfold f_sh
  rw [pk_ushr (nI n) (nI k) k (sh_amt k hk), pk_tn hn, pk_tn (Nat.lt_of_le_of_lt (Nat.div_le_self _ _) hn)]
theorem f_bc_cpt (v : Int32) : f_bc v = nI (cpt v) := by
  obtain ⟨N, hN, rfl⟩ : ∃ N, N < 2 ^ 32 ∧ v = nI N := ⟨_, tn_lt v, (tn_nI v).symm⟩
  obtain ⟨H, L, hH, hL, rfl⟩ : ∃ H L, H < 65536 ∧ L < 65536 ∧ N = 65536 * H + L := ⟨N / 65536, N % 65536, by omega, by omega, by omega⟩
  obtain ⟨h1, h2, h3, h4, p, q, h5, h6, h7, h8⟩ := stA_ok hH
  obtain ⟨l1, l2, l3, l4, u, w, l5, l6, l7, l8⟩ := stA_ok hL
  have c1 : f_b1 (nI (65536 * H + L)) = nI (65536 * st1 H + st1 L) := by
    unfold f_b1
    rw [show (1 : Int32) = nI 1 by decide, f_sh_n hN (by decide), show (1431655765 : Int32) = nI 1431655765 by decide, nI_and (by omega) (by decide), show (2 : Nat) ^ 1 = 2 by decide, w_1 hH hL, pk_sub (by omega)]
    unfold st1
    congr 1
    omega
  have c2 : f_b2 (nI (65536 * st1 H + st1 L)) = nI (65536 * st2 (st1 H) + st2 (st1 L)) := by
    unfold f_b2
    rw [show (2 : Int32) = nI 2 by decide, f_sh_n (by omega) (by decide), show (858993459 : Int32) = nI 858993459 by decide, nI_and (by omega) (by decide), nI_and (by omega) (by decide), nI_add, show (2 : Nat) ^ 2 = 4 by decide, w_2 (by omega) (by omega)]
  have c3 : f_b3 (nI (65536 * st2 (st1 H) + st2 (st1 L))) = nI (65536 * stA H + stA L) := by
    unfold f_b3
    rw [show (4 : Int32) = nI 4 by decide, f_sh_n (by omega) (by decide), show (252645135 : Int32) = nI 252645135 by decide, nI_add, nI_and (by omega) (by decide), show (2 : Nat) ^ 4 = 16 by decide, w_3 h3 l3 h4]
    rfl
  have c4 : f_b4 (nI (65536 * stA H + stA L)) = nI ((65536 * stA H + stA L) + (65536 * stA H + stA L) / 256) := by
    unfold f_b4
    rw [show (8 : Int32) = nI 8 by decide, f_sh_n (by omega) (by decide), nI_add]
  have c5 : f_b5 (nI ((65536 * stA H + stA L) + (65536 * stA H + stA L) / 256)) = nI (((65536 * stA H + stA L) + (65536 * stA H + stA L) / 256) + ((65536 * stA H + stA L) + (65536 * stA H + stA L) / 256) / 65536) := by
    unfold f_b5
    rw [show (16 : Int32) = nI 16 by decide, f_sh_n (by omega) (by decide), nI_add]
  unfold f_bc
  rw [c1, c2, c3, c4, c5, show (63 : Int32) = nI 63 by decide, pk_andN (by omega) 6 (by decide)]
  unfold cpt
  rw [pk_tn hN, show (32 : Nat) = 16 + 16 by decide, npc_split, show (2 : Nat) ^ 16 = 65536 by decide, show (65536 * H + L) % 65536 = L by omega, show (65536 * H + L) / 65536 = H by omega]
  congr 1
  rw [show (2 : Nat) ^ 6 = 64 by decide, h8, l8, h5, l5]
  have x1 : (65536 * (256 * p + q) + (256 * u + w)) / 256 = 65536 * p + 256 * q + u := by omega
  rw [x1]
  have x2 : (65536 * (256 * p + q) + (256 * u + w) + (65536 * p + 256 * q + u)) / 65536 = 256 * p + q + p := by omega
  rw [x2]
  omega
section SP3
variable {K : Sh} {x : Cn} {Q : Int32 → Cn → Prop}
end SP3

theorem bc5 {A : Nat} (h : A < 2 ^ 32) : f_b5 (nI A) = nI (A + A / 65536) := by
  unfold f_b5
  rw [show (16 : Int32) = nI 16 by decide, f_sh_n h (by decide), nI_add]
theorem bc_fin {p q u w A : Nat} (hA : A = 65536 * (256 * p + q) + (256 * u + w)) (hp : p ≤ 8) (hq : q ≤ 8) (hu : u ≤ 8) (hw : w ≤ 8) : A < 2 ^ 32 ∧ A + A / 256 < 2 ^ 32 ∧ A + A / 256 + (A + A / 256) / 65536 < 2 ^ 32 ∧ (A + A / 256 + (A + A / 256) / 65536) % 64 = u + w + (p + q) := by
  have x1 : A / 256 = 65536 * p + 256 * q + u := by omega
  rw [x1]
  have x2 : (A + (65536 * p + 256 * q + u)) / 65536 = 256 * p + q + p := by omega
  rw [x2]
  clear x1 x2
  refine ⟨?_, ?_, ?_, ?_⟩ <;> omega
theorem hl_mod {H L : Nat} (hL : L < 65536) : (65536 * H + L) % 65536 = L := by omega
theorem hl_div {H L : Nat} (hL : L < 65536) : (65536 * H + L) / 65536 = H := by omega
theorem f_bc_cpt (v : Int32) : f_bc v = nI (cpt v) := by
  obtain ⟨N, hN, rfl⟩ : ∃ N, N < 2 ^ 32 ∧ v = nI N := ⟨_, tn_lt v, (tn_nI v).symm⟩
  obtain ⟨H, L, hH, hL, rfl⟩ : ∃ H L, H < 65536 ∧ L < 65536 ∧ N = 65536 * H + L := ⟨N / 65536, N % 65536, by omega, by omega, by omega⟩
  obtain ⟨h1, h2, h3, h4, p, q, h5, h6, h7, h8⟩ := stA_ok hH
  obtain ⟨l1, l2, l3, l4, u, w, l5, l6, l7, l8⟩ := stA_ok hL
  obtain ⟨f1, f2, f3, f4⟩ := bc_fin (A := 65536 * stA H + stA L) (by rw [h5, l5]) h6 h7 l6 l7
  have c3 : f_b3 (nI (65536 * st2 (st1 H) + st2 (st1 L))) = nI (65536 * stA H + stA L) := bc3 h3 l3 h4
  unfold f_bc
  rw [bc1 hH hL h1 l1, bc2 h2 l2, c3, bc4 f1, bc5 f2, show (63 : Int32) = nI 63 by decide, pk_andN f3 6 (by decide)]
  unfold cpt
  rw [pk_tn hN, show (32 : Nat) = 16 + 16 by decide, npc_split, show (2 : Nat) ^ 16 = 65536 by decide, hl_mod hL, hl_div hL, h8, l8, show (2 : Nat) ^ 6 = 64 by decide, f4]
section SP3
variable {K : Sh} {x : Cn} {Q : Int32 → Cn → Prop}
theorem lp_X8_bits {l0 : Int32} : ∀ (n : Nat) (l1 l2 : Int32), cpt l2 = n → Q (l1 + nI n) x → GI mX8_bits 4 [some (.int l0), some (.int l1), some (.int l2)] [] K x Q := by
  intro n
  induction n with
  | zero =>
    intro l1 l2 h k
    refine v_X8_bits_4 ⟨fun q => ?_, fun q => ?_⟩
    · rw [nI_0, Int32.add_zero] at k
      exact k
    · have := cpt_clear l2 q
      omega
  | succ n ih =>
    intro l1 l2 h k
    refine v_X8_bits_4 ⟨fun q => ?_, fun q => ?_⟩
    · rw [q, cpt_0] at h
      omega
    · have := cpt_clear l2 q
      refine ih _ _ (by omega) ?_
      rw [show l1 + 1 + nI n = l1 + nI (n + 1) by rw [nI_succ, Int32.add_assoc, Int32.add_comm 1]]
      exact k
end SP3

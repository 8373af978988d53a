section SP3
variable {K : Sh} {x : Cn} {Q : Int32 → Cn → Prop}
theorem lp_X8_bits {l0 : Int32} : ∀ (n : Nat) (l1 l2 : Int32), cpt l2 = n → Q (l1 + nI n) x → GI mX8_bits 4 [some (.int l0), some (.int l1), some (.int l2)] [] K x Q := by
  intro n
  induction n with
  | zero =>
    intro l1 l2 h k
    refine v_X8_bits_4 ⟨fun q => ?_, fun q => ?_⟩
    · rw [nI_0, Int32.add_zero] at k
      exact k
    · have := cpt_clear l2 q
      omega
  | succ n ih =>
    intro l1 l2 h k
    refine v_X8_bits_4 ⟨fun q => ?_, fun q => ?_⟩
    · rw [q, cpt_0] at h
      omega
    · have := cpt_clear l2 q
      refine ih _ _ (by omega) ?_
      rw [show l1 + 1 + nI n = l1 + nI (n + 1) by rw [nI_succ, Int32.add_assoc, Int32.add_comm 1]]
      exact k
theorem sp_X8_bits {a : Int32} (k : Q (nI (cpt a)) x) : mSI mX8_bits [.int a] K x Q := v_X8_bits_0 (lp_X8_bits (cpt a) _ _ rfl (by rw [Int32.zero_add]; exact k))
end SP3


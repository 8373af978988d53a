section SP3
variable {K : Sh} {x : Cn} {Q : Int32 → Cn → Prop}
theorem sp_X8_bits {a : Int32} (k : Q (nI (cpt a)) x) : mSI mX8_bits [.int a] K x Q := v_X8_bits_0 (lp_X8_bits (cpt a) _ _ rfl (by rw [Int32.zero_add]; exact k))
end SP3


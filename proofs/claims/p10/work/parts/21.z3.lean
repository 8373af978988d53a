abbrev f_kw (b g : Int32) : Prop := 0 < b ∧ 4 * b ≤ 5 * g
abbrev f_safe (x : Cn) (b : Nat) : Prop := f_kw (nI (cpt (f_held x b))) (nI (cpt (gi x b 8 ||| gi x b 10)))
abbrev f_lost (x : Cn) (b : Nat) : Prop := ¬ f_kw (nI (cpt (f_held x b))) (nI (cpt (gi x b 8 ||| gi x b 10)) + nI (cpt (f_open x b)))
def f_wtc (a b : Int32) : Int32 := if b ≤ a then 0 else f_sb a (b - 1)
section SP3
variable {K : Sh} {x : Cn} {Q : Int32 → Cn → Prop} {b t n : Nat}
theorem sp_bc {a : Int32} (k : Q (nI (cpt a)) x) : mSI mJ6_bitCount_0f7a4 [.int a] K x Q := sp_J6_bitCount_0f7a4 (by rw [f_bc_cpt]; exact k)
end SP3

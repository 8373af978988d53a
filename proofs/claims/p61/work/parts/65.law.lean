/-! the law's body: its script lies at the abstract address mSB + 950 -/
def mLw (nm : String) : MR := (⟨RL, nm, "([I)Z"⟩, cL_law, 4, some .boolean, 15, 318)
def SCR (B : BT) (ad : Nat → Nat) (Ln : Nat) (xs : Nat → Int32) : Prop := match B with
  | (_, _, _, _, s, _, _, _, _, _, _, _, A) => va_X (ad (mSB + 950)) Ln xs s s.heap ∧ ad (mSB + 950) < s.heap.size ∧ ¬ A (ad (mSB + 950))
def Lx (i : Nat) : List (Option Value) := [some (.ref (mSB + 950)), some (.ref 0), some (.ref 717), some (.int (nI i))]
section LAW
variable {B : BT} {c : Nat × Nat} {ad : Nat → Nat} {M : MR} {P : MP} {pc : Nat} {L : List (Option Value)} {st : List Value} {h : HP} {Ln : Nat} {xs : Nat → Int32}
theorem g_scrld {i : Nat} (X : mCx B c ad M P) (S : SCR B ad Ln xs) (d : decode M.2.1 pc = .ok (.iaload, 1)) (hi : i < Ln) (hL : Ln < 2 ^ 31) (k : mG B c ad M.2.2.1 (pc + 1) L (.int (xs i) :: st) h) : mG B c ad M.2.2.1 pc L (.int (nI i) :: .ref (mSB + 950) :: st) h := by
  obtain ⟨p, l, e0, R, s, m, args, below, meth, cd, Q, D, A⟩ := B
  intro H locs ls h1 h2 h3
  obtain ⟨x1, x2, -⟩ := X
  have := k H locs ls h1 h2 h3
  rw [← nI_clamp (n := i) (by omega)] at this
  exact va_sld x1 x2 S.1 S.2.1 S.2.2 h2 (vp_in_nI hi hL) d this
theorem g_scrlen (X : mCx B c ad M P) (S : SCR B ad Ln xs) (d : decode M.2.1 pc = .ok (.arraylength, 1)) (k : mG B c ad M.2.2.1 (pc + 1) L (.int (nI Ln) :: st) h) : mG B c ad M.2.2.1 pc L (.ref (mSB + 950) :: st) h := by
  obtain ⟨p, l, e0, R, s, m, args, below, meth, cd, Q, D, A⟩ := B
  intro H locs ls h1 h2 h3
  obtain ⟨x1, x2, -⟩ := X
  exact va_slen x1 x2 S.1 S.2.1 S.2.2 h2 d (k H locs ls h1 h2 h3)
theorem g_arg {nm : String} {i j : Nat} {jj : Int} (X : mCx B c ad (mLw nm) FF) (S : SCR B ad Ln xs) (d0 : decode cL_law pc = .ok (.aload_n 0, 1)) (d1 : decode cL_law (pc + 1) = .ok (.iload_n 3, 1)) (d2 : decode cL_law (pc + 1 + 1) = .ok (.iconst jj, 1)) (d3 : decode cL_law (pc + 1 + 1 + 1) = .ok (.iadd, 1)) (d4 : decode cL_law (pc + 1 + 1 + 1 + 1) = .ok (.iaload, 1)) (hj : Int32.ofInt jj = nI j) (hij : i + j < Ln) (hL : Ln < 2 ^ 31) (k : mG B c ad 4 (pc + 5) (Lx i) (.int (xs (i + j)) :: st) h) : mG B c ad 4 pc (Lx i) st h := by
  refine g_aload_n (M := mLw nm) X d0 rfl ?_
  refine g_iload_n (M := mLw nm) X d1 rfl ?_
  refine g_iconst (M := mLw nm) X d2 hj ?_
  refine g_iadd (M := mLw nm) X d3 ?_
  rw [nI_add]
  exact g_scrld (M := mLw nm) X S d4 hij hL k
end LAW
theorem and63 (v : Int32) : ∃ k, k < 64 ∧ v &&& 63 = nI k := by
  refine ⟨(v.toBitVec &&& 63#32).toNat, ?_, ?_⟩
  · rw [BitVec.toNat_and]
    exact Nat.lt_of_le_of_lt Nat.and_le_right (by decide)
  · apply Int32.toBitVec_inj.mp
    show v.toBitVec &&& 63#32 = BitVec.ofNat 32 (v.toBitVec &&& 63#32).toNat
    rw [BitVec.ofNat_toNat, BitVec.setWidth_eq]
theorem law_cmp {n i : Nat} (hn : n < 100000) (hi : i < 100000) (h : ¬ nI n - 6 < nI i) : i + 6 ≤ n := by
  rcases Nat.lt_or_ge n 6 with q | q
  · exfalso
    apply h
    have h0 : (nI n - 6) < 0 := by
      rcases (show n = 0 ∨ n = 1 ∨ n = 2 ∨ n = 3 ∨ n = 4 ∨ n = 5 by omega) with rfl | rfl | rfl | rfl | rfl | rfl <;> decide
    exact Int32.lt_of_lt_of_le h0 (nI_pos' (by omega))
  · obtain ⟨m, rfl⟩ := Nat.exists_eq_add_of_le q
    have e : nI (6 + m) - 6 = nI m := by
      rw [← nI_add, show (6 : Int32) = nI 6 by decide, Int32.add_comm, Int32.add_sub_cancel]
    rw [e] at h
    rcases Nat.lt_or_ge m i with r | r
    · exact absurd (nI_lt r (by omega)) h
    · omega

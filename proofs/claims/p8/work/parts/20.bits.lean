/-! bits of ints -/
def tb (v : Int32) (i : Nat) : Bool := v.toBitVec.getLsbD i
theorem tb_ext {a b : Int32} (h : ∀ i, i < 32 → tb a i = tb b i) : a = b := Int32.toBitVec.inj (BitVec.eq_of_getLsbD_eq (fun i hi => h i hi))
theorem tb_and (a b : Int32) (i : Nat) : tb (a &&& b) i = (tb a i && tb b i) := by simp [tb]
theorem tb_or (a b : Int32) (i : Nat) : tb (a ||| b) i = (tb a i || tb b i) := by simp [tb]
theorem tb_xor (a b : Int32) (i : Nat) : tb (a ^^^ b) i = (tb a i ^^ tb b i) := by simp [tb]
theorem tb_m1 {i : Nat} (h : i < 32) : tb (-1) i = true := by
  have : ∀ i, i < 32 → tb (-1) i = true := by decide +kernel
  exact this i h
theorem tb_not (a : Int32) {i : Nat} (h : i < 32) : tb (a ^^^ (-1)) i = !tb a i := by rw [tb_xor, tb_m1 h]; simp
theorem tb_0 (i : Nat) : tb 0 i = false := by simp [tb]
theorem tb_ge (v : Int32) {i : Nat} (h : 32 ≤ i) : tb v i = false := BitVec.getLsbD_of_ge _ _ h
theorem tn_nI (v : Int32) : nI v.toBitVec.toNat = v := Int32.toBitVec.inj (by
  apply BitVec.eq_of_toNat_eq
  exact Nat.mod_eq_of_lt v.toBitVec.isLt)
theorem tn_lt (v : Int32) : v.toBitVec.toNat < 2 ^ 32 := v.toBitVec.isLt
theorem tb_tn (v : Int32) (i : Nat) : tb v i = v.toBitVec.toNat.testBit i := rfl
theorem tb_nI {n : Nat} (h : n < 2 ^ 32) (i : Nat) : tb (nI n) i = n.testBit i := by rw [tb_tn, pk_tn h]
theorem tn_inj {a b : Int32} (h : a.toBitVec.toNat = b.toBitVec.toNat) : a = b := Int32.toBitVec.inj (BitVec.eq_of_toNat_eq h)
theorem and_one (v : Int32) : v &&& 1 = nI (v.toBitVec.toNat % 2) := pk_and v 1 (by decide)
theorem sh_amt : ∀ i, i < 32 → (((nI i).toUInt32 &&& Int32.toUInt32 31).toBitVec % 32).toNat = i := by decide +kernel
theorem sh_amt2 : ∀ i, i < 32 → ((nI i &&& 31).toBitVec.smod 32).toNat = i := by decide +kernel
theorem f_bit_tb (v : Int32) {i : Nat} (h : i < 32) : f_bit v (nI i) ↔ tb v i = true := by
  have h1 := pk_ushr v (nI i) i (sh_amt i h)
  show ¬ _ = 0 ↔ _
  rw [and_one, h1, tb_tn, Nat.testBit_eq_decide_div_mod_eq, decide_eq_true_iff]
  have h2 : v.toBitVec.toNat / 2 ^ i % 2 < 2 := Nat.mod_lt _ (by decide)
  rcases Nat.lt_or_ge 0 (v.toBitVec.toNat / 2 ^ i % 2) with q | q
  · have e : v.toBitVec.toNat / 2 ^ i % 2 = 1 := by omega
    rw [e]
    exact ⟨fun _ => rfl, fun _ => by decide⟩
  · have e : v.toBitVec.toNat / 2 ^ i % 2 = 0 := by omega
    rw [e]
    exact ⟨fun z => absurd (by decide) z, fun z => by omega⟩
theorem f_has_tb (v : Int32) {i : Nat} (h : i < 32) : f_has v (nI i) ↔ tb v i = true := by
  show _ = 1 ↔ _
  rw [and_one]
  have e : (v >>> (nI i &&& 31)).toBitVec.toNat % 2 = if tb v i then 1 else 0 := by
    have h1 : tb (v >>> (nI i &&& 31)) 0 = tb v i := by
      unfold tb
      rw [Int32.toBitVec_shiftRight]
      show BitVec.getLsbD (v.toBitVec.sshiftRight (((nI i &&& 31).toBitVec.smod 32).toNat)) 0 = _
      rw [sh_amt2 i h, BitVec.getLsbD_sshiftRight]
      simp [h]
    rw [tb_tn, Nat.testBit_eq_decide_div_mod_eq] at h1
    simp only [Nat.pow_zero, Nat.div_one] at h1
    by_cases q : tb v i = true
    · rw [if_pos q]
      rw [q] at h1
      exact of_decide_eq_true h1
    · rw [if_neg q]
      have q' : tb v i = false := by simpa using q
      rw [q'] at h1
      have := of_decide_eq_false h1
      omega
  rw [e]
  by_cases q : tb v i = true
  · rw [if_pos q]
    exact ⟨fun _ => q, fun _ => by decide⟩
  · rw [if_neg q]
    exact ⟨fun z => absurd z (by decide), fun z => absurd z q⟩
theorem tb_one : ∀ s, s < 32 → ∀ i, i < 32 → tb ((1 : Int32) <<< (nI s &&& 31)) i = decide (i = s) := by decide +kernel
theorem tb_sb0 : ∀ a, a < 30 → ∀ b, b < 30 → a ≤ b → ∀ i, i < 32 → tb (f_sb (nI a) (nI b)) i = decide (a ≤ i ∧ i ≤ b) := by decide +kernel
theorem tb_span0 : ∀ a, a < 31 → ∀ b, b < 30 → ∀ i, i < 32 → tb (f_span (nI a) (nI b)) i = decide (a ≤ i ∧ i ≤ b) := by decide +kernel
theorem tb_bf0 : ∀ a, a < 31 → ∀ i, i < 32 → tb (f_bf (nI a)) i = decide (a ≤ i) := by decide +kernel
/-! counts of bits -/
def npc : Nat → Nat → Nat
  | 0, _ => 0
  | k + 1, n => n % 2 + npc k (n / 2)
def cpt (v : Int32) : Nat := npc 32 v.toBitVec.toNat
theorem npc_le : ∀ k n, npc k n ≤ k := by
  intro k
  induction k with
  | zero => intro n; exact Nat.le_refl 0
  | succ k ih =>
    intro n
    have := ih (n / 2)
    have := Nat.mod_lt n (y := 2) (by decide)
    simp only [npc]
    omega
theorem npc_split : ∀ j k n, npc (j + k) n = npc j (n % 2 ^ j) + npc k (n / 2 ^ j) := by
  intro j
  induction j with
  | zero => intro k n; simp [npc]
  | succ j ih =>
    intro k n
    rw [show j + 1 + k = (j + k) + 1 by omega]
    simp only [npc]
    rw [ih]
    have e1 : n % 2 ^ (j + 1) % 2 = n % 2 := Nat.mod_mod_of_dvd n ⟨2 ^ j, by rw [Nat.pow_succ, Nat.mul_comm]⟩
    have e2 : n % 2 ^ (j + 1) / 2 = n / 2 % 2 ^ j := by
      rw [Nat.pow_succ, Nat.mul_comm, Nat.mod_mul_right_div_self]
    have e3 : n / 2 ^ (j + 1) = n / 2 / 2 ^ j := by rw [Nat.pow_succ, Nat.mul_comm, Nat.div_div_eq_div_mul]
    rw [e1, e2, e3]
    omega
theorem land_split (i : Nat) {a b c d : Nat} (hb : b < 2 ^ i) (hd : d < 2 ^ i) : (2 ^ i * a + b) &&& (2 ^ i * c + d) = 2 ^ i * (a &&& c) + (b &&& d) := by
  have hbd : (b &&& d) < 2 ^ i := Nat.lt_of_le_of_lt Nat.and_le_left hb
  apply Nat.eq_of_testBit_eq
  intro j
  rw [Nat.testBit_and, Nat.testBit_two_pow_mul_add a hb, Nat.testBit_two_pow_mul_add c hd, Nat.testBit_two_pow_mul_add _ hbd]
  by_cases h : j < i
  · simp [h]
  · simp [h]
theorem nI_and {a b : Nat} (ha : a < 2 ^ 32) (hb : b < 2 ^ 32) : nI a &&& nI b = nI (a &&& b) := by
  apply tb_ext
  intro i _
  rw [tb_and, tb_nI ha, tb_nI hb, tb_nI (Nat.lt_of_le_of_lt Nat.and_le_left ha), Nat.testBit_and]
theorem npc_clear : ∀ k n, 0 < n → n < 2 ^ k → npc k (n &&& (n - 1)) + 1 = npc k n := by
  intro k
  induction k with
  | zero => intro n h1 h2; simp at h2; omega
  | succ k ih =>
    intro n h1 h2
    rcases Nat.mod_two_eq_zero_or_one n with e | e
    · have hm : 0 < n / 2 := by omega
      have e1 : n &&& (n - 1) = 2 * (n / 2 &&& (n / 2 - 1)) := by
        have := land_split 1 (a := n / 2) (b := 0) (c := n / 2 - 1) (d := 1) (by decide) (by decide)
        rw [show (2 : Nat) ^ 1 * (n / 2) + 0 = n by omega, show (2 : Nat) ^ 1 * (n / 2 - 1) + 1 = n - 1 by omega] at this
        rw [this]
        simp
      simp only [npc]
      rw [e1, Nat.mul_mod_right, Nat.mul_div_cancel_left _ (by decide), e]
      have := ih (n / 2) hm (by rw [Nat.pow_succ] at h2; omega)
      omega
    · have e1 : n &&& (n - 1) = 2 * (n / 2) := by
        have := land_split 1 (a := n / 2) (b := 1) (c := n / 2) (d := 0) (by decide) (by decide)
        rw [show (2 : Nat) ^ 1 * (n / 2) + 1 = n by omega, show (2 : Nat) ^ 1 * (n / 2) + 0 = n - 1 by omega] at this
        rw [this]
        simp
      simp only [npc]
      rw [e1, Nat.mul_mod_right, Nat.mul_div_cancel_left _ (by decide), e]
      omega
theorem cpt_clear (v : Int32) (h : ¬ v = 0) : cpt (v &&& (v - 1)) + 1 = cpt v := by
  have h0 : 0 < v.toBitVec.toNat := by
    rcases Nat.eq_zero_or_pos v.toBitVec.toNat with q | q
    · exact absurd (tn_inj (b := 0) (by rw [q]; rfl)) h
    · exact q
  have e : v &&& (v - 1) = nI (v.toBitVec.toNat &&& (v.toBitVec.toNat - 1)) := by
    have e1 : v - 1 = nI (v.toBitVec.toNat - 1) := by
      have := nI_pred (v.toBitVec.toNat - 1)
      rw [show v.toBitVec.toNat - 1 + 1 = v.toBitVec.toNat by omega, tn_nI] at this
      exact this
    have hl := tn_lt v
    rw [← nI_and hl (by omega), ← e1, tn_nI]
  unfold cpt
  rw [e, pk_tn (Nat.lt_of_le_of_lt Nat.and_le_left (tn_lt v))]
  exact npc_clear 32 _ h0 (tn_lt v)
theorem cpt_0 : cpt 0 = 0 := by decide +kernel
theorem npc_0 : ∀ k, npc k 0 = 0 := by
  intro k
  induction k with
  | zero => rfl
  | succ k ih => simp only [npc]; rw [Nat.zero_div, ih]
theorem npc_pos : ∀ k n, 0 < n → n < 2 ^ k → 0 < npc k n := by
  intro k
  induction k with
  | zero => intro n h1 h2; simp at h2; omega
  | succ k ih =>
    intro n h1 h2
    simp only [npc]
    rcases Nat.mod_two_eq_zero_or_one n with e | e
    · have := ih (n / 2) (by omega) (by rw [Nat.pow_succ] at h2; omega)
      omega
    · omega
theorem cpt_le (v : Int32) : cpt v ≤ 32 := npc_le 32 _

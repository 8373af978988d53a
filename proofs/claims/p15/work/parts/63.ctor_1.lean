theorem ct_X0 {n b : Nat} {x : Cn} (hb : b < n) (hk : kwf b = (0, 0)) (hz : ∀ k, x.1 b k = 0) : mSpN mX0_init [.ref b] (hp (n, kwf) x) 0 0 (fun h' => h' = hp (n, kwf) x) := by
  refine n_of (by decide) (by simp [Value.category]) (Nat.le_of_ble_eq_true rfl) rfl ?_
  show GN mX0_init 0 0 n _ (0, 0) 0 [some (.ref b)] [] _
  refine n_aload_n (pc := 0) dX0_init_0 rfl ?_
  refine n_objInit (pc := 1) dX0_init_1 lk_X0_1 oi_i oi_c ⟨by decide, by decide⟩ (Nat.le_of_ble_eq_true rfl) ?_
  refine n_aload_n (pc := 4) dX0_init_4 rfl ?_
  refine n_iconst (v := 0) (pc := 5) dX0_init_5 (by decide) ?_
  refine n_put0 (pc := 6) (ci := 0) dX0_init_6 fl_X0_7 rfl rfl hb hk ⟨rfl, rfl⟩ (hz _) ?_
  refine n_aload_n (pc := 9) dX0_init_9 rfl ?_
  refine n_iconst (v := 0) (pc := 10) dX0_init_10 (by decide) ?_
  refine n_put0 (pc := 11) (ci := 0) dX0_init_11 fl_X0_13 rfl rfl hb hk ⟨rfl, rfl⟩ (hz _) ?_
  refine n_aload_n (pc := 14) dX0_init_14 rfl ?_
  refine n_iconst (v := 0) (pc := 15) dX0_init_15 (by decide) ?_
  refine n_put0 (pc := 16) (ci := 0) dX0_init_16 fl_X0_16 rfl rfl hb hk ⟨rfl, rfl⟩ (hz _) ?_
  refine n_aload_n (pc := 19) dX0_init_19 rfl ?_
  refine n_iconst (v := 0) (pc := 20) dX0_init_20 (by decide) ?_
  refine n_put0 (pc := 21) (ci := 0) dX0_init_21 fl_X0_19 rfl rfl hb hk ⟨rfl, rfl⟩ (hz _) ?_
  refine n_aload_n (pc := 24) dX0_init_24 rfl ?_
  refine n_iconst (v := 0) (pc := 25) dX0_init_25 (by decide) ?_
  refine n_put0 (pc := 26) (ci := 0) dX0_init_26 fl_X0_22 rfl rfl hb hk ⟨rfl, rfl⟩ (hz _) ?_
  refine n_aload_n (pc := 29) dX0_init_29 rfl ?_
  refine n_iconst (v := 0) (pc := 30) dX0_init_30 (by decide) ?_
  refine n_put0 (pc := 31) (ci := 0) dX0_init_31 fl_X0_25 rfl rfl hb hk ⟨rfl, rfl⟩ (hz _) ?_
  refine n_aload_n (pc := 34) dX0_init_34 rfl ?_
  refine n_iconst (v := 0) (pc := 35) dX0_init_35 (by decide) ?_
  refine n_put0 (pc := 36) (ci := 0) dX0_init_36 fl_X0_28 rfl rfl hb hk ⟨rfl, rfl⟩ (hz _) ?_
  exact n_ret (pc := 39) rfl rfl dX0_init_39 rfl
theorem ct_X1 {n b : Nat} {x : Cn} (hb : b < n) (hn : n < 1000) (hk : kwf b = (1, 0)) (h1 : kwf n = (20, 48)) (ok : Okx n x) (hz : ∀ k, x.1 b k = 0) : mSpN mX1_init [.ref b] (hp (n, kwf) x) 1 48 (fun h' => h' = hp (n + 1, kwf) (ur x b 1 (some n))) := by
  have sb : n < mSB := Nat.lt_trans hn (by decide)
  refine n_of (by decide) (by simp [Value.category]) (Nat.le_of_ble_eq_true rfl) rfl ?_
  show GN mX1_init 1 48 n _ (0, 0) 0 [some (.ref b)] [] _
  refine n_aload_n (pc := 0) dX1_init_0 rfl ?_
  refine n_objInit (pc := 1) dX1_init_1 lk_X1_3 oi_i oi_c ⟨by decide, by decide⟩ (Nat.le_of_ble_eq_true rfl) ?_
  refine n_aload_n (pc := 4) dX1_init_4 rfl ?_
  refine n_iconst (v := 0) (pc := 5) dX1_init_5 (by decide) ?_
  refine n_put0 (pc := 6) (ci := 1) dX1_init_6 fl_X1_9 rfl rfl hb hk ⟨rfl, rfl⟩ (hz _) ?_
  refine n_aload_n (pc := 9) dX1_init_9 rfl ?_
  refine n_bipush (v := 48) (pc := 10) dX1_init_10 (by decide) ?_
  refine n_newa (kn := 20) (N := 48) (c' := (1, 48)) (pc := 12) dX1_init_12 (Or.inl ⟨rfl, rfl⟩) ac_i rfl (by decide) ok (by omega) (by intro b9 h9; simp at h9; first | (subst h9; show @LT.lt Nat _ _ _; omega) | (rcases h9 with h9 | h9 <;> (subst h9; show @LT.lt Nat _ _ _; omega)) | (rcases h9 with h9 | h9 | h9 <;> (subst h9; show @LT.lt Nat _ _ _; omega))) (by intro b9 h9; simp at h9; first | (subst h9; show @LT.lt Nat _ _ _; omega) | (rcases h9 with h9 | h9 <;> (subst h9; show @LT.lt Nat _ _ _; omega)) | (rcases h9 with h9 | h9 | h9 <;> (subst h9; show @LT.lt Nat _ _ _; omega))) (by omega) rfl (Nat.le_of_ble_eq_true rfl) (Nat.le_of_ble_eq_true rfl) (by assumption) ?_
  refine n_putRF (pc := 14) (ci := 1) dX1_init_14 fl_X1_15 rfl rfl rfl rfl (by omega) hk ?_
  exact n_ret (pc := 17) rfl rfl dX1_init_17 rfl
theorem ct_X6 {n b : Nat} {x : Cn} (hb : b < n) (hn : n < 1000) (hk : kwf b = (6, 0)) (h1 : kwf n = (21, 2400)) (ok : Okx n x) (hz : ∀ k, x.1 b k = 0) : mSpN mX6_init [.ref b] (hp (n, kwf) x) 1 2400 (fun h' => h' = hp (n + 1, kwf) (ur x b 0 (some n))) := by
  have sb : n < mSB := Nat.lt_trans hn (by decide)
  refine n_of (by decide) (by simp [Value.category]) (Nat.le_of_ble_eq_true rfl) rfl ?_
  show GN mX6_init 1 2400 n _ (0, 0) 0 [some (.ref b)] [] _
  refine n_aload_n (pc := 0) dX6_init_0 rfl ?_
  refine n_objInit (pc := 1) dX6_init_1 lk_X6_3 oi_i oi_c ⟨by decide, by decide⟩ (Nat.le_of_ble_eq_true rfl) ?_
  refine n_aload_n (pc := 4) dX6_init_4 rfl ?_
  refine n_sipush (v := 2400) (pc := 5) dX6_init_5 (by decide) ?_
  refine n_newa (kn := 21) (N := 2400) (c' := (1, 2400)) (pc := 8) dX6_init_8 (Or.inr ⟨rfl, rfl⟩) ac_b rfl (by decide) ok (by omega) (by intro b9 h9; simp at h9; first | (subst h9; show @LT.lt Nat _ _ _; omega) | (rcases h9 with h9 | h9 <;> (subst h9; show @LT.lt Nat _ _ _; omega)) | (rcases h9 with h9 | h9 | h9 <;> (subst h9; show @LT.lt Nat _ _ _; omega))) (by intro b9 h9; simp at h9; first | (subst h9; show @LT.lt Nat _ _ _; omega) | (rcases h9 with h9 | h9 <;> (subst h9; show @LT.lt Nat _ _ _; omega)) | (rcases h9 with h9 | h9 | h9 <;> (subst h9; show @LT.lt Nat _ _ _; omega))) (by omega) rfl (Nat.le_of_ble_eq_true rfl) (Nat.le_of_ble_eq_true rfl) (by assumption) ?_
  refine n_putRF (pc := 10) (ci := 6) dX6_init_10 fl_X6_9 rfl rfl rfl rfl (by omega) hk ?_
  refine n_aload_n (pc := 13) dX6_init_13 rfl ?_
  refine n_iconst (v := 0) (pc := 14) dX6_init_14 (by decide) ?_
  refine n_put0 (pc := 15) (ci := 6) dX6_init_15 fl_X6_15 rfl rfl (by omega) hk ⟨rfl, rfl⟩ (hz _) ?_
  exact n_ret (pc := 18) rfl rfl dX6_init_18 rfl
/-! a season's cells: i series, j asks made -/
def seaP (q i j : Nat) (x : Cn) : Cn := (x.1, fun a k => if a = q ∧ 5 ≤ k ∧ k ≤ 9 then some (q + (k - 4)) else if a = q + 3 ∧ k < i then some (q + 6 + k) else if a = q + 4 ∧ k < j then some (q + 30 + k) else x.2 a k)
theorem seaP_0 (q : Nat) (x : Cn) : ur (ur (ur (ur (ur x q 5 (some (q + 1))) q 6 (some (q + 2))) q 7 (some (q + 3))) q 8 (some (q + 4))) q 9 (some (q + 5)) = seaP q 0 0 x := by
  refine Prod.ext rfl (funext fun a => funext fun k => ?_)
  show (if a = q ∧ k = 9 then some (q + 5) else if a = q ∧ k = 8 then some (q + 4) else if a = q ∧ k = 7 then some (q + 3) else if a = q ∧ k = 6 then some (q + 2) else if a = q ∧ k = 5 then some (q + 1) else x.2 a k) = if a = q ∧ 5 ≤ k ∧ k ≤ 9 then some (q + (k - 4)) else if a = q + 3 ∧ k < 0 then some (q + 6 + k) else if a = q + 4 ∧ k < 0 then some (q + 30 + k) else x.2 a k
  (repeat' split) <;> first | rfl | (exfalso; omega) | (congr 1; omega)
theorem seaP_s (q i j : Nat) (x : Cn) : ur (seaP q i j x) (q + 3) i (some (q + 6 + i)) = seaP q (i + 1) j x := by
  refine Prod.ext rfl (funext fun a => funext fun k => ?_)
  show (if a = q + 3 ∧ k = i then some (q + 6 + i) else if a = q ∧ 5 ≤ k ∧ k ≤ 9 then some (q + (k - 4)) else if a = q + 3 ∧ k < i then some (q + 6 + k) else if a = q + 4 ∧ k < j then some (q + 30 + k) else x.2 a k) = if a = q ∧ 5 ≤ k ∧ k ≤ 9 then some (q + (k - 4)) else if a = q + 3 ∧ k < i + 1 then some (q + 6 + k) else if a = q + 4 ∧ k < j then some (q + 30 + k) else x.2 a k
  (repeat' split) <;> first | rfl | (exfalso; omega) | (congr 1; omega)
theorem seaP_a (q i j : Nat) (x : Cn) : ur (seaP q i j x) (q + 4) j (some (q + 30 + j)) = seaP q i (j + 1) x := by
  refine Prod.ext rfl (funext fun a => funext fun k => ?_)
  show (if a = q + 4 ∧ k = j then some (q + 30 + j) else if a = q ∧ 5 ≤ k ∧ k ≤ 9 then some (q + (k - 4)) else if a = q + 3 ∧ k < i then some (q + 6 + k) else if a = q + 4 ∧ k < j then some (q + 30 + k) else x.2 a k) = if a = q ∧ 5 ≤ k ∧ k ≤ 9 then some (q + (k - 4)) else if a = q + 3 ∧ k < i then some (q + 6 + k) else if a = q + 4 ∧ k < j + 1 then some (q + 30 + k) else x.2 a k
  (repeat' split) <;> first | rfl | (exfalso; omega) | (congr 1; omega)
theorem seaP_ok {q i j n : Nat} {x : Cn} (ok : Okx (q + 1) x) (h1 : q + 6 + i ≤ n) (h2 : j = 0 ∨ q + 30 + j ≤ n) : Okx n (seaP q i j x) := by
  refine ⟨fun a k ha => ⟨(ok.1 a k (by omega)).1, ?_⟩, fun a k b hb => ?_⟩
  · show (if a = q ∧ 5 ≤ k ∧ k ≤ 9 then some (q + (k - 4)) else if a = q + 3 ∧ k < i then some (q + 6 + k) else if a = q + 4 ∧ k < j then some (q + 30 + k) else x.2 a k) = none
    rw [if_neg (by omega), if_neg (by omega), if_neg (by omega)]
    exact (ok.1 a k (by omega)).2
  · have hb : (if a = q ∧ 5 ≤ k ∧ k ≤ 9 then some (q + (k - 4)) else if a = q + 3 ∧ k < i then some (q + 6 + k) else if a = q + 4 ∧ k < j then some (q + 30 + k) else x.2 a k) = some b := hb
    by_cases z1 : a = q ∧ 5 ≤ k ∧ k ≤ 9
    · rw [if_pos z1] at hb
      cases hb
      omega
    · rw [if_neg z1] at hb
      by_cases z2 : a = q + 3 ∧ k < i
      · rw [if_pos z2] at hb
        cases hb
        omega
      · rw [if_neg z2] at hb
        by_cases z3 : a = q + 4 ∧ k < j
        · rw [if_pos z3] at hb
          cases hb
          omega
        · rw [if_neg z3] at hb
          have := ok.2 a k b hb
          omega
theorem skd5 {j : Nat} (h1 : 6 ≤ j) (h2 : j < 30) : skd j = (5, 0) := by
  unfold skd
  rw [if_neg (by omega), if_neg (by omega), if_neg (by omega), if_neg (by omega), if_neg (by omega), if_pos (by omega)]
theorem skd0 {j : Nat} (h1 : 30 ≤ j) : skd j = (0, 0) := by
  unfold skd
  rw [if_neg (by omega), if_neg (by omega), if_neg (by omega), if_neg (by omega), if_neg (by omega), if_neg (by omega)]
theorem lp_X4a {q : Nat} {x : Cn} {P : HP → Prop} (hq : q < 900) (hs : ∀ j, j < 54 → kwf (q + j) = skd j) (ok : Okx (q + 1) x) (K : GN mX4_init 53 577 (q + 1) P (29, 409) 98 [some (.ref q), some (.int (nI 24))] [] (hp (q + 30, kwf) (seaP q 24 0 x))) : ∀ d i, i + d = 24 → GN mX4_init 53 577 (q + 1) P (5 + i, 121 + 12 * i) 73 [some (.ref q), some (.int (nI i))] [] (hp (q + 6 + i, kwf) (seaP q i 0 x)) := by
  intro d
  induction d with
  | zero =>
    intro i hi
    obtain rfl : i = 24 := by omega
    refine n_iload_n (pc := 73) dX4_init_73 rfl ?_
    refine n_bipush (v := nI 24) (pc := 74) dX4_init_74 (by decide) ?_
    exact n_icmp_ge (pc := 76) (tgt := 98) dX4_init_76 (by decide) (fun _ => K) (fun z => absurd (by decide) z)
  | succ d ih =>
    intro i hi
    have sb : q + 6 + i < mSB := Nat.lt_trans (show q + 6 + i < 1000 by omega) (by decide)
    have hk : kwf (q + 6 + i) = (5, 0) := by rw [Nat.add_assoc, hs (6 + i) (by omega)]; exact skd5 (by omega) (by omega)
    refine n_iload_n (pc := 73) dX4_init_73 rfl ?_
    refine n_bipush (v := nI 24) (pc := 74) dX4_init_74 (by decide) ?_
    refine n_icmp_ge (pc := 76) (tgt := 98) dX4_init_76 (by decide) (fun z => absurd z (nI_ge (by omega) (by omega))) (fun _ => ?_)
    refine n_aload_n (pc := 79) dX4_init_79 rfl ?_
    refine n_getR (pc := 80) (ci := 4) (b := q + 3) dX4_init_80 fl_X4_36 rfl (by omega) (hs 0 (by decide)) (by simp [seaP]) ?_
    refine n_iload_n (pc := 83) dX4_init_83 rfl ?_
    refine n_new (pc := 84) (ci := 5) (c' := (6 + i, 133 + 12 * i)) dX4_init_84 kl_X4_34 it_5 iz_5 (by decide) (seaP_ok ok (by omega) (Or.inl rfl)) sb (by intro b9 h9; simp at h9; first | (subst h9; show @LT.lt Nat _ _ _; omega) | (rcases h9 with h9 | h9 <;> (subst h9; show @LT.lt Nat _ _ _; omega)) | (rcases h9 with h9 | h9 | h9 <;> (subst h9; show @LT.lt Nat _ _ _; omega))) (by intro b9 h9; simp at h9; first | (subst h9; show @LT.lt Nat _ _ _; omega) | (rcases h9 with h9 | h9 <;> (subst h9; show @LT.lt Nat _ _ _; omega)) | (rcases h9 with h9 | h9 | h9 <;> (subst h9; show @LT.lt Nat _ _ _; omega))) (by omega) (Prod.ext (show 6 + i = 5 + i + 1 by omega) (show 133 + 12 * i = 121 + 12 * i + 12 by omega)) (show 6 + i ≤ 53 by omega) (show 133 + 12 * i ≤ 577 by omega) hk ?_
    refine n_dup (pc := 87) dX4_init_87 rfl ?_
    refine n_callI mX5_init (pc := 88) (m1 := 0) (s1 := 0) (c' := (6 + i, 133 + 12 * i)) dX4_init_88 (Or.inr ⟨_, nl_X4_49⟩) ii_X5_init mo_X5_init rfl rfl ⟨by decide, by decide⟩ (Nat.le_of_ble_eq_true rfl) (by intro b9 h9; simp at h9; first | (subst h9; show @LT.lt Nat _ _ _; omega) | (rcases h9 with h9 | h9 <;> (subst h9; show @LT.lt Nat _ _ _; omega)) | (rcases h9 with h9 | h9 | h9 <;> (subst h9; show @LT.lt Nat _ _ _; omega))) (by intro b9 h9; simp at h9; first | (subst h9; show @LT.lt Nat _ _ _; omega) | (rcases h9 with h9 | h9 <;> (subst h9; show @LT.lt Nat _ _ _; omega)) | (rcases h9 with h9 | h9 | h9 <;> (subst h9; show @LT.lt Nat _ _ _; omega))) (by omega) rfl (show 6 + i ≤ 53 by omega) (show 133 + 12 * i ≤ 577 by omega) (ct_X5 (by omega) hk (fun k => (ok.1 _ k (by omega)).1)) ?_
    refine n_aast (pc := 91) (ci := 23) (N := 24) (cj := 5) (nb := 0) (j := i) dX4_init_91 (by omega) (hs 3 (by decide)) (by decide) (by decide) rfl (by omega) hk (vp_in_nI (by omega) (by decide)) (nI_clamp (by omega)) ?_
    rw [seaP_s]
    refine n_iinc (pc := 92) (w := nI (i + 1)) dX4_init_92 rfl (nI_succ i).symm (by decide) ?_
    refine n_goto (pc := 95) (tgt := 73) dX4_init_95 (by decide) ?_
    rw [show ((6 + i, 133 + 12 * i) : Nat × Nat) = (5 + (i + 1), 121 + 12 * (i + 1)) from Prod.ext (show 6 + i = 5 + (i + 1) by omega) (show 133 + 12 * i = 121 + 12 * (i + 1) by omega)]
    exact ih (i + 1) (by omega)
theorem lp_X4b {q : Nat} {x : Cn} {P : HP → Prop} (hq : q < 900) (hs : ∀ j, j < 54 → kwf (q + j) = skd j) (ok : Okx (q + 1) x) (hP : P (hp (q + 54, kwf) (seaP q 24 24 x))) : ∀ d i, i + d = 24 → GN mX4_init 53 577 (q + 1) P (29 + i, 409 + 7 * i) 100 [some (.ref q), some (.int (nI i))] [] (hp (q + 30 + i, kwf) (seaP q 24 i x)) := by
  intro d
  induction d with
  | zero =>
    intro i hi
    obtain rfl : i = 24 := by omega
    refine n_iload_n (pc := 100) dX4_init_100 rfl ?_
    refine n_bipush (v := nI 24) (pc := 101) dX4_init_101 (by decide) ?_
    exact n_icmp_ge (pc := 103) (tgt := 125) dX4_init_103 (by decide) (fun _ => n_ret (pc := 125) rfl rfl dX4_init_125 hP) (fun z => absurd (by decide) z)
  | succ d ih =>
    intro i hi
    have sb : q + 30 + i < mSB := Nat.lt_trans (show q + 30 + i < 1000 by omega) (by decide)
    have hk : kwf (q + 30 + i) = (0, 0) := by rw [Nat.add_assoc, hs (30 + i) (by omega)]; exact skd0 (by omega)
    refine n_iload_n (pc := 100) dX4_init_100 rfl ?_
    refine n_bipush (v := nI 24) (pc := 101) dX4_init_101 (by decide) ?_
    refine n_icmp_ge (pc := 103) (tgt := 125) dX4_init_103 (by decide) (fun z => absurd z (nI_ge (by omega) (by omega))) (fun _ => ?_)
    refine n_aload_n (pc := 106) dX4_init_106 rfl ?_
    refine n_getR (pc := 107) (ci := 4) (b := q + 4) dX4_init_107 fl_X4_42 rfl (by omega) (hs 0 (by decide)) (by simp [seaP]) ?_
    refine n_iload_n (pc := 110) dX4_init_110 rfl ?_
    refine n_new (pc := 111) (ci := 0) (c' := (30 + i, 416 + 7 * i)) dX4_init_111 kl_X4_40 it_0 iz_0 (by decide) (seaP_ok ok (by omega) (Or.inr (by omega))) sb (by intro b9 h9; simp at h9; first | (subst h9; show @LT.lt Nat _ _ _; omega) | (rcases h9 with h9 | h9 <;> (subst h9; show @LT.lt Nat _ _ _; omega)) | (rcases h9 with h9 | h9 | h9 <;> (subst h9; show @LT.lt Nat _ _ _; omega))) (by intro b9 h9; simp at h9; first | (subst h9; show @LT.lt Nat _ _ _; omega) | (rcases h9 with h9 | h9 <;> (subst h9; show @LT.lt Nat _ _ _; omega)) | (rcases h9 with h9 | h9 | h9 <;> (subst h9; show @LT.lt Nat _ _ _; omega))) (by omega) (Prod.ext (show 30 + i = 29 + i + 1 by omega) (show 416 + 7 * i = 409 + 7 * i + 7 by omega)) (show 30 + i ≤ 53 by omega) (show 416 + 7 * i ≤ 577 by omega) hk ?_
    refine n_dup (pc := 114) dX4_init_114 rfl ?_
    refine n_callI mX0_init (pc := 115) (m1 := 0) (s1 := 0) (c' := (30 + i, 416 + 7 * i)) dX4_init_115 (Or.inr ⟨_, nl_X4_50⟩) ii_X0_init mo_X0_init rfl rfl ⟨by decide, by decide⟩ (Nat.le_of_ble_eq_true rfl) (by intro b9 h9; simp at h9; first | (subst h9; show @LT.lt Nat _ _ _; omega) | (rcases h9 with h9 | h9 <;> (subst h9; show @LT.lt Nat _ _ _; omega)) | (rcases h9 with h9 | h9 | h9 <;> (subst h9; show @LT.lt Nat _ _ _; omega))) (by intro b9 h9; simp at h9; first | (subst h9; show @LT.lt Nat _ _ _; omega) | (rcases h9 with h9 | h9 <;> (subst h9; show @LT.lt Nat _ _ _; omega)) | (rcases h9 with h9 | h9 | h9 <;> (subst h9; show @LT.lt Nat _ _ _; omega))) (by omega) rfl (show 30 + i ≤ 53 by omega) (show 416 + 7 * i ≤ 577 by omega) (ct_X0 (by omega) hk (fun k => (ok.1 _ k (by omega)).1)) ?_
    refine n_aast (pc := 118) (ci := 24) (N := 24) (cj := 0) (nb := 0) (j := i) dX4_init_118 (by omega) (hs 4 (by decide)) (by decide) (by decide) rfl (by omega) hk (vp_in_nI (by omega) (by decide)) (nI_clamp (by omega)) ?_
    rw [seaP_a]
    refine n_iinc (pc := 119) (w := nI (i + 1)) dX4_init_119 rfl (nI_succ i).symm (by decide) ?_
    refine n_goto (pc := 122) (tgt := 100) dX4_init_122 (by decide) ?_
    rw [show ((30 + i, 416 + 7 * i) : Nat × Nat) = (29 + (i + 1), 409 + 7 * (i + 1)) from Prod.ext (show 30 + i = 29 + (i + 1) by omega) (show 416 + 7 * i = 409 + 7 * (i + 1) by omega)]
    exact ih (i + 1) (by omega)
theorem ct_X4 {q : Nat} {x : Cn} (hq : q < 900) (hs : ∀ j, j < 54 → kwf (q + j) = skd j) (ok : Okx (q + 1) x) (hz : ∀ k, x.1 q k = 0) : mSpN mX4_init [.ref q] (hp (q + 1, kwf) x) 53 577 (fun h' => h' = hp (q + 54, kwf) (seaP q 24 24 x)) := by
  have sb : q + 100 < mSB := Nat.lt_trans (show q + 100 < 1001 by omega) (by decide)
  have hk : kwf q = (4, 0) := hs 0 (by decide)
  have hb : q < q + 1 := by omega
  have ok1 : Okx (q + 2) (ur x q 5 (some (q + 1))) := (ok.up (by omega)).ur (by omega) 5 (by omega)
  have ok2 : Okx (q + 3) (ur (ur x q 5 (some (q + 1))) q 6 (some (q + 2))) := (ok1.up (by omega)).ur (by omega) 6 (by omega)
  have ok3 : Okx (q + 4) (ur (ur (ur x q 5 (some (q + 1))) q 6 (some (q + 2))) q 7 (some (q + 3))) := (ok2.up (by omega)).ur (by omega) 7 (by omega)
  have ok4 : Okx (q + 5) (ur (ur (ur (ur x q 5 (some (q + 1))) q 6 (some (q + 2))) q 7 (some (q + 3))) q 8 (some (q + 4))) := (ok3.up (by omega)).ur (by omega) 8 (by omega)
  refine n_of (by decide) (by simp [Value.category]) (Nat.le_of_ble_eq_true rfl) rfl ?_
  show GN mX4_init 53 577 (q + 1) _ (0, 0) 0 [some (.ref q), none] [] _
  refine n_aload_n (pc := 0) dX4_init_0 rfl ?_
  refine n_objInit (pc := 1) dX4_init_1 lk_X4_3 oi_i oi_c ⟨by decide, by decide⟩ (Nat.le_of_ble_eq_true rfl) ?_
  refine n_aload_n (pc := 4) dX4_init_4 rfl ?_
  refine n_iconst (v := 0) (pc := 5) dX4_init_5 (by decide) ?_
  refine n_put0 (pc := 6) (ci := 4) dX4_init_6 fl_X4_9 rfl rfl hb hk ⟨rfl, rfl⟩ (hz _) ?_
  refine n_aload_n (pc := 9) dX4_init_9 rfl ?_
  refine n_iconst (v := 0) (pc := 10) dX4_init_10 (by decide) ?_
  refine n_put0 (pc := 11) (ci := 4) dX4_init_11 fl_X4_15 rfl rfl hb hk ⟨rfl, rfl⟩ (hz _) ?_
  refine n_aload_n (pc := 14) dX4_init_14 rfl ?_
  refine n_iconst (v := 0) (pc := 15) dX4_init_15 (by decide) ?_
  refine n_put0 (pc := 16) (ci := 4) dX4_init_16 fl_X4_18 rfl rfl hb hk ⟨rfl, rfl⟩ (hz _) ?_
  refine n_aload_n (pc := 19) dX4_init_19 rfl ?_
  refine n_iconst (v := 0) (pc := 20) dX4_init_20 (by decide) ?_
  refine n_put0 (pc := 21) (ci := 4) dX4_init_21 fl_X4_21 rfl rfl hb hk ⟨rfl, rfl⟩ (hz _) ?_
  refine n_aload_n (pc := 24) dX4_init_24 rfl ?_
  refine n_iconst (v := 0) (pc := 25) dX4_init_25 (by decide) ?_
  refine n_put0 (pc := 26) (ci := 4) dX4_init_26 fl_X4_24 rfl rfl hb hk ⟨rfl, rfl⟩ (hz _) ?_
  refine n_aload_n (pc := 29) dX4_init_29 rfl ?_
  refine n_bipush (v := 24) (pc := 30) dX4_init_30 (by decide) ?_
  refine n_newa (n := q + 1) (c' := (1, 24)) (N := 24) (kn := 20) (pc := 32) dX4_init_32 (Or.inl ⟨rfl, rfl⟩) ac_i rfl (by decide) ok (by omega) (by intro b9 h9; simp at h9; first | (subst h9; show @LT.lt Nat _ _ _; omega) | (rcases h9 with h9 | h9 <;> (subst h9; show @LT.lt Nat _ _ _; omega)) | (rcases h9 with h9 | h9 | h9 <;> (subst h9; show @LT.lt Nat _ _ _; omega))) (by intro b9 h9; simp at h9; first | (subst h9; show @LT.lt Nat _ _ _; omega) | (rcases h9 with h9 | h9 <;> (subst h9; show @LT.lt Nat _ _ _; omega)) | (rcases h9 with h9 | h9 | h9 <;> (subst h9; show @LT.lt Nat _ _ _; omega))) (by omega) rfl (Nat.le_of_ble_eq_true rfl) (Nat.le_of_ble_eq_true rfl) (hs 1 (by decide)) ?_
  refine n_putRF (n := q + 2) (b := q + 1) (pc := 34) (ci := 4) dX4_init_34 fl_X4_27 rfl rfl rfl rfl (by omega) hk ?_
  refine n_aload_n (pc := 37) dX4_init_37 rfl ?_
  refine n_bipush (v := 24) (pc := 38) dX4_init_38 (by decide) ?_
  refine n_newa (n := q + 2) (c' := (2, 48)) (N := 24) (kn := 20) (pc := 40) dX4_init_40 (Or.inl ⟨rfl, rfl⟩) ac_i rfl (by decide) ok1 (by omega) (by intro b9 h9; simp at h9; first | (subst h9; show @LT.lt Nat _ _ _; omega) | (rcases h9 with h9 | h9 <;> (subst h9; show @LT.lt Nat _ _ _; omega)) | (rcases h9 with h9 | h9 | h9 <;> (subst h9; show @LT.lt Nat _ _ _; omega))) (by intro b9 h9; simp at h9; first | (subst h9; show @LT.lt Nat _ _ _; omega) | (rcases h9 with h9 | h9 <;> (subst h9; show @LT.lt Nat _ _ _; omega)) | (rcases h9 with h9 | h9 | h9 <;> (subst h9; show @LT.lt Nat _ _ _; omega))) (by omega) rfl (Nat.le_of_ble_eq_true rfl) (Nat.le_of_ble_eq_true rfl) (hs 2 (by decide)) ?_
  refine n_putRF (n := q + 3) (b := q + 2) (pc := 42) (ci := 4) dX4_init_42 fl_X4_31 rfl rfl rfl rfl (by omega) hk ?_
  refine n_aload_n (pc := 45) dX4_init_45 rfl ?_
  refine n_bipush (v := 24) (pc := 46) dX4_init_46 (by decide) ?_
  refine n_anew (n := q + 3) (c' := (3, 72)) (N := 24) (kn := 23) (pc := 48) dX4_init_48 kl_X4_34 (Or.inr (Or.inl ⟨rfl, rfl⟩)) rfl (by decide) ok2 (by omega) (by intro b9 h9; simp at h9; first | (subst h9; show @LT.lt Nat _ _ _; omega) | (rcases h9 with h9 | h9 <;> (subst h9; show @LT.lt Nat _ _ _; omega)) | (rcases h9 with h9 | h9 | h9 <;> (subst h9; show @LT.lt Nat _ _ _; omega))) (by intro b9 h9; simp at h9; first | (subst h9; show @LT.lt Nat _ _ _; omega) | (rcases h9 with h9 | h9 <;> (subst h9; show @LT.lt Nat _ _ _; omega)) | (rcases h9 with h9 | h9 | h9 <;> (subst h9; show @LT.lt Nat _ _ _; omega))) (by omega) rfl (Nat.le_of_ble_eq_true rfl) (Nat.le_of_ble_eq_true rfl) (hs 3 (by decide)) ?_
  refine n_putRF (n := q + 4) (b := q + 3) (pc := 51) (ci := 4) dX4_init_51 fl_X4_36 rfl rfl rfl rfl (by omega) hk ?_
  refine n_aload_n (pc := 54) dX4_init_54 rfl ?_
  refine n_bipush (v := 24) (pc := 55) dX4_init_55 (by decide) ?_
  refine n_anew (n := q + 4) (c' := (4, 96)) (N := 24) (kn := 24) (pc := 57) dX4_init_57 kl_X4_40 (Or.inr (Or.inr ⟨rfl, rfl⟩)) rfl (by decide) ok3 (by omega) (by intro b9 h9; simp at h9; first | (subst h9; show @LT.lt Nat _ _ _; omega) | (rcases h9 with h9 | h9 <;> (subst h9; show @LT.lt Nat _ _ _; omega)) | (rcases h9 with h9 | h9 | h9 <;> (subst h9; show @LT.lt Nat _ _ _; omega))) (by intro b9 h9; simp at h9; first | (subst h9; show @LT.lt Nat _ _ _; omega) | (rcases h9 with h9 | h9 <;> (subst h9; show @LT.lt Nat _ _ _; omega)) | (rcases h9 with h9 | h9 | h9 <;> (subst h9; show @LT.lt Nat _ _ _; omega))) (by omega) rfl (Nat.le_of_ble_eq_true rfl) (Nat.le_of_ble_eq_true rfl) (hs 4 (by decide)) ?_
  refine n_putRF (n := q + 5) (b := q + 4) (pc := 60) (ci := 4) dX4_init_60 fl_X4_42 rfl rfl rfl rfl (by omega) hk ?_
  refine n_aload_n (pc := 63) dX4_init_63 rfl ?_
  refine n_bipush (v := 25) (pc := 64) dX4_init_64 (by decide) ?_
  refine n_newa (n := q + 5) (c' := (5, 121)) (N := 25) (kn := 20) (pc := 66) dX4_init_66 (Or.inl ⟨rfl, rfl⟩) ac_i rfl (by decide) ok4 (by omega) (by intro b9 h9; simp at h9; first | (subst h9; show @LT.lt Nat _ _ _; omega) | (rcases h9 with h9 | h9 <;> (subst h9; show @LT.lt Nat _ _ _; omega)) | (rcases h9 with h9 | h9 | h9 <;> (subst h9; show @LT.lt Nat _ _ _; omega))) (by intro b9 h9; simp at h9; first | (subst h9; show @LT.lt Nat _ _ _; omega) | (rcases h9 with h9 | h9 <;> (subst h9; show @LT.lt Nat _ _ _; omega)) | (rcases h9 with h9 | h9 | h9 <;> (subst h9; show @LT.lt Nat _ _ _; omega))) (by omega) rfl (Nat.le_of_ble_eq_true rfl) (Nat.le_of_ble_eq_true rfl) (hs 5 (by decide)) ?_
  refine n_putRF (n := q + 6) (b := q + 5) (pc := 68) (ci := 4) dX4_init_68 fl_X4_46 rfl rfl rfl rfl (by omega) hk ?_
  change GN mX4_init 53 577 (q + 1) _ (5, 121) 71 [some (.ref q), none] [] (hp (q + 6, kwf) (ur (ur (ur (ur (ur x q 5 (some (q + 1))) q 6 (some (q + 2))) q 7 (some (q + 3))) q 8 (some (q + 4))) q 9 (some (q + 5))))
  rw [seaP_0]
  refine n_iconst (v := nI 0) (pc := 71) dX4_init_71 (by decide) ?_
  refine n_istore_n (pc := 72) dX4_init_72 (by decide) ?_
  refine lp_X4a hq hs ok ?_ 24 0 rfl
  refine n_iconst (v := nI 0) (pc := 98) dX4_init_98 (by decide) ?_
  refine n_istore_n (pc := 99) dX4_init_99 (by decide) ?_
  exact lp_X4b (P := fun h' => h' = hp (q + 54, kwf) (seaP q 24 24 x)) hq hs ok rfl 24 0 rfl

theorem ksK {q : Nat} (h : Isea q) : ∀ j, j < 54 → kwf (q + j) = skd j := fun j hj => by
  have e := ksea h j hj
  have hl := h.lt
  unfold kk at e
  rw [if_pos (show q + j < KW.1 from (show q + j < 726 by omega))] at e
  exact Option.some.inj e
theorem uiz {y : Cn} {a k b j : Nat} {v : Int32} (h : ¬ (b = a ∧ j = k)) (hz : y.1 b j = 0) : (ui y a k v).1 b j = 0 := (if_neg h).trans hz
def plC (x : Cn) : Cn := (ur (ur (ur (ur (seaP 118 24 24 x) 117 0 (some 118)) 117 1 (some 172)) 117 2 (some 173)) 117 3 (some 174))
theorem ct_X2 {x : Cn} (ok : Okx 118 x) (hz : ∀ k, x.1 117 k = 0) : mSpN mX2_init [.ref 117] (hp (118, kwf) x) 57 691 (fun h' => h' = hp (175, kwf) (plC x)) := by
  refine n_of (by decide) (by simp [Value.category]) (Nat.le_of_ble_eq_true rfl) rfl ?_
  show GN mX2_init 57 691 118 _ (0, 0) 0 [some (.ref 117)] [] _
  refine n_aload_n (pc := 0) dX2_init_0 rfl ?_
  refine n_objInit (pc := 1) dX2_init_1 lk_X2_3 oi_i oi_c ⟨by decide, by decide⟩ (Nat.le_of_ble_eq_true rfl) ?_
  refine n_aload_n (pc := 4) dX2_init_4 rfl ?_
  refine n_new (n := 118) (pc := 5) (ci := 4) (c' := (1, 10)) dX2_init_5 kl_X2_9 it_4 iz_4 (by decide) ok (by decide) (by intro b9 h9; simp at h9; first | (subst h9; show @LT.lt Nat _ _ _; omega) | (rcases h9 with h9 | h9 <;> (subst h9; show @LT.lt Nat _ _ _; omega)) | (rcases h9 with h9 | h9 | h9 <;> (subst h9; show @LT.lt Nat _ _ _; omega))) (by intro b9 h9; simp at h9; first | (subst h9; show @LT.lt Nat _ _ _; omega) | (rcases h9 with h9 | h9 <;> (subst h9; show @LT.lt Nat _ _ _; omega)) | (rcases h9 with h9 | h9 | h9 <;> (subst h9; show @LT.lt Nat _ _ _; omega))) (by decide) rfl (Nat.le_of_ble_eq_true rfl) (Nat.le_of_ble_eq_true rfl) (by decide) ?_
  refine n_dup (pc := 8) dX2_init_8 rfl ?_
  refine n_callI mX4_init (n := 119) (n' := 172) (pc := 9) (m1 := 53) (s1 := 577) (c' := (54, 587)) dX2_init_9 (Or.inl lk_X2_11) ii_X4_init mo_X4_init rfl rfl ⟨by decide, by decide⟩ (Nat.le_of_ble_eq_true rfl) (by intro b9 h9; simp at h9; first | (subst h9; show @LT.lt Nat _ _ _; omega) | (rcases h9 with h9 | h9 <;> (subst h9; show @LT.lt Nat _ _ _; omega)) | (rcases h9 with h9 | h9 | h9 <;> (subst h9; show @LT.lt Nat _ _ _; omega))) (by intro b9 h9; simp at h9; first | (subst h9; show @LT.lt Nat _ _ _; omega) | (rcases h9 with h9 | h9 <;> (subst h9; show @LT.lt Nat _ _ _; omega)) | (rcases h9 with h9 | h9 | h9 <;> (subst h9; show @LT.lt Nat _ _ _; omega))) (by decide) rfl (Nat.le_of_ble_eq_true rfl) (Nat.le_of_ble_eq_true rfl) (ct_X4 (q := 118) (by decide) (ksK (Or.inr (Or.inr (Or.inl rfl)))) (ok.up (m := 119) (by decide)) (fun k => (ok.1 _ k (by decide)).1)) ?_
  have ok_1 := seaP_ok (q := 118) (i := 24) (j := 24) (n := 172) (ok.up (m := 119) (by decide)) (by decide) (Or.inr (by decide))
  refine n_putRF (n := 172) (b := 118) (pc := 12) (ci := 2) dX2_init_12 fl_X2_12 rfl rfl rfl rfl (by decide) (by decide) ?_
  have ok_2 := (ok_1.up (m := 172) (by decide)).ur (a := 117) (b := 118) (by decide) 0 (by decide)
  refine n_aload_n (pc := 15) dX2_init_15 rfl ?_
  refine n_bipush (v := 56) (pc := 16) dX2_init_16 (by decide) ?_
  refine n_newa (n := 172) (N := 56) (kn := 20) (c' := (55, 643)) (pc := 18) dX2_init_18 (Or.inl ⟨rfl, rfl⟩) ac_i rfl (by decide) ok_2 (by decide) (by intro b9 h9; simp at h9; first | (subst h9; show @LT.lt Nat _ _ _; omega) | (rcases h9 with h9 | h9 <;> (subst h9; show @LT.lt Nat _ _ _; omega)) | (rcases h9 with h9 | h9 | h9 <;> (subst h9; show @LT.lt Nat _ _ _; omega))) (by intro b9 h9; simp at h9; first | (subst h9; show @LT.lt Nat _ _ _; omega) | (rcases h9 with h9 | h9 <;> (subst h9; show @LT.lt Nat _ _ _; omega)) | (rcases h9 with h9 | h9 | h9 <;> (subst h9; show @LT.lt Nat _ _ _; omega))) (by decide) rfl (Nat.le_of_ble_eq_true rfl) (Nat.le_of_ble_eq_true rfl) (by decide) ?_
  refine n_putRF (n := 173) (b := 172) (pc := 20) (ci := 2) dX2_init_20 fl_X2_18 rfl rfl rfl rfl (by decide) (by decide) ?_
  have ok_3 := (ok_2.up (m := 173) (by decide)).ur (a := 117) (b := 172) (by decide) 1 (by decide)
  refine n_aload_n (pc := 23) dX2_init_23 rfl ?_
  refine n_bipush (v := 24) (pc := 24) dX2_init_24 (by decide) ?_
  refine n_newa (n := 173) (N := 24) (kn := 20) (c' := (56, 667)) (pc := 26) dX2_init_26 (Or.inl ⟨rfl, rfl⟩) ac_i rfl (by decide) ok_3 (by decide) (by intro b9 h9; simp at h9; first | (subst h9; show @LT.lt Nat _ _ _; omega) | (rcases h9 with h9 | h9 <;> (subst h9; show @LT.lt Nat _ _ _; omega)) | (rcases h9 with h9 | h9 | h9 <;> (subst h9; show @LT.lt Nat _ _ _; omega))) (by intro b9 h9; simp at h9; first | (subst h9; show @LT.lt Nat _ _ _; omega) | (rcases h9 with h9 | h9 <;> (subst h9; show @LT.lt Nat _ _ _; omega)) | (rcases h9 with h9 | h9 | h9 <;> (subst h9; show @LT.lt Nat _ _ _; omega))) (by decide) rfl (Nat.le_of_ble_eq_true rfl) (Nat.le_of_ble_eq_true rfl) (by decide) ?_
  refine n_putRF (n := 174) (b := 173) (pc := 28) (ci := 2) dX2_init_28 fl_X2_22 rfl rfl rfl rfl (by decide) (by decide) ?_
  have ok_4 := (ok_3.up (m := 174) (by decide)).ur (a := 117) (b := 173) (by decide) 2 (by decide)
  refine n_aload_n (pc := 31) dX2_init_31 rfl ?_
  refine n_bipush (v := 24) (pc := 32) dX2_init_32 (by decide) ?_
  refine n_newa (n := 174) (N := 24) (kn := 20) (c' := (57, 691)) (pc := 34) dX2_init_34 (Or.inl ⟨rfl, rfl⟩) ac_i rfl (by decide) ok_4 (by decide) (by intro b9 h9; simp at h9; first | (subst h9; show @LT.lt Nat _ _ _; omega) | (rcases h9 with h9 | h9 <;> (subst h9; show @LT.lt Nat _ _ _; omega)) | (rcases h9 with h9 | h9 | h9 <;> (subst h9; show @LT.lt Nat _ _ _; omega))) (by intro b9 h9; simp at h9; first | (subst h9; show @LT.lt Nat _ _ _; omega) | (rcases h9 with h9 | h9 <;> (subst h9; show @LT.lt Nat _ _ _; omega)) | (rcases h9 with h9 | h9 | h9 <;> (subst h9; show @LT.lt Nat _ _ _; omega))) (by decide) rfl (Nat.le_of_ble_eq_true rfl) (Nat.le_of_ble_eq_true rfl) (by decide) ?_
  refine n_putRF (n := 175) (b := 174) (pc := 36) (ci := 2) dX2_init_36 fl_X2_25 rfl rfl rfl rfl (by decide) (by decide) ?_
  have ok_5 := (ok_4.up (m := 175) (by decide)).ur (a := 117) (b := 174) (by decide) 3 (by decide)
  refine n_aload_n (pc := 39) dX2_init_39 rfl ?_
  refine n_iconst (v := 0) (pc := 40) dX2_init_40 (by decide) ?_
  refine n_put0 (n := 175) (pc := 41) (ci := 2) dX2_init_41 fl_X2_28 rfl rfl (by decide) (by decide) ⟨rfl, rfl⟩ (hz 4) ?_
  exact n_ret (pc := 44) rfl rfl dX2_init_44 rfl
theorem plC_ok {x : Cn} (ok : Okx 118 x) : Okx 175 (plC x) := by
  have ok_1 := seaP_ok (q := 118) (i := 24) (j := 24) (n := 172) (ok.up (m := 119) (by decide)) (by decide) (Or.inr (by decide))
  have ok_2 := (ok_1.up (m := 172) (by decide)).ur (a := 117) (b := 118) (by decide) 0 (by decide)
  have ok_3 := (ok_2.up (m := 173) (by decide)).ur (a := 117) (b := 172) (by decide) 1 (by decide)
  have ok_4 := (ok_3.up (m := 174) (by decide)).ur (a := 117) (b := 173) (by decide) 2 (by decide)
  have ok_5 := (ok_4.up (m := 175) (by decide)).ur (a := 117) (b := 174) (by decide) 3 (by decide)
  exact ok_5
def rdC (x : Cn) : Cn := (ur (ui (ur (ur (ur (seaP 60 24 24 x) 59 0 (some 60)) 114 1 (some 115)) 59 1 (some 114)) 59 4 (-1)) 59 5 (some 116))
theorem ct_X3 {x : Cn} (ok : Okx 60 x) (hz : ∀ k, x.1 59 k = 0) : mSpN mX3_init [.ref 59] (hp (60, kwf) x) 57 637 (fun h' => h' = hp (117, kwf) (rdC x)) := by
  refine n_of (by decide) (by simp [Value.category]) (Nat.le_of_ble_eq_true rfl) rfl ?_
  show GN mX3_init 57 637 60 _ (0, 0) 0 [some (.ref 59)] [] _
  refine n_aload_n (pc := 0) dX3_init_0 rfl ?_
  refine n_objInit (pc := 1) dX3_init_1 lk_X3_3 oi_i oi_c ⟨by decide, by decide⟩ (Nat.le_of_ble_eq_true rfl) ?_
  refine n_aload_n (pc := 4) dX3_init_4 rfl ?_
  refine n_new (n := 60) (pc := 5) (ci := 4) (c' := (1, 10)) dX3_init_5 kl_X3_9 it_4 iz_4 (by decide) ok (by decide) (by intro b9 h9; simp at h9; first | (subst h9; show @LT.lt Nat _ _ _; omega) | (rcases h9 with h9 | h9 <;> (subst h9; show @LT.lt Nat _ _ _; omega)) | (rcases h9 with h9 | h9 | h9 <;> (subst h9; show @LT.lt Nat _ _ _; omega))) (by intro b9 h9; simp at h9; first | (subst h9; show @LT.lt Nat _ _ _; omega) | (rcases h9 with h9 | h9 <;> (subst h9; show @LT.lt Nat _ _ _; omega)) | (rcases h9 with h9 | h9 | h9 <;> (subst h9; show @LT.lt Nat _ _ _; omega))) (by decide) rfl (Nat.le_of_ble_eq_true rfl) (Nat.le_of_ble_eq_true rfl) (by decide) ?_
  refine n_dup (pc := 8) dX3_init_8 rfl ?_
  refine n_callI mX4_init (n := 61) (n' := 114) (pc := 9) (m1 := 53) (s1 := 577) (c' := (54, 587)) dX3_init_9 (Or.inl lk_X3_11) ii_X4_init mo_X4_init rfl rfl ⟨by decide, by decide⟩ (Nat.le_of_ble_eq_true rfl) (by intro b9 h9; simp at h9; first | (subst h9; show @LT.lt Nat _ _ _; omega) | (rcases h9 with h9 | h9 <;> (subst h9; show @LT.lt Nat _ _ _; omega)) | (rcases h9 with h9 | h9 | h9 <;> (subst h9; show @LT.lt Nat _ _ _; omega))) (by intro b9 h9; simp at h9; first | (subst h9; show @LT.lt Nat _ _ _; omega) | (rcases h9 with h9 | h9 <;> (subst h9; show @LT.lt Nat _ _ _; omega)) | (rcases h9 with h9 | h9 | h9 <;> (subst h9; show @LT.lt Nat _ _ _; omega))) (by decide) rfl (Nat.le_of_ble_eq_true rfl) (Nat.le_of_ble_eq_true rfl) (ct_X4 (q := 60) (by decide) (ksK (Or.inr (Or.inl rfl))) (ok.up (m := 61) (by decide)) (fun k => (ok.1 _ k (by decide)).1)) ?_
  have ok_1 := seaP_ok (q := 60) (i := 24) (j := 24) (n := 114) (ok.up (m := 61) (by decide)) (by decide) (Or.inr (by decide))
  refine n_putRF (n := 114) (b := 60) (pc := 12) (ci := 3) dX3_init_12 fl_X3_12 rfl rfl rfl rfl (by decide) (by decide) ?_
  have ok_2 := (ok_1.up (m := 114) (by decide)).ur (a := 59) (b := 60) (by decide) 0 (by decide)
  refine n_aload_n (pc := 15) dX3_init_15 rfl ?_
  refine n_new (n := 114) (pc := 16) (ci := 1) (c' := (55, 589)) dX3_init_16 kl_X3_18 it_1 iz_1 (by decide) ok_2 (by decide) (by intro b9 h9; simp at h9; first | (subst h9; show @LT.lt Nat _ _ _; omega) | (rcases h9 with h9 | h9 <;> (subst h9; show @LT.lt Nat _ _ _; omega)) | (rcases h9 with h9 | h9 | h9 <;> (subst h9; show @LT.lt Nat _ _ _; omega))) (by intro b9 h9; simp at h9; first | (subst h9; show @LT.lt Nat _ _ _; omega) | (rcases h9 with h9 | h9 <;> (subst h9; show @LT.lt Nat _ _ _; omega)) | (rcases h9 with h9 | h9 | h9 <;> (subst h9; show @LT.lt Nat _ _ _; omega))) (by decide) rfl (Nat.le_of_ble_eq_true rfl) (Nat.le_of_ble_eq_true rfl) (by decide) ?_
  refine n_dup (pc := 19) dX3_init_19 rfl ?_
  refine n_callI mX1_init (n := 115) (n' := 116) (pc := 20) (m1 := 1) (s1 := 48) (c' := (56, 637)) dX3_init_20 (Or.inr ⟨_, nl_X3_20⟩) ii_X1_init mo_X1_init rfl rfl ⟨by decide, by decide⟩ (Nat.le_of_ble_eq_true rfl) (by intro b9 h9; simp at h9; first | (subst h9; show @LT.lt Nat _ _ _; omega) | (rcases h9 with h9 | h9 <;> (subst h9; show @LT.lt Nat _ _ _; omega)) | (rcases h9 with h9 | h9 | h9 <;> (subst h9; show @LT.lt Nat _ _ _; omega))) (by intro b9 h9; simp at h9; first | (subst h9; show @LT.lt Nat _ _ _; omega) | (rcases h9 with h9 | h9 <;> (subst h9; show @LT.lt Nat _ _ _; omega)) | (rcases h9 with h9 | h9 | h9 <;> (subst h9; show @LT.lt Nat _ _ _; omega))) (by decide) rfl (Nat.le_of_ble_eq_true rfl) (Nat.le_of_ble_eq_true rfl) (ct_X1 (b := 114) (n := 115) (by decide) (by decide) (by decide) (by decide) (ok_2.up (m := 115) (by decide)) (fun k => (ok_2.1 _ k (by decide)).1)) ?_
  have ok_3 := (ok_2.up (m := 116) (by decide)).ur (a := 114) (b := 115) (by decide) 1 (by decide)
  refine n_putRF (n := 116) (b := 114) (pc := 23) (ci := 3) dX3_init_23 fl_X3_21 rfl rfl rfl rfl (by decide) (by decide) ?_
  have ok_4 := (ok_3.up (m := 116) (by decide)).ur (a := 59) (b := 114) (by decide) 1 (by decide)
  refine n_aload_n (pc := 26) dX3_init_26 rfl ?_
  refine n_iconst (v := 0) (pc := 27) dX3_init_27 (by decide) ?_
  refine n_put0 (n := 116) (pc := 28) (ci := 3) dX3_init_28 fl_X3_25 rfl rfl (by decide) (by decide) ⟨rfl, rfl⟩ (hz 2) ?_
  refine n_aload_n (pc := 31) dX3_init_31 rfl ?_
  refine n_iconst (v := 0) (pc := 32) dX3_init_32 (by decide) ?_
  refine n_put0 (n := 116) (pc := 33) (ci := 3) dX3_init_33 fl_X3_29 rfl rfl (by decide) (by decide) ⟨rfl, rfl⟩ (hz 3) ?_
  refine n_aload_n (pc := 36) dX3_init_36 rfl ?_
  refine n_iconst (v := (-1)) (pc := 37) dX3_init_37 (by decide) ?_
  refine n_putI (n := 116) (pc := 38) (ci := 3) dX3_init_38 fl_X3_32 rfl rfl (by decide) (by decide) ⟨rfl, rfl⟩ ?_
  have ok_5 := ok_4.ui (a := 59) (by decide) 4 (-1)
  refine n_aload_n (pc := 41) dX3_init_41 rfl ?_
  refine n_iconst (v := 0) (pc := 42) dX3_init_42 (by decide) ?_
  refine n_newa (n := 116) (N := 0) (kn := 21) (c' := (57, 637)) (pc := 43) dX3_init_43 (Or.inr ⟨rfl, rfl⟩) ac_b rfl (by decide) ok_5 (by decide) (by intro b9 h9; simp at h9; first | (subst h9; show @LT.lt Nat _ _ _; omega) | (rcases h9 with h9 | h9 <;> (subst h9; show @LT.lt Nat _ _ _; omega)) | (rcases h9 with h9 | h9 | h9 <;> (subst h9; show @LT.lt Nat _ _ _; omega))) (by intro b9 h9; simp at h9; first | (subst h9; show @LT.lt Nat _ _ _; omega) | (rcases h9 with h9 | h9 <;> (subst h9; show @LT.lt Nat _ _ _; omega)) | (rcases h9 with h9 | h9 | h9 <;> (subst h9; show @LT.lt Nat _ _ _; omega))) (by decide) rfl (Nat.le_of_ble_eq_true rfl) (Nat.le_of_ble_eq_true rfl) (by decide) ?_
  refine n_putR (n := 117) (b := 116) (pc := 45) (ci := 3) dX3_init_45 fl_X3_35 rfl rfl (by decide) (by decide) ?_
  have ok_6 := (ok_5.up (m := 117) (by decide)).ur (a := 59) (b := 116) (by decide) 5 (by decide)
  refine n_aload_n (pc := 48) dX3_init_48 rfl ?_
  refine n_iconst (v := 0) (pc := 49) dX3_init_49 (by decide) ?_
  refine n_put0 (n := 117) (pc := 50) (ci := 3) dX3_init_50 fl_X3_39 rfl rfl (by decide) (by decide) ⟨rfl, rfl⟩ (uiz (a := 59) (k := 4) (v := -1) (by decide) (hz 6)) ?_
  refine n_aload_n (pc := 53) dX3_init_53 rfl ?_
  refine n_iconst (v := 0) (pc := 54) dX3_init_54 (by decide) ?_
  refine n_put0 (n := 117) (pc := 55) (ci := 3) dX3_init_55 fl_X3_42 rfl rfl (by decide) (by decide) ⟨rfl, rfl⟩ (uiz (a := 59) (k := 4) (v := -1) (by decide) (hz 7)) ?_
  refine n_aload_n (pc := 58) dX3_init_58 rfl ?_
  refine n_iconst (v := 0) (pc := 59) dX3_init_59 (by decide) ?_
  refine n_put0 (n := 117) (pc := 60) (ci := 3) dX3_init_60 fl_X3_45 rfl rfl (by decide) (by decide) ⟨rfl, rfl⟩ (uiz (a := 59) (k := 4) (v := -1) (by decide) (hz 8)) ?_
  refine n_aload_n (pc := 63) dX3_init_63 rfl ?_
  refine n_iconst (v := 0) (pc := 64) dX3_init_64 (by decide) ?_
  refine n_put0 (n := 117) (pc := 65) (ci := 3) dX3_init_65 fl_X3_48 rfl rfl (by decide) (by decide) ⟨rfl, rfl⟩ (uiz (a := 59) (k := 4) (v := -1) (by decide) (hz 9)) ?_
  refine n_aload_n (pc := 68) dX3_init_68 rfl ?_
  refine n_iconst (v := 0) (pc := 69) dX3_init_69 (by decide) ?_
  refine n_put0 (n := 117) (pc := 70) (ci := 3) dX3_init_70 fl_X3_51 rfl rfl (by decide) (by decide) ⟨rfl, rfl⟩ (uiz (a := 59) (k := 4) (v := -1) (by decide) (hz 10)) ?_
  refine n_aload_n (pc := 73) dX3_init_73 rfl ?_
  refine n_iconst (v := 0) (pc := 74) dX3_init_74 (by decide) ?_
  refine n_put0 (n := 117) (pc := 75) (ci := 3) dX3_init_75 fl_X3_54 rfl rfl (by decide) (by decide) ⟨rfl, rfl⟩ (uiz (a := 59) (k := 4) (v := -1) (by decide) (hz 11)) ?_
  refine n_aload_n (pc := 78) dX3_init_78 rfl ?_
  refine n_iconst (v := 0) (pc := 79) dX3_init_79 (by decide) ?_
  refine n_put0 (n := 117) (pc := 80) (ci := 3) dX3_init_80 fl_X3_57 rfl rfl (by decide) (by decide) ⟨rfl, rfl⟩ (uiz (a := 59) (k := 4) (v := -1) (by decide) (hz 12)) ?_
  refine n_aload_n (pc := 83) dX3_init_83 rfl ?_
  refine n_iconst (v := 0) (pc := 84) dX3_init_84 (by decide) ?_
  refine n_put0 (n := 117) (pc := 85) (ci := 3) dX3_init_85 fl_X3_60 rfl rfl (by decide) (by decide) ⟨rfl, rfl⟩ (uiz (a := 59) (k := 4) (v := -1) (by decide) (hz 13)) ?_
  refine n_aload_n (pc := 88) dX3_init_88 rfl ?_
  refine n_iconst (v := 0) (pc := 89) dX3_init_89 (by decide) ?_
  refine n_put0 (n := 117) (pc := 90) (ci := 3) dX3_init_90 fl_X3_63 rfl rfl (by decide) (by decide) ⟨rfl, rfl⟩ (uiz (a := 59) (k := 4) (v := -1) (by decide) (hz 14)) ?_
  refine n_aload_n (pc := 93) dX3_init_93 rfl ?_
  refine n_iconst (v := 0) (pc := 94) dX3_init_94 (by decide) ?_
  refine n_put0 (n := 117) (pc := 95) (ci := 3) dX3_init_95 fl_X3_66 rfl rfl (by decide) (by decide) ⟨rfl, rfl⟩ (uiz (a := 59) (k := 4) (v := -1) (by decide) (hz 15)) ?_
  refine n_aload_n (pc := 98) dX3_init_98 rfl ?_
  refine n_iconst (v := 0) (pc := 99) dX3_init_99 (by decide) ?_
  refine n_put0 (n := 117) (pc := 100) (ci := 3) dX3_init_100 fl_X3_69 rfl rfl (by decide) (by decide) ⟨rfl, rfl⟩ (uiz (a := 59) (k := 4) (v := -1) (by decide) (hz 16)) ?_
  refine n_aload_n (pc := 103) dX3_init_103 rfl ?_
  refine n_iconst (v := 0) (pc := 104) dX3_init_104 (by decide) ?_
  refine n_put0 (n := 117) (pc := 105) (ci := 3) dX3_init_105 fl_X3_72 rfl rfl (by decide) (by decide) ⟨rfl, rfl⟩ (uiz (a := 59) (k := 4) (v := -1) (by decide) (hz 17)) ?_
  exact n_ret (pc := 108) rfl rfl dX3_init_108 rfl
theorem rdC_ok {x : Cn} (ok : Okx 60 x) : Okx 117 (rdC x) := by
  have ok_1 := seaP_ok (q := 60) (i := 24) (j := 24) (n := 114) (ok.up (m := 61) (by decide)) (by decide) (Or.inr (by decide))
  have ok_2 := (ok_1.up (m := 114) (by decide)).ur (a := 59) (b := 60) (by decide) 0 (by decide)
  have ok_3 := (ok_2.up (m := 116) (by decide)).ur (a := 114) (b := 115) (by decide) 1 (by decide)
  have ok_4 := (ok_3.up (m := 116) (by decide)).ur (a := 59) (b := 114) (by decide) 1 (by decide)
  have ok_5 := ok_4.ui (a := 59) (by decide) 4 (-1)
  have ok_6 := (ok_5.up (m := 117) (by decide)).ur (a := 59) (b := 116) (by decide) 5 (by decide)
  exact ok_6
def clC (x : Cn) : Cn := (ur (seaP 663 24 24 (ur (seaP 609 24 24 (ur (seaP 555 24 24 (ur (seaP 501 24 24 (ur (seaP 447 24 24 (ur (seaP 393 24 24 (ur (seaP 339 24 24 (ur (seaP 285 24 24 (ur (seaP 231 24 24 (ur (seaP 177 24 24 (ur (ur (ur (plC (ui (ur (rdC (ur (ur (ur (ur (seaP 2 24 24 (ur x 0 0 (some 1))) 0 2 (some 2)) 56 1 (some 57)) 0 3 (some 56)) 0 4 (some 58))) 0 6 (some 59)) 0 8 (-1))) 0 9 (some 117)) 175 0 (some 176)) 0 10 (some 175))) 58 0 (some 177))) 58 1 (some 231))) 58 2 (some 285))) 58 3 (some 339))) 58 4 (some 393))) 58 5 (some 447))) 58 6 (some 501))) 58 7 (some 555))) 58 8 (some 609))) 58 9 (some 663))
theorem ct_X7 {x : Cn} (ok : Okx 1 x) (hz : ∀ k, x.1 0 k = 0) : mSpN mX7_init [.ref 0] (hp (1, kwf) x) 716 11470 (fun h' => h' = hp (717, kwf) (clC x)) := by
  refine n_of (by decide) (by simp [Value.category]) (Nat.le_of_ble_eq_true rfl) rfl ?_
  show GN mX7_init 716 11470 1 _ (0, 0) 0 [some (.ref 0), none] [] _
  refine n_aload_n (pc := 0) dX7_init_0 rfl ?_
  refine n_objInit (pc := 1) dX7_init_1 lk_X7_1 oi_i oi_c ⟨by decide, by decide⟩ (Nat.le_of_ble_eq_true rfl) ?_
  refine n_aload_n (pc := 4) dX7_init_4 rfl ?_
  refine n_sipush (v := 1200) (pc := 5) dX7_init_5 (by decide) ?_
  refine n_newa (n := 1) (N := 1200) (kn := 21) (c' := (1, 1200)) (pc := 8) dX7_init_8 (Or.inr ⟨rfl, rfl⟩) ac_b rfl (by decide) ok (by decide) (by intro b9 h9; simp at h9; first | (subst h9; show @LT.lt Nat _ _ _; omega) | (rcases h9 with h9 | h9 <;> (subst h9; show @LT.lt Nat _ _ _; omega)) | (rcases h9 with h9 | h9 | h9 <;> (subst h9; show @LT.lt Nat _ _ _; omega))) (by intro b9 h9; simp at h9; first | (subst h9; show @LT.lt Nat _ _ _; omega) | (rcases h9 with h9 | h9 <;> (subst h9; show @LT.lt Nat _ _ _; omega)) | (rcases h9 with h9 | h9 | h9 <;> (subst h9; show @LT.lt Nat _ _ _; omega))) (by decide) rfl (Nat.le_of_ble_eq_true rfl) (Nat.le_of_ble_eq_true rfl) (by decide) ?_
  refine n_putRF (n := 2) (b := 1) (pc := 10) (ci := 7) dX7_init_10 fl_X7_9 rfl rfl rfl rfl (by decide) (by decide) ?_
  have ok_1 := (ok.up (m := 2) (by decide)).ur (a := 0) (b := 1) (by decide) 0 (by decide)
  refine n_aload_n (pc := 13) dX7_init_13 rfl ?_
  refine n_iconst (v := 0) (pc := 14) dX7_init_14 (by decide) ?_
  refine n_put0 (n := 2) (pc := 15) (ci := 7) dX7_init_15 fl_X7_13 rfl rfl (by decide) (by decide) ⟨rfl, rfl⟩ (hz 1) ?_
  refine n_aload_n (pc := 18) dX7_init_18 rfl ?_
  refine n_new (n := 2) (pc := 19) (ci := 4) (c' := (2, 1210)) dX7_init_19 kl_X7_17 it_4 iz_4 (by decide) ok_1 (by decide) (by intro b9 h9; simp at h9; first | (subst h9; show @LT.lt Nat _ _ _; omega) | (rcases h9 with h9 | h9 <;> (subst h9; show @LT.lt Nat _ _ _; omega)) | (rcases h9 with h9 | h9 | h9 <;> (subst h9; show @LT.lt Nat _ _ _; omega))) (by intro b9 h9; simp at h9; first | (subst h9; show @LT.lt Nat _ _ _; omega) | (rcases h9 with h9 | h9 <;> (subst h9; show @LT.lt Nat _ _ _; omega)) | (rcases h9 with h9 | h9 | h9 <;> (subst h9; show @LT.lt Nat _ _ _; omega))) (by decide) rfl (Nat.le_of_ble_eq_true rfl) (Nat.le_of_ble_eq_true rfl) (by decide) ?_
  refine n_dup (pc := 22) dX7_init_22 rfl ?_
  refine n_callI mX4_init (n := 3) (n' := 56) (pc := 23) (m1 := 53) (s1 := 577) (c' := (55, 1787)) dX7_init_23 (Or.inl lk_X7_19) ii_X4_init mo_X4_init rfl rfl ⟨by decide, by decide⟩ (Nat.le_of_ble_eq_true rfl) (by intro b9 h9; simp at h9; first | (subst h9; show @LT.lt Nat _ _ _; omega) | (rcases h9 with h9 | h9 <;> (subst h9; show @LT.lt Nat _ _ _; omega)) | (rcases h9 with h9 | h9 | h9 <;> (subst h9; show @LT.lt Nat _ _ _; omega))) (by intro b9 h9; simp at h9; first | (subst h9; show @LT.lt Nat _ _ _; omega) | (rcases h9 with h9 | h9 <;> (subst h9; show @LT.lt Nat _ _ _; omega)) | (rcases h9 with h9 | h9 | h9 <;> (subst h9; show @LT.lt Nat _ _ _; omega))) (by decide) rfl (Nat.le_of_ble_eq_true rfl) (Nat.le_of_ble_eq_true rfl) (ct_X4 (q := 2) (by decide) (ksK (Or.inl rfl)) (ok_1.up (m := 3) (by decide)) (fun k => (ok_1.1 _ k (by decide)).1)) ?_
  have ok_2 := seaP_ok (q := 2) (i := 24) (j := 24) (n := 56) (ok_1.up (m := 3) (by decide)) (by decide) (Or.inr (by decide))
  refine n_putRF (n := 56) (b := 2) (pc := 26) (ci := 7) dX7_init_26 fl_X7_20 rfl rfl rfl rfl (by decide) (by decide) ?_
  have ok_3 := (ok_2.up (m := 56) (by decide)).ur (a := 0) (b := 2) (by decide) 2 (by decide)
  refine n_aload_n (pc := 29) dX7_init_29 rfl ?_
  refine n_new (n := 56) (pc := 30) (ci := 1) (c' := (56, 1789)) dX7_init_30 kl_X7_24 it_1 iz_1 (by decide) ok_3 (by decide) (by intro b9 h9; simp at h9; first | (subst h9; show @LT.lt Nat _ _ _; omega) | (rcases h9 with h9 | h9 <;> (subst h9; show @LT.lt Nat _ _ _; omega)) | (rcases h9 with h9 | h9 | h9 <;> (subst h9; show @LT.lt Nat _ _ _; omega))) (by intro b9 h9; simp at h9; first | (subst h9; show @LT.lt Nat _ _ _; omega) | (rcases h9 with h9 | h9 <;> (subst h9; show @LT.lt Nat _ _ _; omega)) | (rcases h9 with h9 | h9 | h9 <;> (subst h9; show @LT.lt Nat _ _ _; omega))) (by decide) rfl (Nat.le_of_ble_eq_true rfl) (Nat.le_of_ble_eq_true rfl) (by decide) ?_
  refine n_dup (pc := 33) dX7_init_33 rfl ?_
  refine n_callI mX1_init (n := 57) (n' := 58) (pc := 34) (m1 := 1) (s1 := 48) (c' := (57, 1837)) dX7_init_34 (Or.inr ⟨_, nl_X7_26⟩) ii_X1_init mo_X1_init rfl rfl ⟨by decide, by decide⟩ (Nat.le_of_ble_eq_true rfl) (by intro b9 h9; simp at h9; first | (subst h9; show @LT.lt Nat _ _ _; omega) | (rcases h9 with h9 | h9 <;> (subst h9; show @LT.lt Nat _ _ _; omega)) | (rcases h9 with h9 | h9 | h9 <;> (subst h9; show @LT.lt Nat _ _ _; omega))) (by intro b9 h9; simp at h9; first | (subst h9; show @LT.lt Nat _ _ _; omega) | (rcases h9 with h9 | h9 <;> (subst h9; show @LT.lt Nat _ _ _; omega)) | (rcases h9 with h9 | h9 | h9 <;> (subst h9; show @LT.lt Nat _ _ _; omega))) (by decide) rfl (Nat.le_of_ble_eq_true rfl) (Nat.le_of_ble_eq_true rfl) (ct_X1 (b := 56) (n := 57) (by decide) (by decide) (by decide) (by decide) (ok_3.up (m := 57) (by decide)) (fun k => (ok_3.1 _ k (by decide)).1)) ?_
  have ok_4 := (ok_3.up (m := 58) (by decide)).ur (a := 56) (b := 57) (by decide) 1 (by decide)
  refine n_putRF (n := 58) (b := 56) (pc := 37) (ci := 7) dX7_init_37 fl_X7_27 rfl rfl rfl rfl (by decide) (by decide) ?_
  have ok_5 := (ok_4.up (m := 58) (by decide)).ur (a := 0) (b := 56) (by decide) 3 (by decide)
  refine n_aload_n (pc := 40) dX7_init_40 rfl ?_
  refine n_bipush (v := 10) (pc := 41) dX7_init_41 (by decide) ?_
  refine n_anew (n := 58) (N := 10) (kn := 22) (c' := (58, 1847)) (pc := 43) dX7_init_43 kl_X7_17 (Or.inl ⟨rfl, rfl⟩) rfl (by decide) ok_5 (by decide) (by intro b9 h9; simp at h9; first | (subst h9; show @LT.lt Nat _ _ _; omega) | (rcases h9 with h9 | h9 <;> (subst h9; show @LT.lt Nat _ _ _; omega)) | (rcases h9 with h9 | h9 | h9 <;> (subst h9; show @LT.lt Nat _ _ _; omega))) (by intro b9 h9; simp at h9; first | (subst h9; show @LT.lt Nat _ _ _; omega) | (rcases h9 with h9 | h9 <;> (subst h9; show @LT.lt Nat _ _ _; omega)) | (rcases h9 with h9 | h9 | h9 <;> (subst h9; show @LT.lt Nat _ _ _; omega))) (by decide) rfl (Nat.le_of_ble_eq_true rfl) (Nat.le_of_ble_eq_true rfl) (by decide) ?_
  refine n_putRF (n := 59) (b := 58) (pc := 46) (ci := 7) dX7_init_46 fl_X7_31 rfl rfl rfl rfl (by decide) (by decide) ?_
  have ok_6 := (ok_5.up (m := 59) (by decide)).ur (a := 0) (b := 58) (by decide) 4 (by decide)
  refine n_aload_n (pc := 49) dX7_init_49 rfl ?_
  refine n_iconst (v := 0) (pc := 50) dX7_init_50 (by decide) ?_
  refine n_put0 (n := 59) (pc := 51) (ci := 7) dX7_init_51 fl_X7_35 rfl rfl (by decide) (by decide) ⟨rfl, rfl⟩ (hz 5) ?_
  refine n_aload_n (pc := 54) dX7_init_54 rfl ?_
  refine n_new (n := 59) (pc := 55) (ci := 3) (c' := (59, 1865)) dX7_init_55 kl_X7_38 it_3 iz_3 (by decide) ok_6 (by decide) (by intro b9 h9; simp at h9; first | (subst h9; show @LT.lt Nat _ _ _; omega) | (rcases h9 with h9 | h9 <;> (subst h9; show @LT.lt Nat _ _ _; omega)) | (rcases h9 with h9 | h9 | h9 <;> (subst h9; show @LT.lt Nat _ _ _; omega))) (by intro b9 h9; simp at h9; first | (subst h9; show @LT.lt Nat _ _ _; omega) | (rcases h9 with h9 | h9 <;> (subst h9; show @LT.lt Nat _ _ _; omega)) | (rcases h9 with h9 | h9 | h9 <;> (subst h9; show @LT.lt Nat _ _ _; omega))) (by decide) rfl (Nat.le_of_ble_eq_true rfl) (Nat.le_of_ble_eq_true rfl) (by decide) ?_
  refine n_dup (pc := 58) dX7_init_58 rfl ?_
  refine n_callI mX3_init (n := 60) (n' := 117) (pc := 59) (m1 := 57) (s1 := 637) (c' := (116, 2502)) dX7_init_59 (Or.inr ⟨_, nl_X7_40⟩) ii_X3_init mo_X3_init rfl rfl ⟨by decide, by decide⟩ (Nat.le_of_ble_eq_true rfl) (by intro b9 h9; simp at h9; first | (subst h9; show @LT.lt Nat _ _ _; omega) | (rcases h9 with h9 | h9 <;> (subst h9; show @LT.lt Nat _ _ _; omega)) | (rcases h9 with h9 | h9 | h9 <;> (subst h9; show @LT.lt Nat _ _ _; omega))) (by intro b9 h9; simp at h9; first | (subst h9; show @LT.lt Nat _ _ _; omega) | (rcases h9 with h9 | h9 <;> (subst h9; show @LT.lt Nat _ _ _; omega)) | (rcases h9 with h9 | h9 | h9 <;> (subst h9; show @LT.lt Nat _ _ _; omega))) (by decide) rfl (Nat.le_of_ble_eq_true rfl) (Nat.le_of_ble_eq_true rfl) (ct_X3 (ok_6.up (m := 60) (by decide)) (fun k => (ok_6.1 _ k (by decide)).1)) ?_
  have ok_7 := rdC_ok (ok_6.up (m := 60) (by decide))
  refine n_putRF (n := 117) (b := 59) (pc := 62) (ci := 7) dX7_init_62 fl_X7_41 rfl rfl rfl rfl (by decide) (by decide) ?_
  have ok_8 := (ok_7.up (m := 117) (by decide)).ur (a := 0) (b := 59) (by decide) 6 (by decide)
  refine n_aload_n (pc := 65) dX7_init_65 rfl ?_
  refine n_iconst (v := 0) (pc := 66) dX7_init_66 (by decide) ?_
  refine n_put0 (n := 117) (pc := 67) (ci := 7) dX7_init_67 fl_X7_45 rfl rfl (by decide) (by decide) ⟨rfl, rfl⟩ (uiz (a := 59) (k := 4) (v := -1) (by decide) (hz 7)) ?_
  refine n_aload_n (pc := 70) dX7_init_70 rfl ?_
  refine n_iconst (v := (-1)) (pc := 71) dX7_init_71 (by decide) ?_
  refine n_putI (n := 117) (pc := 72) (ci := 7) dX7_init_72 fl_X7_48 rfl rfl (by decide) (by decide) ⟨rfl, rfl⟩ ?_
  have ok_9 := ok_8.ui (a := 0) (by decide) 8 (-1)
  refine n_aload_n (pc := 75) dX7_init_75 rfl ?_
  refine n_new (n := 117) (pc := 76) (ci := 2) (c' := (117, 2507)) dX7_init_76 kl_X7_51 it_2 iz_2 (by decide) ok_9 (by decide) (by intro b9 h9; simp at h9; first | (subst h9; show @LT.lt Nat _ _ _; omega) | (rcases h9 with h9 | h9 <;> (subst h9; show @LT.lt Nat _ _ _; omega)) | (rcases h9 with h9 | h9 | h9 <;> (subst h9; show @LT.lt Nat _ _ _; omega))) (by intro b9 h9; simp at h9; first | (subst h9; show @LT.lt Nat _ _ _; omega) | (rcases h9 with h9 | h9 <;> (subst h9; show @LT.lt Nat _ _ _; omega)) | (rcases h9 with h9 | h9 | h9 <;> (subst h9; show @LT.lt Nat _ _ _; omega))) (by decide) rfl (Nat.le_of_ble_eq_true rfl) (Nat.le_of_ble_eq_true rfl) (by decide) ?_
  refine n_dup (pc := 79) dX7_init_79 rfl ?_
  refine n_callI mX2_init (n := 118) (n' := 175) (pc := 80) (m1 := 57) (s1 := 691) (c' := (174, 3198)) dX7_init_80 (Or.inr ⟨_, nl_X7_53⟩) ii_X2_init mo_X2_init rfl rfl ⟨by decide, by decide⟩ (Nat.le_of_ble_eq_true rfl) (by intro b9 h9; simp at h9; first | (subst h9; show @LT.lt Nat _ _ _; omega) | (rcases h9 with h9 | h9 <;> (subst h9; show @LT.lt Nat _ _ _; omega)) | (rcases h9 with h9 | h9 | h9 <;> (subst h9; show @LT.lt Nat _ _ _; omega))) (by intro b9 h9; simp at h9; first | (subst h9; show @LT.lt Nat _ _ _; omega) | (rcases h9 with h9 | h9 <;> (subst h9; show @LT.lt Nat _ _ _; omega)) | (rcases h9 with h9 | h9 | h9 <;> (subst h9; show @LT.lt Nat _ _ _; omega))) (by decide) rfl (Nat.le_of_ble_eq_true rfl) (Nat.le_of_ble_eq_true rfl) (ct_X2 (ok_9.up (m := 118) (by decide)) (fun k => (ok_9.1 _ k (by decide)).1)) ?_
  have ok_10 := plC_ok (ok_9.up (m := 118) (by decide))
  refine n_putRF (n := 175) (b := 117) (pc := 83) (ci := 7) dX7_init_83 fl_X7_54 rfl rfl rfl rfl (by decide) (by decide) ?_
  have ok_11 := (ok_10.up (m := 175) (by decide)).ur (a := 0) (b := 117) (by decide) 9 (by decide)
  refine n_aload_n (pc := 86) dX7_init_86 rfl ?_
  refine n_new (n := 175) (pc := 87) (ci := 6) (c' := (175, 3200)) dX7_init_87 kl_X7_58 it_6 iz_6 (by decide) ok_11 (by decide) (by intro b9 h9; simp at h9; first | (subst h9; show @LT.lt Nat _ _ _; omega) | (rcases h9 with h9 | h9 <;> (subst h9; show @LT.lt Nat _ _ _; omega)) | (rcases h9 with h9 | h9 | h9 <;> (subst h9; show @LT.lt Nat _ _ _; omega))) (by intro b9 h9; simp at h9; first | (subst h9; show @LT.lt Nat _ _ _; omega) | (rcases h9 with h9 | h9 <;> (subst h9; show @LT.lt Nat _ _ _; omega)) | (rcases h9 with h9 | h9 | h9 <;> (subst h9; show @LT.lt Nat _ _ _; omega))) (by decide) rfl (Nat.le_of_ble_eq_true rfl) (Nat.le_of_ble_eq_true rfl) (by decide) ?_
  refine n_dup (pc := 90) dX7_init_90 rfl ?_
  refine n_callI mX6_init (n := 176) (n' := 177) (pc := 91) (m1 := 1) (s1 := 2400) (c' := (176, 5600)) dX7_init_91 (Or.inr ⟨_, nl_X7_60⟩) ii_X6_init mo_X6_init rfl rfl ⟨by decide, by decide⟩ (Nat.le_of_ble_eq_true rfl) (by intro b9 h9; simp at h9; first | (subst h9; show @LT.lt Nat _ _ _; omega) | (rcases h9 with h9 | h9 <;> (subst h9; show @LT.lt Nat _ _ _; omega)) | (rcases h9 with h9 | h9 | h9 <;> (subst h9; show @LT.lt Nat _ _ _; omega))) (by intro b9 h9; simp at h9; first | (subst h9; show @LT.lt Nat _ _ _; omega) | (rcases h9 with h9 | h9 <;> (subst h9; show @LT.lt Nat _ _ _; omega)) | (rcases h9 with h9 | h9 | h9 <;> (subst h9; show @LT.lt Nat _ _ _; omega))) (by decide) rfl (Nat.le_of_ble_eq_true rfl) (Nat.le_of_ble_eq_true rfl) (ct_X6 (b := 175) (n := 176) (by decide) (by decide) (by decide) (by decide) (ok_11.up (m := 176) (by decide)) (fun k => (ok_11.1 _ k (by decide)).1)) ?_
  have ok_12 := (ok_11.up (m := 177) (by decide)).ur (a := 175) (b := 176) (by decide) 0 (by decide)
  refine n_putRF (n := 177) (b := 175) (pc := 94) (ci := 7) dX7_init_94 fl_X7_61 rfl rfl rfl rfl (by decide) (by decide) ?_
  have ok_13 := (ok_12.up (m := 177) (by decide)).ur (a := 0) (b := 175) (by decide) 10 (by decide)
  refine n_iconst (v := 0) (pc := 97) dX7_init_97 (by decide) ?_
  refine n_istore_n (pc := 98) dX7_init_98 (by decide) ?_
  refine n_iload_n (pc := 99) dX7_init_99 rfl ?_
  refine n_bipush (v := 10) (pc := 100) dX7_init_100 (by decide) ?_
  refine n_icmp_ge (pc := 102) (tgt := 124) dX7_init_102 (by decide) (fun z => absurd z (by decide)) (fun _ => ?_)
  refine n_aload_n (pc := 105) dX7_init_105 rfl ?_
  refine n_getR (n := 177) (b := 58) (pc := 106) (ci := 7) dX7_init_106 fl_X7_31 rfl (by decide) (by decide) (by rfl) ?_
  refine n_iload_n (pc := 109) dX7_init_109 rfl ?_
  refine n_new (n := 177) (pc := 110) (ci := 4) (c' := (177, 5610)) dX7_init_110 kl_X7_17 it_4 iz_4 (by decide) ok_13 (by decide) (by intro b9 h9; simp at h9; first | (subst h9; show @LT.lt Nat _ _ _; omega) | (rcases h9 with h9 | h9 <;> (subst h9; show @LT.lt Nat _ _ _; omega)) | (rcases h9 with h9 | h9 | h9 <;> (subst h9; show @LT.lt Nat _ _ _; omega))) (by intro b9 h9; simp at h9; first | (subst h9; show @LT.lt Nat _ _ _; omega) | (rcases h9 with h9 | h9 <;> (subst h9; show @LT.lt Nat _ _ _; omega)) | (rcases h9 with h9 | h9 | h9 <;> (subst h9; show @LT.lt Nat _ _ _; omega))) (by decide) rfl (Nat.le_of_ble_eq_true rfl) (Nat.le_of_ble_eq_true rfl) (by decide) ?_
  refine n_dup (pc := 113) dX7_init_113 rfl ?_
  refine n_callI mX4_init (n := 178) (n' := 231) (pc := 114) (m1 := 53) (s1 := 577) (c' := (230, 6187)) dX7_init_114 (Or.inl lk_X7_19) ii_X4_init mo_X4_init rfl rfl ⟨by decide, by decide⟩ (Nat.le_of_ble_eq_true rfl) (by intro b9 h9; simp at h9; first | (subst h9; show @LT.lt Nat _ _ _; omega) | (rcases h9 with h9 | h9 <;> (subst h9; show @LT.lt Nat _ _ _; omega)) | (rcases h9 with h9 | h9 | h9 <;> (subst h9; show @LT.lt Nat _ _ _; omega))) (by intro b9 h9; simp at h9; first | (subst h9; show @LT.lt Nat _ _ _; omega) | (rcases h9 with h9 | h9 <;> (subst h9; show @LT.lt Nat _ _ _; omega)) | (rcases h9 with h9 | h9 | h9 <;> (subst h9; show @LT.lt Nat _ _ _; omega))) (by decide) rfl (Nat.le_of_ble_eq_true rfl) (Nat.le_of_ble_eq_true rfl) (ct_X4 (q := 177) (by decide) (ksK (Or.inr (Or.inr (Or.inr ⟨0, by decide, rfl⟩)))) (ok_13.up (m := 178) (by decide)) (fun k => (ok_13.1 _ k (by decide)).1)) ?_
  have ok_14 := seaP_ok (q := 177) (i := 24) (j := 24) (n := 231) (ok_13.up (m := 178) (by decide)) (by decide) (Or.inr (by decide))
  refine n_aast (n := 231) (pc := 117) (ci := 22) (N := 10) (cj := 4) (nb := 0) (j := 0) dX7_init_117 (by decide) (by decide) (by decide) (by decide) rfl (by decide) (by decide) (iv0 0 10 (by decide) (by decide) (by decide)) (by decide) ?_
  have ok_15 := (ok_14.up (m := 231) (by decide)).ur (a := 58) (b := 177) (by decide) 0 (by decide)
  refine n_iinc (pc := 118) (w := 1) dX7_init_118 rfl (by decide) (by decide) ?_
  refine n_goto (pc := 121) (tgt := 99) dX7_init_121 (by decide) ?_
  refine n_iload_n (pc := 99) dX7_init_99 rfl ?_
  refine n_bipush (v := 10) (pc := 100) dX7_init_100 (by decide) ?_
  refine n_icmp_ge (pc := 102) (tgt := 124) dX7_init_102 (by decide) (fun z => absurd z (by decide)) (fun _ => ?_)
  refine n_aload_n (pc := 105) dX7_init_105 rfl ?_
  refine n_getR (n := 231) (b := 58) (pc := 106) (ci := 7) dX7_init_106 fl_X7_31 rfl (by decide) (by decide) (by rfl) ?_
  refine n_iload_n (pc := 109) dX7_init_109 rfl ?_
  refine n_new (n := 231) (pc := 110) (ci := 4) (c' := (231, 6197)) dX7_init_110 kl_X7_17 it_4 iz_4 (by decide) ok_15 (by decide) (by intro b9 h9; simp at h9; first | (subst h9; show @LT.lt Nat _ _ _; omega) | (rcases h9 with h9 | h9 <;> (subst h9; show @LT.lt Nat _ _ _; omega)) | (rcases h9 with h9 | h9 | h9 <;> (subst h9; show @LT.lt Nat _ _ _; omega))) (by intro b9 h9; simp at h9; first | (subst h9; show @LT.lt Nat _ _ _; omega) | (rcases h9 with h9 | h9 <;> (subst h9; show @LT.lt Nat _ _ _; omega)) | (rcases h9 with h9 | h9 | h9 <;> (subst h9; show @LT.lt Nat _ _ _; omega))) (by decide) rfl (Nat.le_of_ble_eq_true rfl) (Nat.le_of_ble_eq_true rfl) (by decide) ?_
  refine n_dup (pc := 113) dX7_init_113 rfl ?_
  refine n_callI mX4_init (n := 232) (n' := 285) (pc := 114) (m1 := 53) (s1 := 577) (c' := (284, 6774)) dX7_init_114 (Or.inl lk_X7_19) ii_X4_init mo_X4_init rfl rfl ⟨by decide, by decide⟩ (Nat.le_of_ble_eq_true rfl) (by intro b9 h9; simp at h9; first | (subst h9; show @LT.lt Nat _ _ _; omega) | (rcases h9 with h9 | h9 <;> (subst h9; show @LT.lt Nat _ _ _; omega)) | (rcases h9 with h9 | h9 | h9 <;> (subst h9; show @LT.lt Nat _ _ _; omega))) (by intro b9 h9; simp at h9; first | (subst h9; show @LT.lt Nat _ _ _; omega) | (rcases h9 with h9 | h9 <;> (subst h9; show @LT.lt Nat _ _ _; omega)) | (rcases h9 with h9 | h9 | h9 <;> (subst h9; show @LT.lt Nat _ _ _; omega))) (by decide) rfl (Nat.le_of_ble_eq_true rfl) (Nat.le_of_ble_eq_true rfl) (ct_X4 (q := 231) (by decide) (ksK (Or.inr (Or.inr (Or.inr ⟨1, by decide, rfl⟩)))) (ok_15.up (m := 232) (by decide)) (fun k => (ok_15.1 _ k (by decide)).1)) ?_
  have ok_16 := seaP_ok (q := 231) (i := 24) (j := 24) (n := 285) (ok_15.up (m := 232) (by decide)) (by decide) (Or.inr (by decide))
  refine n_aast (n := 285) (pc := 117) (ci := 22) (N := 10) (cj := 4) (nb := 0) (j := 1) dX7_init_117 (by decide) (by decide) (by decide) (by decide) rfl (by decide) (by decide) (iv0 1 10 (by decide) (by decide) (by decide)) (by decide) ?_
  have ok_17 := (ok_16.up (m := 285) (by decide)).ur (a := 58) (b := 231) (by decide) 1 (by decide)
  refine n_iinc (pc := 118) (w := 2) dX7_init_118 rfl (by decide) (by decide) ?_
  refine n_goto (pc := 121) (tgt := 99) dX7_init_121 (by decide) ?_
  refine n_iload_n (pc := 99) dX7_init_99 rfl ?_
  refine n_bipush (v := 10) (pc := 100) dX7_init_100 (by decide) ?_
  refine n_icmp_ge (pc := 102) (tgt := 124) dX7_init_102 (by decide) (fun z => absurd z (by decide)) (fun _ => ?_)
  refine n_aload_n (pc := 105) dX7_init_105 rfl ?_
  refine n_getR (n := 285) (b := 58) (pc := 106) (ci := 7) dX7_init_106 fl_X7_31 rfl (by decide) (by decide) (by rfl) ?_
  refine n_iload_n (pc := 109) dX7_init_109 rfl ?_
  refine n_new (n := 285) (pc := 110) (ci := 4) (c' := (285, 6784)) dX7_init_110 kl_X7_17 it_4 iz_4 (by decide) ok_17 (by decide) (by intro b9 h9; simp at h9; first | (subst h9; show @LT.lt Nat _ _ _; omega) | (rcases h9 with h9 | h9 <;> (subst h9; show @LT.lt Nat _ _ _; omega)) | (rcases h9 with h9 | h9 | h9 <;> (subst h9; show @LT.lt Nat _ _ _; omega))) (by intro b9 h9; simp at h9; first | (subst h9; show @LT.lt Nat _ _ _; omega) | (rcases h9 with h9 | h9 <;> (subst h9; show @LT.lt Nat _ _ _; omega)) | (rcases h9 with h9 | h9 | h9 <;> (subst h9; show @LT.lt Nat _ _ _; omega))) (by decide) rfl (Nat.le_of_ble_eq_true rfl) (Nat.le_of_ble_eq_true rfl) (by decide) ?_
  refine n_dup (pc := 113) dX7_init_113 rfl ?_
  refine n_callI mX4_init (n := 286) (n' := 339) (pc := 114) (m1 := 53) (s1 := 577) (c' := (338, 7361)) dX7_init_114 (Or.inl lk_X7_19) ii_X4_init mo_X4_init rfl rfl ⟨by decide, by decide⟩ (Nat.le_of_ble_eq_true rfl) (by intro b9 h9; simp at h9; first | (subst h9; show @LT.lt Nat _ _ _; omega) | (rcases h9 with h9 | h9 <;> (subst h9; show @LT.lt Nat _ _ _; omega)) | (rcases h9 with h9 | h9 | h9 <;> (subst h9; show @LT.lt Nat _ _ _; omega))) (by intro b9 h9; simp at h9; first | (subst h9; show @LT.lt Nat _ _ _; omega) | (rcases h9 with h9 | h9 <;> (subst h9; show @LT.lt Nat _ _ _; omega)) | (rcases h9 with h9 | h9 | h9 <;> (subst h9; show @LT.lt Nat _ _ _; omega))) (by decide) rfl (Nat.le_of_ble_eq_true rfl) (Nat.le_of_ble_eq_true rfl) (ct_X4 (q := 285) (by decide) (ksK (Or.inr (Or.inr (Or.inr ⟨2, by decide, rfl⟩)))) (ok_17.up (m := 286) (by decide)) (fun k => (ok_17.1 _ k (by decide)).1)) ?_
  have ok_18 := seaP_ok (q := 285) (i := 24) (j := 24) (n := 339) (ok_17.up (m := 286) (by decide)) (by decide) (Or.inr (by decide))
  refine n_aast (n := 339) (pc := 117) (ci := 22) (N := 10) (cj := 4) (nb := 0) (j := 2) dX7_init_117 (by decide) (by decide) (by decide) (by decide) rfl (by decide) (by decide) (iv0 2 10 (by decide) (by decide) (by decide)) (by decide) ?_
  have ok_19 := (ok_18.up (m := 339) (by decide)).ur (a := 58) (b := 285) (by decide) 2 (by decide)
  refine n_iinc (pc := 118) (w := 3) dX7_init_118 rfl (by decide) (by decide) ?_
  refine n_goto (pc := 121) (tgt := 99) dX7_init_121 (by decide) ?_
  refine n_iload_n (pc := 99) dX7_init_99 rfl ?_
  refine n_bipush (v := 10) (pc := 100) dX7_init_100 (by decide) ?_
  refine n_icmp_ge (pc := 102) (tgt := 124) dX7_init_102 (by decide) (fun z => absurd z (by decide)) (fun _ => ?_)
  refine n_aload_n (pc := 105) dX7_init_105 rfl ?_
  refine n_getR (n := 339) (b := 58) (pc := 106) (ci := 7) dX7_init_106 fl_X7_31 rfl (by decide) (by decide) (by rfl) ?_
  refine n_iload_n (pc := 109) dX7_init_109 rfl ?_
  refine n_new (n := 339) (pc := 110) (ci := 4) (c' := (339, 7371)) dX7_init_110 kl_X7_17 it_4 iz_4 (by decide) ok_19 (by decide) (by intro b9 h9; simp at h9; first | (subst h9; show @LT.lt Nat _ _ _; omega) | (rcases h9 with h9 | h9 <;> (subst h9; show @LT.lt Nat _ _ _; omega)) | (rcases h9 with h9 | h9 | h9 <;> (subst h9; show @LT.lt Nat _ _ _; omega))) (by intro b9 h9; simp at h9; first | (subst h9; show @LT.lt Nat _ _ _; omega) | (rcases h9 with h9 | h9 <;> (subst h9; show @LT.lt Nat _ _ _; omega)) | (rcases h9 with h9 | h9 | h9 <;> (subst h9; show @LT.lt Nat _ _ _; omega))) (by decide) rfl (Nat.le_of_ble_eq_true rfl) (Nat.le_of_ble_eq_true rfl) (by decide) ?_
  refine n_dup (pc := 113) dX7_init_113 rfl ?_
  refine n_callI mX4_init (n := 340) (n' := 393) (pc := 114) (m1 := 53) (s1 := 577) (c' := (392, 7948)) dX7_init_114 (Or.inl lk_X7_19) ii_X4_init mo_X4_init rfl rfl ⟨by decide, by decide⟩ (Nat.le_of_ble_eq_true rfl) (by intro b9 h9; simp at h9; first | (subst h9; show @LT.lt Nat _ _ _; omega) | (rcases h9 with h9 | h9 <;> (subst h9; show @LT.lt Nat _ _ _; omega)) | (rcases h9 with h9 | h9 | h9 <;> (subst h9; show @LT.lt Nat _ _ _; omega))) (by intro b9 h9; simp at h9; first | (subst h9; show @LT.lt Nat _ _ _; omega) | (rcases h9 with h9 | h9 <;> (subst h9; show @LT.lt Nat _ _ _; omega)) | (rcases h9 with h9 | h9 | h9 <;> (subst h9; show @LT.lt Nat _ _ _; omega))) (by decide) rfl (Nat.le_of_ble_eq_true rfl) (Nat.le_of_ble_eq_true rfl) (ct_X4 (q := 339) (by decide) (ksK (Or.inr (Or.inr (Or.inr ⟨3, by decide, rfl⟩)))) (ok_19.up (m := 340) (by decide)) (fun k => (ok_19.1 _ k (by decide)).1)) ?_
  have ok_20 := seaP_ok (q := 339) (i := 24) (j := 24) (n := 393) (ok_19.up (m := 340) (by decide)) (by decide) (Or.inr (by decide))
  refine n_aast (n := 393) (pc := 117) (ci := 22) (N := 10) (cj := 4) (nb := 0) (j := 3) dX7_init_117 (by decide) (by decide) (by decide) (by decide) rfl (by decide) (by decide) (iv0 3 10 (by decide) (by decide) (by decide)) (by decide) ?_
  have ok_21 := (ok_20.up (m := 393) (by decide)).ur (a := 58) (b := 339) (by decide) 3 (by decide)
  refine n_iinc (pc := 118) (w := 4) dX7_init_118 rfl (by decide) (by decide) ?_
  refine n_goto (pc := 121) (tgt := 99) dX7_init_121 (by decide) ?_
  refine n_iload_n (pc := 99) dX7_init_99 rfl ?_
  refine n_bipush (v := 10) (pc := 100) dX7_init_100 (by decide) ?_
  refine n_icmp_ge (pc := 102) (tgt := 124) dX7_init_102 (by decide) (fun z => absurd z (by decide)) (fun _ => ?_)
  refine n_aload_n (pc := 105) dX7_init_105 rfl ?_
  refine n_getR (n := 393) (b := 58) (pc := 106) (ci := 7) dX7_init_106 fl_X7_31 rfl (by decide) (by decide) (by rfl) ?_
  refine n_iload_n (pc := 109) dX7_init_109 rfl ?_
  refine n_new (n := 393) (pc := 110) (ci := 4) (c' := (393, 7958)) dX7_init_110 kl_X7_17 it_4 iz_4 (by decide) ok_21 (by decide) (by intro b9 h9; simp at h9; first | (subst h9; show @LT.lt Nat _ _ _; omega) | (rcases h9 with h9 | h9 <;> (subst h9; show @LT.lt Nat _ _ _; omega)) | (rcases h9 with h9 | h9 | h9 <;> (subst h9; show @LT.lt Nat _ _ _; omega))) (by intro b9 h9; simp at h9; first | (subst h9; show @LT.lt Nat _ _ _; omega) | (rcases h9 with h9 | h9 <;> (subst h9; show @LT.lt Nat _ _ _; omega)) | (rcases h9 with h9 | h9 | h9 <;> (subst h9; show @LT.lt Nat _ _ _; omega))) (by decide) rfl (Nat.le_of_ble_eq_true rfl) (Nat.le_of_ble_eq_true rfl) (by decide) ?_
  refine n_dup (pc := 113) dX7_init_113 rfl ?_
  refine n_callI mX4_init (n := 394) (n' := 447) (pc := 114) (m1 := 53) (s1 := 577) (c' := (446, 8535)) dX7_init_114 (Or.inl lk_X7_19) ii_X4_init mo_X4_init rfl rfl ⟨by decide, by decide⟩ (Nat.le_of_ble_eq_true rfl) (by intro b9 h9; simp at h9; first | (subst h9; show @LT.lt Nat _ _ _; omega) | (rcases h9 with h9 | h9 <;> (subst h9; show @LT.lt Nat _ _ _; omega)) | (rcases h9 with h9 | h9 | h9 <;> (subst h9; show @LT.lt Nat _ _ _; omega))) (by intro b9 h9; simp at h9; first | (subst h9; show @LT.lt Nat _ _ _; omega) | (rcases h9 with h9 | h9 <;> (subst h9; show @LT.lt Nat _ _ _; omega)) | (rcases h9 with h9 | h9 | h9 <;> (subst h9; show @LT.lt Nat _ _ _; omega))) (by decide) rfl (Nat.le_of_ble_eq_true rfl) (Nat.le_of_ble_eq_true rfl) (ct_X4 (q := 393) (by decide) (ksK (Or.inr (Or.inr (Or.inr ⟨4, by decide, rfl⟩)))) (ok_21.up (m := 394) (by decide)) (fun k => (ok_21.1 _ k (by decide)).1)) ?_
  have ok_22 := seaP_ok (q := 393) (i := 24) (j := 24) (n := 447) (ok_21.up (m := 394) (by decide)) (by decide) (Or.inr (by decide))
  refine n_aast (n := 447) (pc := 117) (ci := 22) (N := 10) (cj := 4) (nb := 0) (j := 4) dX7_init_117 (by decide) (by decide) (by decide) (by decide) rfl (by decide) (by decide) (iv0 4 10 (by decide) (by decide) (by decide)) (by decide) ?_
  have ok_23 := (ok_22.up (m := 447) (by decide)).ur (a := 58) (b := 393) (by decide) 4 (by decide)
  refine n_iinc (pc := 118) (w := 5) dX7_init_118 rfl (by decide) (by decide) ?_
  refine n_goto (pc := 121) (tgt := 99) dX7_init_121 (by decide) ?_
  refine n_iload_n (pc := 99) dX7_init_99 rfl ?_
  refine n_bipush (v := 10) (pc := 100) dX7_init_100 (by decide) ?_
  refine n_icmp_ge (pc := 102) (tgt := 124) dX7_init_102 (by decide) (fun z => absurd z (by decide)) (fun _ => ?_)
  refine n_aload_n (pc := 105) dX7_init_105 rfl ?_
  refine n_getR (n := 447) (b := 58) (pc := 106) (ci := 7) dX7_init_106 fl_X7_31 rfl (by decide) (by decide) (by rfl) ?_
  refine n_iload_n (pc := 109) dX7_init_109 rfl ?_
  refine n_new (n := 447) (pc := 110) (ci := 4) (c' := (447, 8545)) dX7_init_110 kl_X7_17 it_4 iz_4 (by decide) ok_23 (by decide) (by intro b9 h9; simp at h9; first | (subst h9; show @LT.lt Nat _ _ _; omega) | (rcases h9 with h9 | h9 <;> (subst h9; show @LT.lt Nat _ _ _; omega)) | (rcases h9 with h9 | h9 | h9 <;> (subst h9; show @LT.lt Nat _ _ _; omega))) (by intro b9 h9; simp at h9; first | (subst h9; show @LT.lt Nat _ _ _; omega) | (rcases h9 with h9 | h9 <;> (subst h9; show @LT.lt Nat _ _ _; omega)) | (rcases h9 with h9 | h9 | h9 <;> (subst h9; show @LT.lt Nat _ _ _; omega))) (by decide) rfl (Nat.le_of_ble_eq_true rfl) (Nat.le_of_ble_eq_true rfl) (by decide) ?_
  refine n_dup (pc := 113) dX7_init_113 rfl ?_
  refine n_callI mX4_init (n := 448) (n' := 501) (pc := 114) (m1 := 53) (s1 := 577) (c' := (500, 9122)) dX7_init_114 (Or.inl lk_X7_19) ii_X4_init mo_X4_init rfl rfl ⟨by decide, by decide⟩ (Nat.le_of_ble_eq_true rfl) (by intro b9 h9; simp at h9; first | (subst h9; show @LT.lt Nat _ _ _; omega) | (rcases h9 with h9 | h9 <;> (subst h9; show @LT.lt Nat _ _ _; omega)) | (rcases h9 with h9 | h9 | h9 <;> (subst h9; show @LT.lt Nat _ _ _; omega))) (by intro b9 h9; simp at h9; first | (subst h9; show @LT.lt Nat _ _ _; omega) | (rcases h9 with h9 | h9 <;> (subst h9; show @LT.lt Nat _ _ _; omega)) | (rcases h9 with h9 | h9 | h9 <;> (subst h9; show @LT.lt Nat _ _ _; omega))) (by decide) rfl (Nat.le_of_ble_eq_true rfl) (Nat.le_of_ble_eq_true rfl) (ct_X4 (q := 447) (by decide) (ksK (Or.inr (Or.inr (Or.inr ⟨5, by decide, rfl⟩)))) (ok_23.up (m := 448) (by decide)) (fun k => (ok_23.1 _ k (by decide)).1)) ?_
  have ok_24 := seaP_ok (q := 447) (i := 24) (j := 24) (n := 501) (ok_23.up (m := 448) (by decide)) (by decide) (Or.inr (by decide))
  refine n_aast (n := 501) (pc := 117) (ci := 22) (N := 10) (cj := 4) (nb := 0) (j := 5) dX7_init_117 (by decide) (by decide) (by decide) (by decide) rfl (by decide) (by decide) (iv0 5 10 (by decide) (by decide) (by decide)) (by decide) ?_
  have ok_25 := (ok_24.up (m := 501) (by decide)).ur (a := 58) (b := 447) (by decide) 5 (by decide)
  refine n_iinc (pc := 118) (w := 6) dX7_init_118 rfl (by decide) (by decide) ?_
  refine n_goto (pc := 121) (tgt := 99) dX7_init_121 (by decide) ?_
  refine n_iload_n (pc := 99) dX7_init_99 rfl ?_
  refine n_bipush (v := 10) (pc := 100) dX7_init_100 (by decide) ?_
  refine n_icmp_ge (pc := 102) (tgt := 124) dX7_init_102 (by decide) (fun z => absurd z (by decide)) (fun _ => ?_)
  refine n_aload_n (pc := 105) dX7_init_105 rfl ?_
  refine n_getR (n := 501) (b := 58) (pc := 106) (ci := 7) dX7_init_106 fl_X7_31 rfl (by decide) (by decide) (by rfl) ?_
  refine n_iload_n (pc := 109) dX7_init_109 rfl ?_
  refine n_new (n := 501) (pc := 110) (ci := 4) (c' := (501, 9132)) dX7_init_110 kl_X7_17 it_4 iz_4 (by decide) ok_25 (by decide) (by intro b9 h9; simp at h9; first | (subst h9; show @LT.lt Nat _ _ _; omega) | (rcases h9 with h9 | h9 <;> (subst h9; show @LT.lt Nat _ _ _; omega)) | (rcases h9 with h9 | h9 | h9 <;> (subst h9; show @LT.lt Nat _ _ _; omega))) (by intro b9 h9; simp at h9; first | (subst h9; show @LT.lt Nat _ _ _; omega) | (rcases h9 with h9 | h9 <;> (subst h9; show @LT.lt Nat _ _ _; omega)) | (rcases h9 with h9 | h9 | h9 <;> (subst h9; show @LT.lt Nat _ _ _; omega))) (by decide) rfl (Nat.le_of_ble_eq_true rfl) (Nat.le_of_ble_eq_true rfl) (by decide) ?_
  refine n_dup (pc := 113) dX7_init_113 rfl ?_
  refine n_callI mX4_init (n := 502) (n' := 555) (pc := 114) (m1 := 53) (s1 := 577) (c' := (554, 9709)) dX7_init_114 (Or.inl lk_X7_19) ii_X4_init mo_X4_init rfl rfl ⟨by decide, by decide⟩ (Nat.le_of_ble_eq_true rfl) (by intro b9 h9; simp at h9; first | (subst h9; show @LT.lt Nat _ _ _; omega) | (rcases h9 with h9 | h9 <;> (subst h9; show @LT.lt Nat _ _ _; omega)) | (rcases h9 with h9 | h9 | h9 <;> (subst h9; show @LT.lt Nat _ _ _; omega))) (by intro b9 h9; simp at h9; first | (subst h9; show @LT.lt Nat _ _ _; omega) | (rcases h9 with h9 | h9 <;> (subst h9; show @LT.lt Nat _ _ _; omega)) | (rcases h9 with h9 | h9 | h9 <;> (subst h9; show @LT.lt Nat _ _ _; omega))) (by decide) rfl (Nat.le_of_ble_eq_true rfl) (Nat.le_of_ble_eq_true rfl) (ct_X4 (q := 501) (by decide) (ksK (Or.inr (Or.inr (Or.inr ⟨6, by decide, rfl⟩)))) (ok_25.up (m := 502) (by decide)) (fun k => (ok_25.1 _ k (by decide)).1)) ?_
  have ok_26 := seaP_ok (q := 501) (i := 24) (j := 24) (n := 555) (ok_25.up (m := 502) (by decide)) (by decide) (Or.inr (by decide))
  refine n_aast (n := 555) (pc := 117) (ci := 22) (N := 10) (cj := 4) (nb := 0) (j := 6) dX7_init_117 (by decide) (by decide) (by decide) (by decide) rfl (by decide) (by decide) (iv0 6 10 (by decide) (by decide) (by decide)) (by decide) ?_
  have ok_27 := (ok_26.up (m := 555) (by decide)).ur (a := 58) (b := 501) (by decide) 6 (by decide)
  refine n_iinc (pc := 118) (w := 7) dX7_init_118 rfl (by decide) (by decide) ?_
  refine n_goto (pc := 121) (tgt := 99) dX7_init_121 (by decide) ?_
  refine n_iload_n (pc := 99) dX7_init_99 rfl ?_
  refine n_bipush (v := 10) (pc := 100) dX7_init_100 (by decide) ?_
  refine n_icmp_ge (pc := 102) (tgt := 124) dX7_init_102 (by decide) (fun z => absurd z (by decide)) (fun _ => ?_)
  refine n_aload_n (pc := 105) dX7_init_105 rfl ?_
  refine n_getR (n := 555) (b := 58) (pc := 106) (ci := 7) dX7_init_106 fl_X7_31 rfl (by decide) (by decide) (by rfl) ?_
  refine n_iload_n (pc := 109) dX7_init_109 rfl ?_
  refine n_new (n := 555) (pc := 110) (ci := 4) (c' := (555, 9719)) dX7_init_110 kl_X7_17 it_4 iz_4 (by decide) ok_27 (by decide) (by intro b9 h9; simp at h9; first | (subst h9; show @LT.lt Nat _ _ _; omega) | (rcases h9 with h9 | h9 <;> (subst h9; show @LT.lt Nat _ _ _; omega)) | (rcases h9 with h9 | h9 | h9 <;> (subst h9; show @LT.lt Nat _ _ _; omega))) (by intro b9 h9; simp at h9; first | (subst h9; show @LT.lt Nat _ _ _; omega) | (rcases h9 with h9 | h9 <;> (subst h9; show @LT.lt Nat _ _ _; omega)) | (rcases h9 with h9 | h9 | h9 <;> (subst h9; show @LT.lt Nat _ _ _; omega))) (by decide) rfl (Nat.le_of_ble_eq_true rfl) (Nat.le_of_ble_eq_true rfl) (by decide) ?_
  refine n_dup (pc := 113) dX7_init_113 rfl ?_
  refine n_callI mX4_init (n := 556) (n' := 609) (pc := 114) (m1 := 53) (s1 := 577) (c' := (608, 10296)) dX7_init_114 (Or.inl lk_X7_19) ii_X4_init mo_X4_init rfl rfl ⟨by decide, by decide⟩ (Nat.le_of_ble_eq_true rfl) (by intro b9 h9; simp at h9; first | (subst h9; show @LT.lt Nat _ _ _; omega) | (rcases h9 with h9 | h9 <;> (subst h9; show @LT.lt Nat _ _ _; omega)) | (rcases h9 with h9 | h9 | h9 <;> (subst h9; show @LT.lt Nat _ _ _; omega))) (by intro b9 h9; simp at h9; first | (subst h9; show @LT.lt Nat _ _ _; omega) | (rcases h9 with h9 | h9 <;> (subst h9; show @LT.lt Nat _ _ _; omega)) | (rcases h9 with h9 | h9 | h9 <;> (subst h9; show @LT.lt Nat _ _ _; omega))) (by decide) rfl (Nat.le_of_ble_eq_true rfl) (Nat.le_of_ble_eq_true rfl) (ct_X4 (q := 555) (by decide) (ksK (Or.inr (Or.inr (Or.inr ⟨7, by decide, rfl⟩)))) (ok_27.up (m := 556) (by decide)) (fun k => (ok_27.1 _ k (by decide)).1)) ?_
  have ok_28 := seaP_ok (q := 555) (i := 24) (j := 24) (n := 609) (ok_27.up (m := 556) (by decide)) (by decide) (Or.inr (by decide))
  refine n_aast (n := 609) (pc := 117) (ci := 22) (N := 10) (cj := 4) (nb := 0) (j := 7) dX7_init_117 (by decide) (by decide) (by decide) (by decide) rfl (by decide) (by decide) (iv0 7 10 (by decide) (by decide) (by decide)) (by decide) ?_
  have ok_29 := (ok_28.up (m := 609) (by decide)).ur (a := 58) (b := 555) (by decide) 7 (by decide)
  refine n_iinc (pc := 118) (w := 8) dX7_init_118 rfl (by decide) (by decide) ?_
  refine n_goto (pc := 121) (tgt := 99) dX7_init_121 (by decide) ?_
  refine n_iload_n (pc := 99) dX7_init_99 rfl ?_
  refine n_bipush (v := 10) (pc := 100) dX7_init_100 (by decide) ?_
  refine n_icmp_ge (pc := 102) (tgt := 124) dX7_init_102 (by decide) (fun z => absurd z (by decide)) (fun _ => ?_)
  refine n_aload_n (pc := 105) dX7_init_105 rfl ?_
  refine n_getR (n := 609) (b := 58) (pc := 106) (ci := 7) dX7_init_106 fl_X7_31 rfl (by decide) (by decide) (by rfl) ?_
  refine n_iload_n (pc := 109) dX7_init_109 rfl ?_
  refine n_new (n := 609) (pc := 110) (ci := 4) (c' := (609, 10306)) dX7_init_110 kl_X7_17 it_4 iz_4 (by decide) ok_29 (by decide) (by intro b9 h9; simp at h9; first | (subst h9; show @LT.lt Nat _ _ _; omega) | (rcases h9 with h9 | h9 <;> (subst h9; show @LT.lt Nat _ _ _; omega)) | (rcases h9 with h9 | h9 | h9 <;> (subst h9; show @LT.lt Nat _ _ _; omega))) (by intro b9 h9; simp at h9; first | (subst h9; show @LT.lt Nat _ _ _; omega) | (rcases h9 with h9 | h9 <;> (subst h9; show @LT.lt Nat _ _ _; omega)) | (rcases h9 with h9 | h9 | h9 <;> (subst h9; show @LT.lt Nat _ _ _; omega))) (by decide) rfl (Nat.le_of_ble_eq_true rfl) (Nat.le_of_ble_eq_true rfl) (by decide) ?_
  refine n_dup (pc := 113) dX7_init_113 rfl ?_
  refine n_callI mX4_init (n := 610) (n' := 663) (pc := 114) (m1 := 53) (s1 := 577) (c' := (662, 10883)) dX7_init_114 (Or.inl lk_X7_19) ii_X4_init mo_X4_init rfl rfl ⟨by decide, by decide⟩ (Nat.le_of_ble_eq_true rfl) (by intro b9 h9; simp at h9; first | (subst h9; show @LT.lt Nat _ _ _; omega) | (rcases h9 with h9 | h9 <;> (subst h9; show @LT.lt Nat _ _ _; omega)) | (rcases h9 with h9 | h9 | h9 <;> (subst h9; show @LT.lt Nat _ _ _; omega))) (by intro b9 h9; simp at h9; first | (subst h9; show @LT.lt Nat _ _ _; omega) | (rcases h9 with h9 | h9 <;> (subst h9; show @LT.lt Nat _ _ _; omega)) | (rcases h9 with h9 | h9 | h9 <;> (subst h9; show @LT.lt Nat _ _ _; omega))) (by decide) rfl (Nat.le_of_ble_eq_true rfl) (Nat.le_of_ble_eq_true rfl) (ct_X4 (q := 609) (by decide) (ksK (Or.inr (Or.inr (Or.inr ⟨8, by decide, rfl⟩)))) (ok_29.up (m := 610) (by decide)) (fun k => (ok_29.1 _ k (by decide)).1)) ?_
  have ok_30 := seaP_ok (q := 609) (i := 24) (j := 24) (n := 663) (ok_29.up (m := 610) (by decide)) (by decide) (Or.inr (by decide))
  refine n_aast (n := 663) (pc := 117) (ci := 22) (N := 10) (cj := 4) (nb := 0) (j := 8) dX7_init_117 (by decide) (by decide) (by decide) (by decide) rfl (by decide) (by decide) (iv0 8 10 (by decide) (by decide) (by decide)) (by decide) ?_
  have ok_31 := (ok_30.up (m := 663) (by decide)).ur (a := 58) (b := 609) (by decide) 8 (by decide)
  refine n_iinc (pc := 118) (w := 9) dX7_init_118 rfl (by decide) (by decide) ?_
  refine n_goto (pc := 121) (tgt := 99) dX7_init_121 (by decide) ?_
  refine n_iload_n (pc := 99) dX7_init_99 rfl ?_
  refine n_bipush (v := 10) (pc := 100) dX7_init_100 (by decide) ?_
  refine n_icmp_ge (pc := 102) (tgt := 124) dX7_init_102 (by decide) (fun z => absurd z (by decide)) (fun _ => ?_)
  refine n_aload_n (pc := 105) dX7_init_105 rfl ?_
  refine n_getR (n := 663) (b := 58) (pc := 106) (ci := 7) dX7_init_106 fl_X7_31 rfl (by decide) (by decide) (by rfl) ?_
  refine n_iload_n (pc := 109) dX7_init_109 rfl ?_
  refine n_new (n := 663) (pc := 110) (ci := 4) (c' := (663, 10893)) dX7_init_110 kl_X7_17 it_4 iz_4 (by decide) ok_31 (by decide) (by intro b9 h9; simp at h9; first | (subst h9; show @LT.lt Nat _ _ _; omega) | (rcases h9 with h9 | h9 <;> (subst h9; show @LT.lt Nat _ _ _; omega)) | (rcases h9 with h9 | h9 | h9 <;> (subst h9; show @LT.lt Nat _ _ _; omega))) (by intro b9 h9; simp at h9; first | (subst h9; show @LT.lt Nat _ _ _; omega) | (rcases h9 with h9 | h9 <;> (subst h9; show @LT.lt Nat _ _ _; omega)) | (rcases h9 with h9 | h9 | h9 <;> (subst h9; show @LT.lt Nat _ _ _; omega))) (by decide) rfl (Nat.le_of_ble_eq_true rfl) (Nat.le_of_ble_eq_true rfl) (by decide) ?_
  refine n_dup (pc := 113) dX7_init_113 rfl ?_
  refine n_callI mX4_init (n := 664) (n' := 717) (pc := 114) (m1 := 53) (s1 := 577) (c' := (716, 11470)) dX7_init_114 (Or.inl lk_X7_19) ii_X4_init mo_X4_init rfl rfl ⟨by decide, by decide⟩ (Nat.le_of_ble_eq_true rfl) (by intro b9 h9; simp at h9; first | (subst h9; show @LT.lt Nat _ _ _; omega) | (rcases h9 with h9 | h9 <;> (subst h9; show @LT.lt Nat _ _ _; omega)) | (rcases h9 with h9 | h9 | h9 <;> (subst h9; show @LT.lt Nat _ _ _; omega))) (by intro b9 h9; simp at h9; first | (subst h9; show @LT.lt Nat _ _ _; omega) | (rcases h9 with h9 | h9 <;> (subst h9; show @LT.lt Nat _ _ _; omega)) | (rcases h9 with h9 | h9 | h9 <;> (subst h9; show @LT.lt Nat _ _ _; omega))) (by decide) rfl (Nat.le_of_ble_eq_true rfl) (Nat.le_of_ble_eq_true rfl) (ct_X4 (q := 663) (by decide) (ksK (Or.inr (Or.inr (Or.inr ⟨9, by decide, rfl⟩)))) (ok_31.up (m := 664) (by decide)) (fun k => (ok_31.1 _ k (by decide)).1)) ?_
  have ok_32 := seaP_ok (q := 663) (i := 24) (j := 24) (n := 717) (ok_31.up (m := 664) (by decide)) (by decide) (Or.inr (by decide))
  refine n_aast (n := 717) (pc := 117) (ci := 22) (N := 10) (cj := 4) (nb := 0) (j := 9) dX7_init_117 (by decide) (by decide) (by decide) (by decide) rfl (by decide) (by decide) (iv0 9 10 (by decide) (by decide) (by decide)) (by decide) ?_
  have ok_33 := (ok_32.up (m := 717) (by decide)).ur (a := 58) (b := 663) (by decide) 9 (by decide)
  refine n_iinc (pc := 118) (w := 10) dX7_init_118 rfl (by decide) (by decide) ?_
  refine n_goto (pc := 121) (tgt := 99) dX7_init_121 (by decide) ?_
  refine n_iload_n (pc := 99) dX7_init_99 rfl ?_
  refine n_bipush (v := 10) (pc := 100) dX7_init_100 (by decide) ?_
  refine n_icmp_ge (pc := 102) (tgt := 124) dX7_init_102 (by decide) (fun _ => ?_) (fun z => absurd (by decide) z)
  exact n_ret (pc := 124) rfl rfl dX7_init_124 rfl

theorem clC_ok {x : Cn} (ok : Okx 1 x) : Okx 717 (clC x) := by
  have ok_1 := (ok.up (m := 2) (by decide)).ur (a := 0) (b := 1) (by decide) 0 (by decide)
  have ok_2 := seaP_ok (q := 2) (i := 24) (j := 24) (n := 56) (ok_1.up (m := 3) (by decide)) (by decide) (Or.inr (by decide))
  have ok_3 := (ok_2.up (m := 56) (by decide)).ur (a := 0) (b := 2) (by decide) 2 (by decide)
  have ok_4 := (ok_3.up (m := 58) (by decide)).ur (a := 56) (b := 57) (by decide) 1 (by decide)
  have ok_5 := (ok_4.up (m := 58) (by decide)).ur (a := 0) (b := 56) (by decide) 3 (by decide)
  have ok_6 := (ok_5.up (m := 59) (by decide)).ur (a := 0) (b := 58) (by decide) 4 (by decide)
  have ok_7 := rdC_ok (ok_6.up (m := 60) (by decide))
  have ok_8 := (ok_7.up (m := 117) (by decide)).ur (a := 0) (b := 59) (by decide) 6 (by decide)
  have ok_9 := ok_8.ui (a := 0) (by decide) 8 (-1)
  have ok_10 := plC_ok (ok_9.up (m := 118) (by decide))
  have ok_11 := (ok_10.up (m := 175) (by decide)).ur (a := 0) (b := 117) (by decide) 9 (by decide)
  have ok_12 := (ok_11.up (m := 177) (by decide)).ur (a := 175) (b := 176) (by decide) 0 (by decide)
  have ok_13 := (ok_12.up (m := 177) (by decide)).ur (a := 0) (b := 175) (by decide) 10 (by decide)
  have ok_14 := seaP_ok (q := 177) (i := 24) (j := 24) (n := 231) (ok_13.up (m := 178) (by decide)) (by decide) (Or.inr (by decide))
  have ok_15 := (ok_14.up (m := 231) (by decide)).ur (a := 58) (b := 177) (by decide) 0 (by decide)
  have ok_16 := seaP_ok (q := 231) (i := 24) (j := 24) (n := 285) (ok_15.up (m := 232) (by decide)) (by decide) (Or.inr (by decide))
  have ok_17 := (ok_16.up (m := 285) (by decide)).ur (a := 58) (b := 231) (by decide) 1 (by decide)
  have ok_18 := seaP_ok (q := 285) (i := 24) (j := 24) (n := 339) (ok_17.up (m := 286) (by decide)) (by decide) (Or.inr (by decide))
  have ok_19 := (ok_18.up (m := 339) (by decide)).ur (a := 58) (b := 285) (by decide) 2 (by decide)
  have ok_20 := seaP_ok (q := 339) (i := 24) (j := 24) (n := 393) (ok_19.up (m := 340) (by decide)) (by decide) (Or.inr (by decide))
  have ok_21 := (ok_20.up (m := 393) (by decide)).ur (a := 58) (b := 339) (by decide) 3 (by decide)
  have ok_22 := seaP_ok (q := 393) (i := 24) (j := 24) (n := 447) (ok_21.up (m := 394) (by decide)) (by decide) (Or.inr (by decide))
  have ok_23 := (ok_22.up (m := 447) (by decide)).ur (a := 58) (b := 393) (by decide) 4 (by decide)
  have ok_24 := seaP_ok (q := 447) (i := 24) (j := 24) (n := 501) (ok_23.up (m := 448) (by decide)) (by decide) (Or.inr (by decide))
  have ok_25 := (ok_24.up (m := 501) (by decide)).ur (a := 58) (b := 447) (by decide) 5 (by decide)
  have ok_26 := seaP_ok (q := 501) (i := 24) (j := 24) (n := 555) (ok_25.up (m := 502) (by decide)) (by decide) (Or.inr (by decide))
  have ok_27 := (ok_26.up (m := 555) (by decide)).ur (a := 58) (b := 501) (by decide) 6 (by decide)
  have ok_28 := seaP_ok (q := 555) (i := 24) (j := 24) (n := 609) (ok_27.up (m := 556) (by decide)) (by decide) (Or.inr (by decide))
  have ok_29 := (ok_28.up (m := 609) (by decide)).ur (a := 58) (b := 555) (by decide) 7 (by decide)
  have ok_30 := seaP_ok (q := 609) (i := 24) (j := 24) (n := 663) (ok_29.up (m := 610) (by decide)) (by decide) (Or.inr (by decide))
  have ok_31 := (ok_30.up (m := 663) (by decide)).ur (a := 58) (b := 609) (by decide) 8 (by decide)
  have ok_32 := seaP_ok (q := 663) (i := 24) (j := 24) (n := 717) (ok_31.up (m := 664) (by decide)) (by decide) (Or.inr (by decide))
  have ok_33 := (ok_32.up (m := 717) (by decide)).ur (a := 58) (b := 663) (by decide) 9 (by decide)
  exact ok_33
def moC (x : Cn) : Cn := (ur (ur (ur (ur (ur (ui (ur (ur (ur (ur x 717 1 (some 718)) 717 2 (some 719)) 717 3 (some 718)) 717 4 (some 720)) 717 12 (-1)) 717 15 (some 721)) 717 16 (some 722)) 717 17 (some 723)) 717 20 (some 724)) 717 21 (some 725))
theorem ct_X8 {x : Cn} (ok : Okx 718 x) (hz : ∀ k, x.1 717 k = 0) : mSpN mX8_init [.ref 717] (hp (718, kwf) x) 8 10471 (fun h' => h' = hp (726, kwf) (moC x)) := by
  refine n_of (by decide) (by simp [Value.category]) (Nat.le_of_ble_eq_true rfl) rfl ?_
  show GN mX8_init 8 10471 718 _ (0, 0) 0 [some (.ref 717)] [] _
  refine n_aload_n (pc := 0) dX8_init_0 rfl ?_
  refine n_objInit (pc := 1) dX8_init_1 lk_X8_1 oi_i oi_c ⟨by decide, by decide⟩ (Nat.le_of_ble_eq_true rfl) ?_
  refine n_aload_n (pc := 4) dX8_init_4 rfl ?_
  refine n_sipush (v := 518) (pc := 5) dX8_init_5 (by decide) ?_
  refine n_newa (n := 718) (N := 518) (kn := 20) (c' := (1, 518)) (pc := 8) dX8_init_8 (Or.inl ⟨rfl, rfl⟩) ac_i rfl (by decide) ok (by decide) (by intro b9 h9; simp at h9; first | (subst h9; show @LT.lt Nat _ _ _; omega) | (rcases h9 with h9 | h9 <;> (subst h9; show @LT.lt Nat _ _ _; omega)) | (rcases h9 with h9 | h9 | h9 <;> (subst h9; show @LT.lt Nat _ _ _; omega))) (by intro b9 h9; simp at h9; first | (subst h9; show @LT.lt Nat _ _ _; omega) | (rcases h9 with h9 | h9 <;> (subst h9; show @LT.lt Nat _ _ _; omega)) | (rcases h9 with h9 | h9 | h9 <;> (subst h9; show @LT.lt Nat _ _ _; omega))) (by decide) rfl (Nat.le_of_ble_eq_true rfl) (Nat.le_of_ble_eq_true rfl) (by decide) ?_
  refine n_putRF (n := 719) (b := 718) (pc := 10) (ci := 8) dX8_init_10 fl_X8_9 rfl rfl rfl rfl (by decide) (by decide) ?_
  have ok_1 := (ok.up (m := 719) (by decide)).ur (a := 717) (b := 718) (by decide) 1 (by decide)
  refine n_aload_n (pc := 13) dX8_init_13 rfl ?_
  refine n_sipush (v := 518) (pc := 14) dX8_init_14 (by decide) ?_
  refine n_newa (n := 719) (N := 518) (kn := 20) (c' := (2, 1036)) (pc := 17) dX8_init_17 (Or.inl ⟨rfl, rfl⟩) ac_i rfl (by decide) ok_1 (by decide) (by intro b9 h9; simp at h9; first | (subst h9; show @LT.lt Nat _ _ _; omega) | (rcases h9 with h9 | h9 <;> (subst h9; show @LT.lt Nat _ _ _; omega)) | (rcases h9 with h9 | h9 | h9 <;> (subst h9; show @LT.lt Nat _ _ _; omega))) (by intro b9 h9; simp at h9; first | (subst h9; show @LT.lt Nat _ _ _; omega) | (rcases h9 with h9 | h9 <;> (subst h9; show @LT.lt Nat _ _ _; omega)) | (rcases h9 with h9 | h9 | h9 <;> (subst h9; show @LT.lt Nat _ _ _; omega))) (by decide) rfl (Nat.le_of_ble_eq_true rfl) (Nat.le_of_ble_eq_true rfl) (by decide) ?_
  refine n_putRF (n := 720) (b := 719) (pc := 19) (ci := 8) dX8_init_19 fl_X8_13 rfl rfl rfl rfl (by decide) (by decide) ?_
  have ok_2 := (ok_1.up (m := 720) (by decide)).ur (a := 717) (b := 719) (by decide) 2 (by decide)
  refine n_aload_n (pc := 22) dX8_init_22 rfl ?_
  refine n_aload_n (pc := 23) dX8_init_23 rfl ?_
  refine n_getR (n := 720) (b := 718) (pc := 24) (ci := 8) dX8_init_24 fl_X8_9 rfl (by decide) (by decide) (by rfl) ?_
  refine n_putR (n := 720) (b := 718) (pc := 27) (ci := 8) dX8_init_27 fl_X8_16 rfl rfl (by decide) (by decide) ?_
  have ok_3 := (ok_2.up (m := 720) (by decide)).ur (a := 717) (b := 718) (by decide) 3 (by decide)
  refine n_aload_n (pc := 30) dX8_init_30 rfl ?_
  refine n_sipush (v := 1200) (pc := 31) dX8_init_31 (by decide) ?_
  refine n_newa (n := 720) (N := 1200) (kn := 21) (c' := (3, 2236)) (pc := 34) dX8_init_34 (Or.inr ⟨rfl, rfl⟩) ac_b rfl (by decide) ok_3 (by decide) (by intro b9 h9; simp at h9; first | (subst h9; show @LT.lt Nat _ _ _; omega) | (rcases h9 with h9 | h9 <;> (subst h9; show @LT.lt Nat _ _ _; omega)) | (rcases h9 with h9 | h9 | h9 <;> (subst h9; show @LT.lt Nat _ _ _; omega))) (by intro b9 h9; simp at h9; first | (subst h9; show @LT.lt Nat _ _ _; omega) | (rcases h9 with h9 | h9 <;> (subst h9; show @LT.lt Nat _ _ _; omega)) | (rcases h9 with h9 | h9 | h9 <;> (subst h9; show @LT.lt Nat _ _ _; omega))) (by decide) rfl (Nat.le_of_ble_eq_true rfl) (Nat.le_of_ble_eq_true rfl) (by decide) ?_
  refine n_putRF (n := 721) (b := 720) (pc := 36) (ci := 8) dX8_init_36 fl_X8_19 rfl rfl rfl rfl (by decide) (by decide) ?_
  have ok_4 := (ok_3.up (m := 721) (by decide)).ur (a := 717) (b := 720) (by decide) 4 (by decide)
  refine n_aload_n (pc := 39) dX8_init_39 rfl ?_
  refine n_iconst (v := (-1)) (pc := 40) dX8_init_40 (by decide) ?_
  refine n_putI (n := 721) (pc := 41) (ci := 8) dX8_init_41 fl_X8_23 rfl rfl (by decide) (by decide) ⟨rfl, rfl⟩ ?_
  have ok_5 := ok_4.ui (a := 717) (by decide) 12 (-1)
  refine n_aload_n (pc := 44) dX8_init_44 rfl ?_
  refine n_bipush (v := 7) (pc := 45) dX8_init_45 (by decide) ?_
  refine n_newa (n := 721) (N := 7) (kn := 20) (c' := (4, 2243)) (pc := 47) dX8_init_47 (Or.inl ⟨rfl, rfl⟩) ac_i rfl (by decide) ok_5 (by decide) (by intro b9 h9; simp at h9; first | (subst h9; show @LT.lt Nat _ _ _; omega) | (rcases h9 with h9 | h9 <;> (subst h9; show @LT.lt Nat _ _ _; omega)) | (rcases h9 with h9 | h9 | h9 <;> (subst h9; show @LT.lt Nat _ _ _; omega))) (by intro b9 h9; simp at h9; first | (subst h9; show @LT.lt Nat _ _ _; omega) | (rcases h9 with h9 | h9 <;> (subst h9; show @LT.lt Nat _ _ _; omega)) | (rcases h9 with h9 | h9 | h9 <;> (subst h9; show @LT.lt Nat _ _ _; omega))) (by decide) rfl (Nat.le_of_ble_eq_true rfl) (Nat.le_of_ble_eq_true rfl) (by decide) ?_
  refine n_putRF (n := 722) (b := 721) (pc := 49) (ci := 8) dX8_init_49 fl_X8_27 rfl rfl rfl rfl (by decide) (by decide) ?_
  have ok_6 := (ok_5.up (m := 722) (by decide)).ur (a := 717) (b := 721) (by decide) 15 (by decide)
  refine n_aload_n (pc := 52) dX8_init_52 rfl ?_
  refine n_bipush (v := 24) (pc := 53) dX8_init_53 (by decide) ?_
  refine n_newa (n := 722) (N := 24) (kn := 20) (c' := (5, 2267)) (pc := 55) dX8_init_55 (Or.inl ⟨rfl, rfl⟩) ac_i rfl (by decide) ok_6 (by decide) (by intro b9 h9; simp at h9; first | (subst h9; show @LT.lt Nat _ _ _; omega) | (rcases h9 with h9 | h9 <;> (subst h9; show @LT.lt Nat _ _ _; omega)) | (rcases h9 with h9 | h9 | h9 <;> (subst h9; show @LT.lt Nat _ _ _; omega))) (by intro b9 h9; simp at h9; first | (subst h9; show @LT.lt Nat _ _ _; omega) | (rcases h9 with h9 | h9 <;> (subst h9; show @LT.lt Nat _ _ _; omega)) | (rcases h9 with h9 | h9 | h9 <;> (subst h9; show @LT.lt Nat _ _ _; omega))) (by decide) rfl (Nat.le_of_ble_eq_true rfl) (Nat.le_of_ble_eq_true rfl) (by decide) ?_
  refine n_putRF (n := 723) (b := 722) (pc := 57) (ci := 8) dX8_init_57 fl_X8_30 rfl rfl rfl rfl (by decide) (by decide) ?_
  have ok_7 := (ok_6.up (m := 723) (by decide)).ur (a := 717) (b := 722) (by decide) 16 (by decide)
  refine n_aload_n (pc := 60) dX8_init_60 rfl ?_
  refine n_bipush (v := 24) (pc := 61) dX8_init_61 (by decide) ?_
  refine n_newa (n := 723) (N := 24) (kn := 20) (c' := (6, 2291)) (pc := 63) dX8_init_63 (Or.inl ⟨rfl, rfl⟩) ac_i rfl (by decide) ok_7 (by decide) (by intro b9 h9; simp at h9; first | (subst h9; show @LT.lt Nat _ _ _; omega) | (rcases h9 with h9 | h9 <;> (subst h9; show @LT.lt Nat _ _ _; omega)) | (rcases h9 with h9 | h9 | h9 <;> (subst h9; show @LT.lt Nat _ _ _; omega))) (by intro b9 h9; simp at h9; first | (subst h9; show @LT.lt Nat _ _ _; omega) | (rcases h9 with h9 | h9 <;> (subst h9; show @LT.lt Nat _ _ _; omega)) | (rcases h9 with h9 | h9 | h9 <;> (subst h9; show @LT.lt Nat _ _ _; omega))) (by decide) rfl (Nat.le_of_ble_eq_true rfl) (Nat.le_of_ble_eq_true rfl) (by decide) ?_
  refine n_putRF (n := 724) (b := 723) (pc := 65) (ci := 8) dX8_init_65 fl_X8_33 rfl rfl rfl rfl (by decide) (by decide) ?_
  have ok_8 := (ok_7.up (m := 724) (by decide)).ur (a := 717) (b := 723) (by decide) 17 (by decide)
  refine n_aload_n (pc := 68) dX8_init_68 rfl ?_
  refine n_sipush (v := 5180) (pc := 69) dX8_init_69 (by decide) ?_
  refine n_newa (n := 724) (N := 5180) (kn := 20) (c' := (7, 7471)) (pc := 72) dX8_init_72 (Or.inl ⟨rfl, rfl⟩) ac_i rfl (by decide) ok_8 (by decide) (by intro b9 h9; simp at h9; first | (subst h9; show @LT.lt Nat _ _ _; omega) | (rcases h9 with h9 | h9 <;> (subst h9; show @LT.lt Nat _ _ _; omega)) | (rcases h9 with h9 | h9 | h9 <;> (subst h9; show @LT.lt Nat _ _ _; omega))) (by intro b9 h9; simp at h9; first | (subst h9; show @LT.lt Nat _ _ _; omega) | (rcases h9 with h9 | h9 <;> (subst h9; show @LT.lt Nat _ _ _; omega)) | (rcases h9 with h9 | h9 | h9 <;> (subst h9; show @LT.lt Nat _ _ _; omega))) (by decide) rfl (Nat.le_of_ble_eq_true rfl) (Nat.le_of_ble_eq_true rfl) (by decide) ?_
  refine n_putRF (n := 725) (b := 724) (pc := 74) (ci := 8) dX8_init_74 fl_X8_36 rfl rfl rfl rfl (by decide) (by decide) ?_
  have ok_9 := (ok_8.up (m := 725) (by decide)).ur (a := 717) (b := 724) (by decide) 20 (by decide)
  refine n_aload_n (pc := 77) dX8_init_77 rfl ?_
  refine n_sipush (v := 3000) (pc := 78) dX8_init_78 (by decide) ?_
  refine n_newa (n := 725) (N := 3000) (kn := 21) (c' := (8, 10471)) (pc := 81) dX8_init_81 (Or.inr ⟨rfl, rfl⟩) ac_b rfl (by decide) ok_9 (by decide) (by intro b9 h9; simp at h9; first | (subst h9; show @LT.lt Nat _ _ _; omega) | (rcases h9 with h9 | h9 <;> (subst h9; show @LT.lt Nat _ _ _; omega)) | (rcases h9 with h9 | h9 | h9 <;> (subst h9; show @LT.lt Nat _ _ _; omega))) (by intro b9 h9; simp at h9; first | (subst h9; show @LT.lt Nat _ _ _; omega) | (rcases h9 with h9 | h9 <;> (subst h9; show @LT.lt Nat _ _ _; omega)) | (rcases h9 with h9 | h9 | h9 <;> (subst h9; show @LT.lt Nat _ _ _; omega))) (by decide) rfl (Nat.le_of_ble_eq_true rfl) (Nat.le_of_ble_eq_true rfl) (by decide) ?_
  refine n_putRF (n := 726) (b := 725) (pc := 83) (ci := 8) dX8_init_83 fl_X8_39 rfl rfl rfl rfl (by decide) (by decide) ?_
  have ok_10 := (ok_9.up (m := 726) (by decide)).ur (a := 717) (b := 725) (by decide) 21 (by decide)
  exact n_ret (pc := 86) rfl rfl dX8_init_86 rfl
theorem moC_ok {x : Cn} (ok : Okx 718 x) : Okx 726 (moC x) := by
  have ok_1 := (ok.up (m := 719) (by decide)).ur (a := 717) (b := 718) (by decide) 1 (by decide)
  have ok_2 := (ok_1.up (m := 720) (by decide)).ur (a := 717) (b := 719) (by decide) 2 (by decide)
  have ok_3 := (ok_2.up (m := 720) (by decide)).ur (a := 717) (b := 718) (by decide) 3 (by decide)
  have ok_4 := (ok_3.up (m := 721) (by decide)).ur (a := 717) (b := 720) (by decide) 4 (by decide)
  have ok_5 := ok_4.ui (a := 717) (by decide) 12 (-1)
  have ok_6 := (ok_5.up (m := 722) (by decide)).ur (a := 717) (b := 721) (by decide) 15 (by decide)
  have ok_7 := (ok_6.up (m := 723) (by decide)).ur (a := 717) (b := 722) (by decide) 16 (by decide)
  have ok_8 := (ok_7.up (m := 724) (by decide)).ur (a := 717) (b := 723) (by decide) 17 (by decide)
  have ok_9 := (ok_8.up (m := 725) (by decide)).ur (a := 717) (b := 724) (by decide) 20 (by decide)
  have ok_10 := (ok_9.up (m := 726) (by decide)).ur (a := 717) (b := 725) (by decide) 21 (by decide)
  exact ok_10


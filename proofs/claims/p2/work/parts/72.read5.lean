/-! reading a TEXT, the reference: small steps (good: no fault yet; bad: a fault, then nothing more happens) -/
def QFr (x y : Cn) : Prop := y.2 = x.2 ∧ ∀ a k, ¬ (a = 719 ∨ a = 721 ∨ (a = 717 ∧ 7 ≤ k ∧ k ≤ 14)) → gi y a k = gi x a k
theorem QFr.rf (x : Cn) : QFr x x := ⟨rfl, fun _ _ _ => rfl⟩
theorem QFr.tr {x y z : Cn} (h : QFr x y) (g : QFr y z) : QFr x z := ⟨g.1.trans h.1, fun a k hk => (g.2 a k hk).trans (h.2 a k hk)⟩
theorem QFr.u {x y : Cn} {a k : Nat} {v : Int32} (h : QFr x y) (ha : a = 719 ∨ a = 721 ∨ (a = 717 ∧ 7 ≤ k ∧ k ≤ 14)) : QFr x (ui y a k v) := ⟨h.1, fun c j hj => by rw [gi_ui, if_neg (by omega)]; exact h.2 c j hj⟩
theorem BTf.q {x y : Cn} (h : BTf x y) : QFr x y := ⟨h.1, fun a k hk => h.2 a k (by omega)⟩
/-- the rows stay -/
def TFr (x y : Cn) : Prop := y.2 = x.2 ∧ ∀ a k, ¬ (a = 717 ∧ 7 ≤ k ∧ k ≤ 12) → gi y a k = gi x a k
theorem TFr.rf (x : Cn) : TFr x x := ⟨rfl, fun _ _ _ => rfl⟩
theorem TFr.tr {x y z : Cn} (h : TFr x y) (g : TFr y z) : TFr x z := ⟨g.1.trans h.1, fun a k hk => (g.2 a k hk).trans (h.2 a k hk)⟩
theorem TFr.u {x y : Cn} {k : Nat} {v : Int32} (h : TFr x y) (ha : 7 ≤ k ∧ k ≤ 12) : TFr x (ui y 717 k v) := ⟨h.1, fun c j hj => by rw [gi_ui, if_neg (by omega)]; exact h.2 c j hj⟩
theorem TFr.q {x y : Cn} (h : TFr x y) : QFr x y := ⟨h.1, fun a k hk => h.2 a k (by omega)⟩
theorem BTf.t {x y : Cn} (h : BTf x y) : TFr x y := ⟨h.1, fun a k hk => h.2 a k (by omega)⟩
/-- what stays -/
def RZ (y : Cn) (b : TT) (n : Nat) : Prop := n ≤ 1200 ∧ gi y 717 6 = nI n ∧ gi y 720 = b ∧ (∀ i, i < n → isB (b i)) ∧ MRf y 719
theorem RZ.q {x y : Cn} {b : TT} {n : Nat} (h : RZ x b n) (f : QFr x y) : RZ y b n := ⟨h.1, (f.2 717 6 (by omega)).trans h.2.1, (funext fun i => f.2 720 i (by omega)).trans h.2.2.1, h.2.2.2.1, h.2.2.2.2.keep f.1⟩
def Bd (y : Cn) : Prop := ¬ gi y 717 11 = 0
def RG (y : Cn) (b : TT) (n p : Nat) : Prop := RZ y b n ∧ RTk y b n p ∧ p ≤ n ∧ gi y 717 11 = 0
theorem RTk.mv {x y : Cn} {b : TT} {n p : Nat} (h : RTk x b n p) (h2 : ∀ k, 7 ≤ k → k ≤ 10 → gi y 717 k = gi x 717 k) : RTk y b n p := by
  obtain ⟨e1, e2, e3, e4, e5⟩ := h
  exact ⟨(h2 8 (by omega) (by omega)).trans e1, (h2 7 (by omega) (by omega)).trans e2, (h2 9 (by omega) (by omega)).trans e3, fun z => (h2 10 (by omega) (by omega)).trans (e4 z), fun z => (h2 10 (by omega) (by omega)).trans (e5 z)⟩
theorem RG.u {x : Cn} {b : TT} {n p a k : Nat} {v : Int32} (h : RG x b n p) (ha : a = 719 ∨ a = 721 ∨ (a = 717 ∧ (k = 13 ∨ k = 14))) : RG (ui x a k v) b n p := ⟨h.1.q ((QFr.rf x).u (by omega)), h.2.1.mv (fun j h1 h2 => by rw [gi_ui, if_neg (by omega)]), h.2.2.1, by rw [gi_ui, if_neg (by omega)]; exact h.2.2.2⟩
theorem Bd.u {x : Cn} {a k : Nat} {v : Int32} (h : Bd x) (ha : ¬ (a = 717 ∧ k = 11)) : Bd (ui x a k v) := by
  unfold Bd
  rw [gi_ui, if_neg (by omega)]
  exact h
theorem RTk.k {y : Cn} {b : TT} {n p : Nat} (t : RTk y b n p) (j : Nat) (hj : j < 100) : gi y 717 9 = nI j ↔ tK b n p = j := by
  have := tK_4 b n p
  rw [t.2.2.1]
  exact nI_eq (by omega) (by omega)
theorem ad_r {x : Cn} {Q : Cn → Prop} {b : TT} {n p : Nat} (g : RG x b n p) (k : ∀ y, BTf x y → RG y b n (tE b n p) → Q y) : mSV mX8_advance [.ref 717] KW x Q :=
  sp_X8_advance (p := tE b n p) g.1.2.2.2.2.2.2.2.1 g.1.1 g.1.2.2.1 g.1.2.2.2.1 g.1.2.1 g.2.1.2.1 (tE_b g.2.2.1).2.1 (fun y f t => k y f ⟨g.1.q f.q, t, (tE_b g.2.2.1).2.1, (f.2 717 11 (by omega)).trans g.2.2.2⟩)
set_option maxHeartbeats 2000000 in
theorem v_X8_errs_0 {K : Sh} {x : Cn} {Q : Cn → Prop} {b0 : Nat} {l1 : Int32} {l2 : Int32}  (k_b0 : kk K b0 = some (8, 0)) (K0 : ((gi x b0 11 = 0) → (Q (ui (ui x b0 11 l1) b0 12 l2))) ∧ (¬ (gi x b0 11 = 0) → (Q x))) : mSV mX8_errs [.ref b0, .int l1, .int l2] K x Q := by
  refine s_V (by decide) (by simp [Value.category]) (Nat.le_of_ble_eq_true rfl) ?_
  show mGM mX8_errs 0 [some (.ref b0), some (.int l1), some (.int l2)] [] (hp K x) (PV K Q)
  refine r_aload_n (pc := 0) dX8_errs_0 rfl ?_
  refine s_VI (pc := 1) mX8_good (ci := 8) (a := b0) (As := []) dX8_errs_1 lk_X8_104 in_X8_good mo_X8_good ⟨by decide, rfl⟩ ⟨by decide, by decide⟩ (Nat.le_of_ble_eq_true rfl) k_b0 (sp_X8_good k_b0 ?_)
  refine r_if_ne (pc := 4) (tgt := 8) dX8_errs_4 (by decide) (fun q => ?_) (fun q => ?_)
  · have q := b2i_nz q
    have K0 := K0.1 q
    refine r_aload_n (pc := 8) dX8_errs_8 rfl ?_
    refine r_iload_n (pc := 9) dX8_errs_9 rfl ?_
    refine s_putI (pc := 10) dX8_errs_10 fl_X8_101 rfl rfl k_b0 ?_
    refine r_aload_n (pc := 13) dX8_errs_13 rfl ?_
    refine r_iload_n (pc := 14) dX8_errs_14 rfl ?_
    refine s_putI (pc := 15) dX8_errs_15 fl_X8_23 rfl rfl k_b0 ?_
    exact s_ret rfl dX8_errs_18 K0
  · have q := (b2i_z _).mp q
    have K0 := K0.2 q
    exact s_ret rfl dX8_errs_7 K0
section
theorem sp_X8_errs {x : Cn} {Q : Cn → Prop} {v w : Int32} (hv : ¬ v = 0) (k : ∀ y, TFr x y → Bd y → Q y) : mSV mX8_errs [.ref 717, .int v, .int w] KW x Q := by
  refine v_X8_errs_0 km ⟨fun z => k _ (((TFr.rf x).u (by omega)).u (by omega)) ?_, fun z => k x (TFr.rf x) z⟩
  unfold Bd
  rw [gi_ui, if_neg (by omega), gi_ui, if_pos ⟨rfl, rfl⟩]
  exact hv
theorem sp_X8_errs_b {x : Cn} {Q : Cn → Prop} {v w : Int32} (h : Bd x) (k : Q x) : mSV mX8_errs [.ref 717, .int v, .int w] KW x Q := v_X8_errs_0 km ⟨fun z => absurd z h, fun _ => k⟩
end
set_option maxHeartbeats 2000000 in
theorem v_X8_isWord_0 {K : Sh} {x : Cn} {Q : Int32 → Cn → Prop} {b0 : Nat} {j1 : Nat} {q1 : String × Nat × String × List Int32} (hj1 : mS[j1]? = some q1)  (k_b0 : kk K b0 = some (8, 0)) (K0 : (¬ (gi x b0 11 = 0) → (GI mX8_isWord 39 [some (.ref b0), some (.ref (mSB + j1)), some (.int 0), some (.int 0)] [] K x Q)) ∧ ((gi x b0 11 = 0) → ((¬ (gi x b0 9) = 1 → (GI mX8_isWord 39 [some (.ref b0), some (.ref (mSB + j1)), some (.int 0), some (.int 0)] [] K x Q)) ∧ ((gi x b0 9) = 1 → ((¬ ((gi x b0 7) - (gi x b0 8)) = (nI q1.2.2.2.length) → (GI mX8_isWord 39 [some (.ref b0), some (.ref (mSB + j1)), some (.int 0), some (.int 0)] [] K x Q)) ∧ (((gi x b0 7) - (gi x b0 8)) = (nI q1.2.2.2.length) → (GI mX8_isWord 39 [some (.ref b0), some (.ref (mSB + j1)), some (.int 1), some (.int 0)] [] K x Q))))))) : mSI mX8_isWord [.ref b0, .ref (mSB + j1)] K x Q := by
  refine s_I (by decide) (by simp [Value.category]) (Nat.le_of_ble_eq_true rfl) ?_
  show mGM mX8_isWord 0 [some (.ref b0), some (.ref (mSB + j1)), none, none] [] (hp K x) (PI K Q)
  refine r_aload_n (pc := 0) dX8_isWord_0 rfl ?_
  refine s_VI (pc := 1) mX8_good (ci := 8) (a := b0) (As := []) dX8_isWord_1 lk_X8_104 in_X8_good mo_X8_good ⟨by decide, rfl⟩ ⟨by decide, by decide⟩ (Nat.le_of_ble_eq_true rfl) k_b0 (sp_X8_good k_b0 ?_)
  refine r_if_eq (pc := 4) (tgt := 35) dX8_isWord_4 (by decide) (fun q => ?_) (fun q => ?_)
  · have q := (b2i_z _).mp q
    have K0 := K0.1 q
    refine r_iconst (pc := 35) (v := 0) dX8_isWord_35 (by decide) ?_
    refine r_istore_n (pc := 36) dX8_isWord_36 (by decide) ?_
    refine r_iconst (pc := 37) (L := [some (.ref b0), some (.ref (mSB + j1)), some (.int 0), none]) (v := 0) dX8_isWord_37 (by decide) ?_
    refine r_istore_n (pc := 38) dX8_isWord_38 (by decide) ?_
    exact r_le (L' := [some (.ref b0), some (.ref (mSB + j1)), some (.int 0), some (.int 0)]) ⟨rfl, ⟨rfl, ⟨rfl, ⟨rfl, trivial⟩⟩⟩⟩ K0
  · have q := b2i_nz q
    have K0 := K0.2 q
    refine r_aload_n (pc := 7) dX8_isWord_7 rfl ?_
    refine s_getI (pc := 8) dX8_isWord_8 fl_X8_119 rfl k_b0 ?_
    refine r_iconst (pc := 11) (v := 1) dX8_isWord_11 (by decide) ?_
    refine r_icmp_ne (pc := 12) (tgt := 35) dX8_isWord_12 (by decide) (fun q => ?_) (fun q => ?_)
    · have K0 := K0.1 q
      refine r_iconst (pc := 35) (v := 0) dX8_isWord_35 (by decide) ?_
      refine r_istore_n (pc := 36) dX8_isWord_36 (by decide) ?_
      refine r_iconst (pc := 37) (L := [some (.ref b0), some (.ref (mSB + j1)), some (.int 0), none]) (v := 0) dX8_isWord_37 (by decide) ?_
      refine r_istore_n (pc := 38) dX8_isWord_38 (by decide) ?_
      exact r_le (L' := [some (.ref b0), some (.ref (mSB + j1)), some (.int 0), some (.int 0)]) ⟨rfl, ⟨rfl, ⟨rfl, ⟨rfl, trivial⟩⟩⟩⟩ K0
    · have K0 := K0.2 q
      refine r_aload_n (pc := 15) dX8_isWord_15 rfl ?_
      refine s_getI (pc := 16) dX8_isWord_16 fl_X8_110 rfl k_b0 ?_
      refine r_aload_n (pc := 19) dX8_isWord_19 rfl ?_
      refine s_getI (pc := 20) dX8_isWord_20 fl_X8_116 rfl k_b0 ?_
      refine r_isub (pc := 23) dX8_isWord_23 ?_
      refine r_aload_n (pc := 24) dX8_isWord_24 rfl ?_
      refine s_VIs (pc := 25) mJ0_length_8abf5 (j := j1) (q := q1) (As := []) dX8_isWord_25 lk_X8_138 in_J0_length_8abf5 mo_J0_length_8abf5 hj1 rfl ⟨by decide, by decide⟩ (Nat.le_of_ble_eq_true rfl) (sp_len hj1 ?_)
      refine r_icmp_ne (pc := 28) (tgt := 35) dX8_isWord_28 (by decide) (fun q => ?_) (fun q => ?_)
      · have K0 := K0.1 q
        refine r_iconst (pc := 35) (v := 0) dX8_isWord_35 (by decide) ?_
        refine r_istore_n (pc := 36) dX8_isWord_36 (by decide) ?_
        refine r_iconst (pc := 37) (L := [some (.ref b0), some (.ref (mSB + j1)), some (.int 0), none]) (v := 0) dX8_isWord_37 (by decide) ?_
        refine r_istore_n (pc := 38) dX8_isWord_38 (by decide) ?_
        exact r_le (L' := [some (.ref b0), some (.ref (mSB + j1)), some (.int 0), some (.int 0)]) ⟨rfl, ⟨rfl, ⟨rfl, ⟨rfl, trivial⟩⟩⟩⟩ K0
      · have K0 := K0.2 q
        refine r_iconst (pc := 31) (v := 1) dX8_isWord_31 (by decide) ?_
        refine r_goto (pc := 32) (tgt := 36) dX8_isWord_32 (by decide) ?_
        refine r_istore_n (pc := 36) dX8_isWord_36 (by decide) ?_
        refine r_iconst (pc := 37) (L := [some (.ref b0), some (.ref (mSB + j1)), some (.int 1), none]) (v := 0) dX8_isWord_37 (by decide) ?_
        refine r_istore_n (pc := 38) dX8_isWord_38 (by decide) ?_
        exact r_le (L' := [some (.ref b0), some (.ref (mSB + j1)), some (.int 1), some (.int 0)]) ⟨rfl, ⟨rfl, ⟨rfl, ⟨rfl, trivial⟩⟩⟩⟩ K0
set_option maxHeartbeats 2000000 in
theorem v_X8_isWord_39 {K : Sh} {x : Cn} {Q : Int32 → Cn → Prop} {b0 : Nat} {j1 : Nat} {q1 : String × Nat × String × List Int32} (hj1 : mS[j1]? = some q1) {l2 : Int32} {l3 : Int32} {b0_4 : Nat} {n_b0_4 : Nat} (k_b0 : kk K b0 = some (8, 0)) (g_b0_4 : gr x b0 4 = some b0_4) (k_b0_4 : kk K b0_4 = some (21, n_b0_4)) (K0 : ((nI q1.2.2.2.length) ≤ l3 → ((l2 = 0 ∨ l2 = 1) ∧ (Q l2 x))) ∧ (¬ (nI q1.2.2.2.length) ≤ l3 → ((l2 = 0 → ((l2 = 0 ∨ l2 = 1) ∧ (Q l2 x))) ∧ (¬ l2 = 0 → (vp_in ((gi x b0 8) + l3) n_b0_4 ∧ (∃ n_6 : Nat, l3 = nI n_6 ∧ (n_6 < q1.2.2.2.length ∧ ((¬ (gi x b0_4 (((gi x b0 8) + l3) : Int32).toNatClampNeg) = (q1.2.2.2.getD n_6 0) → (GI mX8_isWord 39 [some (.ref b0), some (.ref (mSB + j1)), some (.int 0), some (.int (l3 + 1))] [] K x Q)) ∧ ((gi x b0_4 (((gi x b0 8) + l3) : Int32).toNatClampNeg) = (q1.2.2.2.getD n_6 0) → (GI mX8_isWord 39 [some (.ref b0), some (.ref (mSB + j1)), some (.int 1), some (.int (l3 + 1))] [] K x Q)))))))))) : GI mX8_isWord 39 [some (.ref b0), some (.ref (mSB + j1)), some (.int l2), some (.int l3)] [] K x Q := by
  show mGM mX8_isWord 39 [some (.ref b0), some (.ref (mSB + j1)), some (.int l2), some (.int l3)] [] (hp K x) (PI K Q)
  refine r_iload_n (pc := 39) dX8_isWord_39 rfl ?_
  refine r_aload_n (pc := 40) dX8_isWord_40 rfl ?_
  refine s_VIs (pc := 41) mJ0_length_8abf5 (j := j1) (q := q1) (As := []) dX8_isWord_41 lk_X8_138 in_J0_length_8abf5 mo_J0_length_8abf5 hj1 rfl ⟨by decide, by decide⟩ (Nat.le_of_ble_eq_true rfl) (sp_len hj1 ?_)
  refine r_icmp_ge (pc := 44) (tgt := 82) dX8_isWord_44 (by decide) (fun q => ?_) (fun q => ?_)
  · have K0 := K0.1 q
    refine r_iload_n (pc := 82) dX8_isWord_82 rfl ?_
    obtain ⟨p_2, K0⟩ := K0
    exact s_zret rfl p_2 dX8_isWord_83 K0
  · have K0 := K0.2 q
    refine r_iload_n (pc := 47) dX8_isWord_47 rfl ?_
    refine r_if_eq (pc := 48) (tgt := 82) dX8_isWord_48 (by decide) (fun q => ?_) (fun q => ?_)
    · have K0 := K0.1 q
      refine r_iload_n (pc := 82) dX8_isWord_82 rfl ?_
      obtain ⟨p_4, K0⟩ := K0
      exact s_zret rfl p_4 dX8_isWord_83 K0
    · have K0 := K0.2 q
      refine r_aload_n (pc := 51) dX8_isWord_51 rfl ?_
      refine s_getR (pc := 52) dX8_isWord_52 fl_X8_19 rfl k_b0 g_b0_4 ?_
      refine r_aload_n (pc := 55) dX8_isWord_55 rfl ?_
      refine s_getI (pc := 56) dX8_isWord_56 fl_X8_116 rfl k_b0 ?_
      refine r_iload_n (pc := 59) dX8_isWord_59 rfl ?_
      refine r_iadd (pc := 60) dX8_isWord_60 ?_
      obtain ⟨i_5, K0⟩ := K0
      refine s_bald (pc := 61) dX8_isWord_61 k_b0_4 i_5 ?_
      refine r_aload_n (pc := 62) dX8_isWord_62 rfl ?_
      refine r_iload_n (pc := 63) dX8_isWord_63 rfl ?_
      obtain ⟨n_6, en_6, un_6, K0⟩ := K0
      refine s_VIs (pc := 64) mJ0_charAt_5068e (j := j1) (q := q1) (As := [.int l3]) dX8_isWord_64 lk_X8_143 in_J0_charAt_5068e mo_J0_charAt_5068e hj1 rfl ⟨by decide, by decide⟩ (Nat.le_of_ble_eq_true rfl) (sp_chv hj1 en_6 un_6 ?_)
      refine r_icmp_ne (pc := 67) (tgt := 74) dX8_isWord_67 (by decide) (fun q => ?_) (fun q => ?_)
      · have K0 := K0.1 q
        refine r_iconst (pc := 74) (v := 0) dX8_isWord_74 (by decide) ?_
        refine r_istore_n (pc := 75) dX8_isWord_75 (by decide) ?_
        refine r_iinc (pc := 76) (L := [some (.ref b0), some (.ref (mSB + j1)), some (.int 0), some (.int l3)]) (v := l3 + 1) dX8_isWord_76 rfl rfl (by decide) ?_
        refine r_goto (pc := 79) (L := [some (.ref b0), some (.ref (mSB + j1)), some (.int 0), some (.int (l3 + 1))]) (tgt := 39) dX8_isWord_79 (by decide) ?_
        exact r_le (L' := [some (.ref b0), some (.ref (mSB + j1)), some (.int 0), some (.int (l3 + 1))]) ⟨rfl, ⟨rfl, ⟨rfl, ⟨rfl, trivial⟩⟩⟩⟩ K0
      · have K0 := K0.2 q
        refine r_iconst (pc := 70) (v := 1) dX8_isWord_70 (by decide) ?_
        refine r_goto (pc := 71) (tgt := 75) dX8_isWord_71 (by decide) ?_
        refine r_istore_n (pc := 75) dX8_isWord_75 (by decide) ?_
        refine r_iinc (pc := 76) (L := [some (.ref b0), some (.ref (mSB + j1)), some (.int 1), some (.int l3)]) (v := l3 + 1) dX8_isWord_76 rfl rfl (by decide) ?_
        refine r_goto (pc := 79) (L := [some (.ref b0), some (.ref (mSB + j1)), some (.int 1), some (.int (l3 + 1))]) (tgt := 39) dX8_isWord_79 (by decide) ?_
        exact r_le (L' := [some (.ref b0), some (.ref (mSB + j1)), some (.int 1), some (.int (l3 + 1))]) ⟨rfl, ⟨rfl, ⟨rfl, ⟨rfl, trivial⟩⟩⟩⟩ K0
section
theorem lp_X8_isWord_z {x : Cn} {Q : Int32 → Cn → Prop} {j i : Nat} {q : String × Nat × String × List Int32} (hj : mS[j]? = some q) (c : gr x 717 4 = some 720) (k : Q 0 x) : GI mX8_isWord 39 [some (.ref 717), some (.ref (mSB + j)), some (.int 0), some (.int (nI i))] [] KW x Q :=
  v_X8_isWord_39 hj km c k720 ⟨fun _ => ⟨Or.inl rfl, k⟩, fun _ => ⟨fun _ => ⟨Or.inl rfl, k⟩, fun z => absurd rfl z⟩⟩
theorem lp_X8_isWord_o {x : Cn} {Q : Int32 → Cn → Prop} {b : TT} {s e j : Nat} {q : String × Nat × String × List Int32} (hj : mS[j]? = some q) (c : gr x 717 4 = some 720) (hb : gi x 720 = b) (h8 : gi x 717 8 = nI s) (he : e ≤ 1200) (hl : s + q.2.2.2.length = e) : ∀ (l : List Int32) (i : Nat), q.2.2.2.drop i = l → i ≤ q.2.2.2.length → Q (b2i (mtb b e l (s + i) = true)) x → GI mX8_isWord 39 [some (.ref 717), some (.ref (mSB + j)), some (.int 1), some (.int (nI i))] [] KW x Q := by
  intro l
  induction l with
  | nil =>
    intro i hd hi k
    have hi2 : q.2.2.2.length ≤ i := List.drop_eq_nil_iff.mp hd
    have e1 : b2i (mtb b e [] (s + i) = true) = 1 := b2i_t (decide_eq_true (by omega))
    rw [e1] at k
    exact v_X8_isWord_39 hj km c k720 ⟨fun _ => ⟨Or.inr rfl, k⟩, fun z => absurd (nI_le hi2 (by omega)) z⟩
  | cons ch l ih =>
    intro i hd hi k
    have hlt : i < q.2.2.2.length := by
      rcases Nat.lt_or_ge i q.2.2.2.length with w | w
      · exact w
      · rw [List.drop_eq_nil_of_le w] at hd; cases hd
    have hch : q.2.2.2.getD i 0 = ch := by rw [List.getD_eq_getElem?_getD, ← List.head?_drop, hd]; rfl
    have hd2 : q.2.2.2.drop (i + 1) = l := by rw [← List.tail_drop, hd]; rfl
    refine v_X8_isWord_39 hj km c k720 ⟨fun z => absurd z (nI_ge hlt (by omega)), fun _ => ⟨fun z => absurd z (by decide), fun _ => ?_⟩⟩
    rw [h8, nI_add, nI_clamp (by omega), hb]
    refine ⟨vp_in_nI (by omega) (by decide), i, rfl, hlt, ?_⟩
    rw [hch, ← nI_succ]
    refine ⟨fun z => ?_, fun z => ?_⟩
    · have e1 : b2i (mtb b e (ch :: l) (s + i) = true) = 0 := b2i_f (fun w => by
        simp only [mtb, Bool.and_eq_true, decide_eq_true_eq] at w
        exact z w.1.2)
      rw [e1] at k
      exact lp_X8_isWord_z hj c k
    · have e1 : b2i (mtb b e (ch :: l) (s + i) = true) = b2i (mtb b e l (s + (i + 1)) = true) := b2i_cg (by
        simp only [mtb, Bool.and_eq_true, decide_eq_true_eq]
        constructor
        · intro w; exact w.2
        · intro w; exact ⟨⟨by omega, z⟩, w⟩)
      rw [e1] at k
      exact ih (i + 1) hd2 (by omega) k
theorem sp_X8_isWord_b {x : Cn} {Q : Int32 → Cn → Prop} {j : Nat} (hj : j < 37) (c : gr x 717 4 = some 720) (h : Bd x) (k : Q 0 x) : mSI mX8_isWord [.ref 717, .ref (mSB + j)] KW x Q :=
  v_X8_isWord_0 (mSq_at hj) km ⟨fun _ => lp_X8_isWord_z (i := 0) (mSq_at hj) c k, fun z => absurd z h⟩
theorem mtb_len {b : TT} {e : Nat} : ∀ (l : List Int32) (a : Nat), mtb b e l a = true → a + l.length = e := by
  intro l
  induction l with
  | nil => intro a h; simpa [mtb] using h
  | cons c l ih =>
    intro a h
    simp only [mtb, Bool.and_eq_true] at h
    have := ih (a + 1) h.2
    simp only [List.length_cons]
    omega
/-- the words by their places among the constants -/
def wj (i j : Nat) : Prop := i < 16 ∧ j < 37 ∧ (mSq j).2.2.2 = WL.getD i []
theorem sp_X8_isWord {x : Cn} {Q : Int32 → Cn → Prop} {b : TT} {n p i j : Nat} (w : wj i j) (g : RG x b n p) (k1 : iw b n p i → Q 1 x) (k0 : ¬ iw b n p i → Q 0 x) : mSI mX8_isWord [.ref 717, .ref (mSB + j)] KW x Q := by
  obtain ⟨hi, hj, hw⟩ := w
  have hE := tE_b (b := b) g.2.2.1
  have ek : gi x 717 9 = 1 ↔ tK b n p = 1 := g.2.1.k 1 (by omega)
  have c := g.1.2.2.2.2.2.2.2.1
  have hl16 : (mSq j).2.2.2.length < 2000 := by
    have : ∀ i, i < 16 → (WL.getD i []).length < 2000 := by decide
    rw [hw]
    exact this i hi
  have hn := g.1.1
  refine v_X8_isWord_0 (mSq_at hj) km ⟨fun z => absurd g.2.2.2 z, fun _ => ?_⟩
  rw [ek, g.2.1.1, g.2.1.2.1, nI_sb hE.1, nI_eq (by omega) (by omega)]
  refine ⟨fun z => lp_X8_isWord_z (i := 0) (mSq_at hj) c (k0 (fun o => z o.1)), fun z => ⟨fun z2 => lp_X8_isWord_z (i := 0) (mSq_at hj) c (k0 (fun o => ?_)), fun z2 => ?_⟩⟩
  · have := mtb_len _ _ ((wno_i hi).mp o.2)
    rw [← hw] at this
    omega
  · refine lp_X8_isWord_o (b := b) (s := tS b n p) (e := tE b n p) (mSq_at hj) c g.1.2.2.1 g.2.1.1 (by omega) (by omega) _ 0 rfl (by omega) ?_
    rw [List.drop_zero, hw, Nat.add_zero]
    by_cases m : mtb b (tE b n p) (WL.getD i []) (tS b n p) = true
    · rw [b2i_t m]; exact k1 ⟨z, (wno_i hi).mpr m⟩
    · rw [b2i_f m]; exact k0 (fun o => m ((wno_i hi).mp o.2))
end
set_option maxHeartbeats 2000000 in
theorem v_X8_eats_0 {K : Sh} {x : Cn} {Q : Int32 → Cn → Prop} {b0 : Nat} {b1 : Nat}  (k_b0 : kk K b0 = some (8, 0)) (K0 : mSI mX8_isWord [.ref b0, .ref b1] K x (fun r_2 y_1 => (¬ r_2 = 0 → (mSV mX8_advance [.ref b0] K y_1 (fun y_4 => Q 1 y_4))) ∧ (r_2 = 0 → (Q 0 y_1)))) : mSI mX8_eats [.ref b0, .ref b1] K x Q := by
  refine s_I (by decide) (by simp [Value.category]) (Nat.le_of_ble_eq_true rfl) ?_
  show mGM mX8_eats 0 [some (.ref b0), some (.ref b1)] [] (hp K x) (PI K Q)
  refine r_aload_n (pc := 0) dX8_eats_0 rfl ?_
  refine r_aload_n (pc := 1) dX8_eats_1 rfl ?_
  refine s_VI (pc := 2) mX8_isWord (ci := 8) (a := b0) (As := [.ref b1]) dX8_eats_2 lk_X8_147 in_X8_isWord mo_X8_isWord ⟨by decide, rfl⟩ ⟨by decide, by decide⟩ (Nat.le_of_ble_eq_true rfl) k_b0 (mSI_mono K0 (fun r_2 y_1 K0 => ?_))
  refine r_if_ne (pc := 5) (tgt := 10) dX8_eats_5 (by decide) (fun q => ?_) (fun q => ?_)
  · have K0 := K0.1 q
    refine r_aload_n (pc := 10) dX8_eats_10 rfl ?_
    refine s_VV (pc := 11) mX8_advance (ci := 8) (a := b0) (As := []) dX8_eats_11 lk_X8_151 in_X8_advance mo_X8_advance ⟨by decide, rfl⟩ ⟨by decide, by decide⟩ (Nat.le_of_ble_eq_true rfl) k_b0 (mSV_mono K0 (fun y_4 K0 => ?_))
    refine r_iconst (pc := 14) (v := 1) dX8_eats_14 (by decide) ?_
    exact s_zret rfl (by decide) dX8_eats_15 K0
  · have K0 := K0.2 q
    refine r_iconst (pc := 8) (v := 0) dX8_eats_8 (by decide) ?_
    exact s_zret rfl (by decide) dX8_eats_9 K0
section
theorem sp_X8_eats {x : Cn} {Q : Int32 → Cn → Prop} {b : TT} {n p i j : Nat} (w : wj i j) (g : RG x b n p) (k1 : iw b n p i → ∀ y, BTf x y → RG y b n (tE b n p) → Q 1 y) (k0 : ¬ iw b n p i → Q 0 x) : mSI mX8_eats [.ref 717, .ref (mSB + j)] KW x Q :=
  v_X8_eats_0 km (sp_X8_isWord w g (fun o => ⟨fun _ => ad_r g (k1 o), fun z => absurd z (by decide)⟩) (fun o => ⟨fun z => absurd rfl z, fun _ => k0 o⟩))
theorem sp_X8_eats_b {x : Cn} {Q : Int32 → Cn → Prop} {j : Nat} (hj : j < 37) (c : gr x 717 4 = some 720) (h : Bd x) (k : Q 0 x) : mSI mX8_eats [.ref 717, .ref (mSB + j)] KW x Q :=
  v_X8_eats_0 km (sp_X8_isWord_b hj c h ⟨fun z => absurd rfl z, fun _ => k⟩)
end
set_option maxHeartbeats 2000000 in
theorem v_X8_passes_0 {K : Sh} {x : Cn} {Q : Cn → Prop} {b0 : Nat} {b1 : Nat}  (k_b0 : kk K b0 = some (8, 0)) (K0 : mSI mX8_eats [.ref b0, .ref b1] K x (fun r_2 y_1 => (¬ r_2 = 0 → (Q y_1)) ∧ (r_2 = 0 → (mSV mX8_errs [.ref b0, .int 1, .int (gi y_1 b0 8)] K y_1 (fun y_4 => Q y_4))))) : mSV mX8_passes [.ref b0, .ref b1] K x Q := by
  refine s_V (by decide) (by simp [Value.category]) (Nat.le_of_ble_eq_true rfl) ?_
  show mGM mX8_passes 0 [some (.ref b0), some (.ref b1)] [] (hp K x) (PV K Q)
  refine r_aload_n (pc := 0) dX8_passes_0 rfl ?_
  refine r_aload_n (pc := 1) dX8_passes_1 rfl ?_
  refine s_VI (pc := 2) mX8_eats (ci := 8) (a := b0) (As := [.ref b1]) dX8_passes_2 lk_X8_154 in_X8_eats mo_X8_eats ⟨by decide, rfl⟩ ⟨by decide, by decide⟩ (Nat.le_of_ble_eq_true rfl) k_b0 (mSI_mono K0 (fun r_2 y_1 K0 => ?_))
  refine r_if_ne (pc := 5) (tgt := 17) dX8_passes_5 (by decide) (fun q => ?_) (fun q => ?_)
  · have K0 := K0.1 q
    exact s_ret rfl dX8_passes_17 K0
  · have K0 := K0.2 q
    refine r_aload_n (pc := 8) dX8_passes_8 rfl ?_
    refine r_iconst (pc := 9) (v := 1) dX8_passes_9 (by decide) ?_
    refine r_aload_n (pc := 10) dX8_passes_10 rfl ?_
    refine s_getI (pc := 11) dX8_passes_11 fl_X8_116 rfl k_b0 ?_
    refine s_VV (pc := 14) mX8_errs (ci := 8) (a := b0) (As := [.int 1, .int (gi y_1 b0 8)]) dX8_passes_14 lk_X8_157 in_X8_errs mo_X8_errs ⟨by decide, rfl⟩ ⟨by decide, by decide⟩ (Nat.le_of_ble_eq_true rfl) k_b0 (mSV_mono K0 (fun y_4 K0 => ?_))
    exact s_ret rfl dX8_passes_17 K0
section
theorem sp_X8_passes {x : Cn} {Q : Cn → Prop} {b : TT} {n p i j : Nat} (w : wj i j) (g : RG x b n p) (k1 : iw b n p i → ∀ y, BTf x y → RG y b n (tE b n p) → Q y) (k0 : ¬ iw b n p i → ∀ y, TFr x y → Bd y → Q y) : mSV mX8_passes [.ref 717, .ref (mSB + j)] KW x Q :=
  v_X8_passes_0 km (sp_X8_eats w g (fun o y f g' => ⟨fun _ => k1 o y f g', fun z => absurd z (by decide)⟩) (fun o => ⟨fun z => absurd rfl z, fun _ => sp_X8_errs (by decide) (k0 o)⟩))
theorem sp_X8_passes_b {x : Cn} {Q : Cn → Prop} {j : Nat} (hj : j < 37) (c : gr x 717 4 = some 720) (h : Bd x) (k : Q x) : mSV mX8_passes [.ref 717, .ref (mSB + j)] KW x Q :=
  v_X8_passes_0 km (sp_X8_eats_b hj c h ⟨fun z => absurd rfl z, fun _ => sp_X8_errs_b h k⟩)
end
set_option maxHeartbeats 2000000 in
theorem v_X8_passesByte_0 {K : Sh} {x : Cn} {Q : Cn → Prop} {b0 : Nat} {l1 : Int32}  (k_b0 : kk K b0 = some (8, 0)) (K0 : ((gi x b0 11 = 0 ∧ gi x b0 9 = 3 ∧ gi x b0 10 = l1) → ((¬ (gi x b0 11 = 0) → (Q x)) ∧ ((gi x b0 11 = 0) → (mSV mX8_advance [.ref b0] K x (fun y_3 => Q y_3))))) ∧ (¬ (gi x b0 11 = 0 ∧ gi x b0 9 = 3 ∧ gi x b0 10 = l1) → (mSV mX8_errs [.ref b0, .int 1, .int (gi x b0 8)] K x (fun y_4 => (¬ (gi y_4 b0 11 = 0) → (Q y_4)) ∧ ((gi y_4 b0 11 = 0) → (mSV mX8_advance [.ref b0] K y_4 (fun y_6 => Q y_6))))))) : mSV mX8_passesByte [.ref b0, .int l1] K x Q := by
  refine s_V (by decide) (by simp [Value.category]) (Nat.le_of_ble_eq_true rfl) ?_
  show mGM mX8_passesByte 0 [some (.ref b0), some (.int l1)] [] (hp K x) (PV K Q)
  refine r_aload_n (pc := 0) dX8_passesByte_0 rfl ?_
  refine r_iload_n (pc := 1) dX8_passesByte_1 rfl ?_
  refine s_VI (pc := 2) mX8_isByte (ci := 8) (a := b0) (As := [.int l1]) dX8_passesByte_2 lk_X8_161 in_X8_isByte mo_X8_isByte ⟨by decide, rfl⟩ ⟨by decide, by decide⟩ (Nat.le_of_ble_eq_true rfl) k_b0 (sp_X8_isByte k_b0 ?_)
  refine r_if_ne (pc := 5) (tgt := 17) dX8_passesByte_5 (by decide) (fun q => ?_) (fun q => ?_)
  · have q := b2i_nz q
    have K0 := K0.1 q
    refine r_aload_n (pc := 17) dX8_passesByte_17 rfl ?_
    refine s_VI (pc := 18) mX8_good (ci := 8) (a := b0) (As := []) dX8_passesByte_18 lk_X8_104 in_X8_good mo_X8_good ⟨by decide, rfl⟩ ⟨by decide, by decide⟩ (Nat.le_of_ble_eq_true rfl) k_b0 (sp_X8_good k_b0 ?_)
    refine r_if_eq (pc := 21) (tgt := 28) dX8_passesByte_21 (by decide) (fun q => ?_) (fun q => ?_)
    · have q := (b2i_z _).mp q
      have K0 := K0.1 q
      exact s_ret rfl dX8_passesByte_28 K0
    · have q := b2i_nz q
      have K0 := K0.2 q
      refine r_aload_n (pc := 24) dX8_passesByte_24 rfl ?_
      refine s_VV (pc := 25) mX8_advance (ci := 8) (a := b0) (As := []) dX8_passesByte_25 lk_X8_151 in_X8_advance mo_X8_advance ⟨by decide, rfl⟩ ⟨by decide, by decide⟩ (Nat.le_of_ble_eq_true rfl) k_b0 (mSV_mono K0 (fun y_3 K0 => ?_))
      exact s_ret rfl dX8_passesByte_28 K0
  · have q := (b2i_z _).mp q
    have K0 := K0.2 q
    refine r_aload_n (pc := 8) dX8_passesByte_8 rfl ?_
    refine r_iconst (pc := 9) (v := 1) dX8_passesByte_9 (by decide) ?_
    refine r_aload_n (pc := 10) dX8_passesByte_10 rfl ?_
    refine s_getI (pc := 11) dX8_passesByte_11 fl_X8_116 rfl k_b0 ?_
    refine s_VV (pc := 14) mX8_errs (ci := 8) (a := b0) (As := [.int 1, .int (gi x b0 8)]) dX8_passesByte_14 lk_X8_157 in_X8_errs mo_X8_errs ⟨by decide, rfl⟩ ⟨by decide, by decide⟩ (Nat.le_of_ble_eq_true rfl) k_b0 (mSV_mono K0 (fun y_4 K0 => ?_))
    refine r_aload_n (pc := 17) dX8_passesByte_17 rfl ?_
    refine s_VI (pc := 18) mX8_good (ci := 8) (a := b0) (As := []) dX8_passesByte_18 lk_X8_104 in_X8_good mo_X8_good ⟨by decide, rfl⟩ ⟨by decide, by decide⟩ (Nat.le_of_ble_eq_true rfl) k_b0 (sp_X8_good k_b0 ?_)
    refine r_if_eq (pc := 21) (tgt := 28) dX8_passesByte_21 (by decide) (fun q => ?_) (fun q => ?_)
    · have q := (b2i_z _).mp q
      have K0 := K0.1 q
      exact s_ret rfl dX8_passesByte_28 K0
    · have q := b2i_nz q
      have K0 := K0.2 q
      refine r_aload_n (pc := 24) dX8_passesByte_24 rfl ?_
      refine s_VV (pc := 25) mX8_advance (ci := 8) (a := b0) (As := []) dX8_passesByte_25 lk_X8_151 in_X8_advance mo_X8_advance ⟨by decide, rfl⟩ ⟨by decide, by decide⟩ (Nat.le_of_ble_eq_true rfl) k_b0 (mSV_mono K0 (fun y_6 K0 => ?_))
      exact s_ret rfl dX8_passesByte_28 K0
section
theorem sp_X8_passesByte {x : Cn} {Q : Cn → Prop} {b : TT} {n p : Nat} {v : Int32} (hv : v = 59 ∨ v = 45) (g : RG x b n p) (k1 : sg b n p v → ∀ y, BTf x y → RG y b n (tE b n p) → Q y) (k0 : ¬ sg b n p v → ∀ y, TFr x y → Bd y → Q y) : mSV mX8_passesByte [.ref 717, .int v] KW x Q := by
  have ek : gi x 717 9 = 3 ↔ tK b n p = 3 := g.2.1.k 3 (by omega)
  have es : (gi x 717 11 = 0 ∧ gi x 717 9 = 3 ∧ gi x 717 10 = v) ↔ sg b n p v := by
    unfold sg
    rw [ek]
    have key : tK b n p = 3 → (gi x 717 10 = v ↔ b (tS b n p) = v) := by
      intro z
      have hlt : tS b n p < n := by
        have h1 := tK_0 (b := b) g.2.2.1
        have h2 := tS_b (b := b) g.2.2.1
        omega
      have fb := FB_of (g.1.2.2.2.1 _ hlt)
      rw [g.2.1.2.2.2.2 z]
      rcases hv with rfl | rfl
      · exact fb.2.2.2.2.1
      · exact fb.2.2.2.2.2.1
    constructor
    · intro h; exact ⟨h.2.1, (key h.2.1).mp h.2.2⟩
    · intro h; exact ⟨g.2.2.2, h.1, (key h.1).mpr h.2⟩
  refine v_X8_passesByte_0 km ?_
  rw [es]
  exact ⟨fun o => ⟨fun z => absurd g.2.2.2 z, fun _ => ad_r g (k1 o)⟩, fun o => sp_X8_errs (by decide) (fun y f h => ⟨fun _ => k0 o y f h, fun z => absurd z h⟩)⟩
theorem sp_X8_passesByte_b {x : Cn} {Q : Cn → Prop} {v : Int32} (h : Bd x) (k : Q x) : mSV mX8_passesByte [.ref 717, .int v] KW x Q :=
  v_X8_passesByte_0 km ⟨fun o => absurd o.1 h, fun _ => sp_X8_errs_b h ⟨fun _ => k, fun z => absurd z h⟩⟩
end
set_option maxHeartbeats 2000000 in
theorem v_X8_number_0 {K : Sh} {x : Cn} {Q : Int32 → Cn → Prop} {b0 : Nat} {l1 : Int32} {l2 : Int32}  (k_b0 : kk K b0 = some (8, 0)) (K0 : (¬ (gi x b0 11 = 0) → (GI mX8_number 24 [some (.ref b0), some (.int l1), some (.int l2), none] [] K x Q)) ∧ ((gi x b0 11 = 0) → (((gi x b0 9) = 2 → (GI mX8_number 24 [some (.ref b0), some (.int l1), some (.int l2), none] [] K x Q)) ∧ (¬ (gi x b0 9) = 2 → (mSV mX8_errs [.ref b0, .int 1, .int (gi x b0 8)] K x (fun y_3 => GI mX8_number 24 [some (.ref b0), some (.int l1), some (.int l2), none] [] K y_3 Q)))))) : mSI mX8_number [.ref b0, .int l1, .int l2] K x Q := by
  refine s_I (by decide) (by simp [Value.category]) (Nat.le_of_ble_eq_true rfl) ?_
  show mGM mX8_number 0 [some (.ref b0), some (.int l1), some (.int l2), none] [] (hp K x) (PI K Q)
  refine r_aload_n (pc := 0) dX8_number_0 rfl ?_
  refine s_VI (pc := 1) mX8_good (ci := 8) (a := b0) (As := []) dX8_number_1 lk_X8_104 in_X8_good mo_X8_good ⟨by decide, rfl⟩ ⟨by decide, by decide⟩ (Nat.le_of_ble_eq_true rfl) k_b0 (sp_X8_good k_b0 ?_)
  refine r_if_eq (pc := 4) (tgt := 24) dX8_number_4 (by decide) (fun q => ?_) (fun q => ?_)
  · have q := (b2i_z _).mp q
    have K0 := K0.1 q
    exact r_le (L' := [some (.ref b0), some (.int l1), some (.int l2), none]) ⟨rfl, ⟨rfl, ⟨rfl, trivial⟩⟩⟩ K0
  · have q := b2i_nz q
    have K0 := K0.2 q
    refine r_aload_n (pc := 7) dX8_number_7 rfl ?_
    refine s_getI (pc := 8) dX8_number_8 fl_X8_119 rfl k_b0 ?_
    refine r_iconst (pc := 11) (v := 2) dX8_number_11 (by decide) ?_
    refine r_icmp_eq (pc := 12) (tgt := 24) dX8_number_12 (by decide) (fun q => ?_) (fun q => ?_)
    · have K0 := K0.1 q
      exact r_le (L' := [some (.ref b0), some (.int l1), some (.int l2), none]) ⟨rfl, ⟨rfl, ⟨rfl, trivial⟩⟩⟩ K0
    · have K0 := K0.2 q
      refine r_aload_n (pc := 15) dX8_number_15 rfl ?_
      refine r_iconst (pc := 16) (v := 1) dX8_number_16 (by decide) ?_
      refine r_aload_n (pc := 17) dX8_number_17 rfl ?_
      refine s_getI (pc := 18) dX8_number_18 fl_X8_116 rfl k_b0 ?_
      refine s_VV (pc := 21) mX8_errs (ci := 8) (a := b0) (As := [.int 1, .int (gi x b0 8)]) dX8_number_21 lk_X8_157 in_X8_errs mo_X8_errs ⟨by decide, rfl⟩ ⟨by decide, by decide⟩ (Nat.le_of_ble_eq_true rfl) k_b0 (mSV_mono K0 (fun y_3 K0 => ?_))
      exact r_le (L' := [some (.ref b0), some (.int l1), some (.int l2), none]) ⟨rfl, ⟨rfl, ⟨rfl, trivial⟩⟩⟩ K0
set_option maxHeartbeats 2000000 in
theorem v_X8_number_24 {K : Sh} {x : Cn} {Q : Int32 → Cn → Prop} {b0 : Nat} {l1 : Int32} {l2 : Int32}  (k_b0 : kk K b0 = some (8, 0)) (K0 : (¬ (gi x b0 11 = 0) → (GI mX8_number 55 [some (.ref b0), some (.int l1), some (.int l2), none] [] K x Q)) ∧ ((gi x b0 11 = 0) → (((l1 ≤ (gi x b0 10) ∧ (gi x b0 10) ≤ l2) → (GI mX8_number 55 [some (.ref b0), some (.int l1), some (.int l2), none] [] K x Q)) ∧ (¬ (l1 ≤ (gi x b0 10) ∧ (gi x b0 10) ≤ l2) → (mSV mX8_errs [.ref b0, .int 2, .int (gi x b0 8)] K x (fun y_3 => GI mX8_number 55 [some (.ref b0), some (.int l1), some (.int l2), none] [] K y_3 Q)))))) : GI mX8_number 24 [some (.ref b0), some (.int l1), some (.int l2), none] [] K x Q := by
  show mGM mX8_number 24 [some (.ref b0), some (.int l1), some (.int l2), none] [] (hp K x) (PI K Q)
  refine r_aload_n (pc := 24) dX8_number_24 rfl ?_
  refine s_VI (pc := 25) mX8_good (ci := 8) (a := b0) (As := []) dX8_number_25 lk_X8_104 in_X8_good mo_X8_good ⟨by decide, rfl⟩ ⟨by decide, by decide⟩ (Nat.le_of_ble_eq_true rfl) k_b0 (sp_X8_good k_b0 ?_)
  refine r_if_eq (pc := 28) (tgt := 55) dX8_number_28 (by decide) (fun q => ?_) (fun q => ?_)
  · have q := (b2i_z _).mp q
    have K0 := K0.1 q
    exact r_le (L' := [some (.ref b0), some (.int l1), some (.int l2), none]) ⟨rfl, ⟨rfl, ⟨rfl, trivial⟩⟩⟩ K0
  · have q := b2i_nz q
    have K0 := K0.2 q
    refine r_aload_n (pc := 31) dX8_number_31 rfl ?_
    refine s_getI (pc := 32) dX8_number_32 fl_X8_130 rfl k_b0 ?_
    refine r_i2l (pc := 35) dX8_number_35 ?_
    refine r_iload_n (pc := 36) dX8_number_36 rfl ?_
    refine r_i2l (pc := 37) dX8_number_37 ?_
    refine r_iload_n (pc := 38) dX8_number_38 rfl ?_
    refine r_i2l (pc := 39) dX8_number_39 ?_
    refine s_SI (pc := 40) mX8_in (As := [.long (((gi x b0 10) : Int32).toInt64), .long ((l1 : Int32).toInt64), .long ((l2 : Int32).toInt64)]) dX8_number_40 lk_X8_45 st_X8_in mo_X8_in ⟨by decide, by decide⟩ (Nat.le_of_ble_eq_true rfl) (sq_X8_in (v := (gi x b0 10)) (lo := l1) (hi := l2) rfl rfl rfl ?_)
    refine r_if_ne (pc := 43) (tgt := 55) dX8_number_43 (by decide) (fun q => ?_) (fun q => ?_)
    · have q := b2i_nz q
      have K0 := K0.1 q
      exact r_le (L' := [some (.ref b0), some (.int l1), some (.int l2), none]) ⟨rfl, ⟨rfl, ⟨rfl, trivial⟩⟩⟩ K0
    · have q := (b2i_z _).mp q
      have K0 := K0.2 q
      refine r_aload_n (pc := 46) dX8_number_46 rfl ?_
      refine r_iconst (pc := 47) (v := 2) dX8_number_47 (by decide) ?_
      refine r_aload_n (pc := 48) dX8_number_48 rfl ?_
      refine s_getI (pc := 49) dX8_number_49 fl_X8_116 rfl k_b0 ?_
      refine s_VV (pc := 52) mX8_errs (ci := 8) (a := b0) (As := [.int 2, .int (gi x b0 8)]) dX8_number_52 lk_X8_157 in_X8_errs mo_X8_errs ⟨by decide, rfl⟩ ⟨by decide, by decide⟩ (Nat.le_of_ble_eq_true rfl) k_b0 (mSV_mono K0 (fun y_3 K0 => ?_))
      exact r_le (L' := [some (.ref b0), some (.int l1), some (.int l2), none]) ⟨rfl, ⟨rfl, ⟨rfl, trivial⟩⟩⟩ K0
set_option maxHeartbeats 2000000 in
theorem v_X8_number_55 {K : Sh} {x : Cn} {Q : Int32 → Cn → Prop} {b0 : Nat} {l1 : Int32} {l2 : Int32}  (k_b0 : kk K b0 = some (8, 0)) (K0 : (¬ (gi x b0 11 = 0) → ((¬ (gi x b0 11 = 0) → (Q 0 x)) ∧ ((gi x b0 11 = 0) → (Q (gi x b0 10) x)))) ∧ ((gi x b0 11 = 0) → (mSV mX8_advance [.ref b0] K x (fun y_3 => (¬ (gi y_3 b0 11 = 0) → (Q 0 y_3)) ∧ ((gi y_3 b0 11 = 0) → (Q (gi x b0 10) y_3)))))) : GI mX8_number 55 [some (.ref b0), some (.int l1), some (.int l2), none] [] K x Q := by
  show mGM mX8_number 55 [some (.ref b0), some (.int l1), some (.int l2), none] [] (hp K x) (PI K Q)
  refine r_aload_n (pc := 55) dX8_number_55 rfl ?_
  refine s_getI (pc := 56) dX8_number_56 fl_X8_130 rfl k_b0 ?_
  refine r_istore_n (pc := 59) dX8_number_59 (by decide) ?_
  refine r_aload_n (pc := 60) (L := [some (.ref b0), some (.int l1), some (.int l2), some (.int (gi x b0 10))]) dX8_number_60 rfl ?_
  refine s_VI (pc := 61) mX8_good (ci := 8) (a := b0) (As := []) dX8_number_61 lk_X8_104 in_X8_good mo_X8_good ⟨by decide, rfl⟩ ⟨by decide, by decide⟩ (Nat.le_of_ble_eq_true rfl) k_b0 (sp_X8_good k_b0 ?_)
  refine r_if_eq (pc := 64) (tgt := 71) dX8_number_64 (by decide) (fun q => ?_) (fun q => ?_)
  · have q := (b2i_z _).mp q
    have K0 := K0.1 q
    refine r_aload_n (pc := 71) dX8_number_71 rfl ?_
    refine s_VI (pc := 72) mX8_good (ci := 8) (a := b0) (As := []) dX8_number_72 lk_X8_104 in_X8_good mo_X8_good ⟨by decide, rfl⟩ ⟨by decide, by decide⟩ (Nat.le_of_ble_eq_true rfl) k_b0 (sp_X8_good k_b0 ?_)
    refine r_if_eq (pc := 75) (tgt := 82) dX8_number_75 (by decide) (fun q => ?_) (fun q => ?_)
    · have q := (b2i_z _).mp q
      have K0 := K0.1 q
      refine r_iconst (pc := 82) (v := 0) dX8_number_82 (by decide) ?_
      exact s_iret rfl dX8_number_83 K0
    · have q := b2i_nz q
      have K0 := K0.2 q
      refine r_iload_n (pc := 78) dX8_number_78 rfl ?_
      refine r_goto (pc := 79) (tgt := 83) dX8_number_79 (by decide) ?_
      exact s_iret rfl dX8_number_83 K0
  · have q := b2i_nz q
    have K0 := K0.2 q
    refine r_aload_n (pc := 67) dX8_number_67 rfl ?_
    refine s_VV (pc := 68) mX8_advance (ci := 8) (a := b0) (As := []) dX8_number_68 lk_X8_151 in_X8_advance mo_X8_advance ⟨by decide, rfl⟩ ⟨by decide, by decide⟩ (Nat.le_of_ble_eq_true rfl) k_b0 (mSV_mono K0 (fun y_3 K0 => ?_))
    refine r_aload_n (pc := 71) dX8_number_71 rfl ?_
    refine s_VI (pc := 72) mX8_good (ci := 8) (a := b0) (As := []) dX8_number_72 lk_X8_104 in_X8_good mo_X8_good ⟨by decide, rfl⟩ ⟨by decide, by decide⟩ (Nat.le_of_ble_eq_true rfl) k_b0 (sp_X8_good k_b0 ?_)
    refine r_if_eq (pc := 75) (tgt := 82) dX8_number_75 (by decide) (fun q => ?_) (fun q => ?_)
    · have q := (b2i_z _).mp q
      have K0 := K0.1 q
      refine r_iconst (pc := 82) (v := 0) dX8_number_82 (by decide) ?_
      exact s_iret rfl dX8_number_83 K0
    · have q := b2i_nz q
      have K0 := K0.2 q
      refine r_iload_n (pc := 78) dX8_number_78 rfl ?_
      refine r_goto (pc := 79) (tgt := 83) dX8_number_79 (by decide) ?_
      exact s_iret rfl dX8_number_83 K0
section
theorem sp_X8_number {x : Cn} {Q : Int32 → Cn → Prop} {b : TT} {n p lo hi : Nat} (hlo : lo < 100000) (hhi : hi < 9999) (g : RG x b n p) (k1 : nb b n p lo hi → ∀ y, BTf x y → RG y b n (tE b n p) → Q (nI (tV b n p)) y) (k0 : ¬ nb b n p lo hi → ∀ y, TFr x y → Bd y → Q 0 y) : mSI mX8_number [.ref 717, .int (nI lo), .int (nI hi)] KW x Q := by
  have ek : gi x 717 9 = 2 ↔ tK b n p = 2 := g.2.1.k 2 (by omega)
  have bad : ∀ y, TFr x y → Bd y → ¬ nb b n p lo hi → GI mX8_number 55 [some (.ref 717), some (.int (nI lo)), some (.int (nI hi)), none] [] KW y Q := fun y f h o => v_X8_number_55 km ⟨fun _ => ⟨fun _ => k0 o y f h, fun z => absurd z h⟩, fun z => absurd z h⟩
  refine v_X8_number_0 km ?_
  rw [ek]
  refine ⟨fun z => absurd g.2.2.2 z, fun _ => ⟨fun z => ?_, fun z => sp_X8_errs (by decide) (fun y f h => v_X8_number_24 km ⟨fun _ => bad y f h (fun o => z o.1), fun w => absurd w h⟩)⟩⟩
  have hv := g.2.1.2.2.2.1 z
  have hm : min (tV b n p) 9999 ≤ 9999 := Nat.min_le_right _ _
  refine v_X8_number_24 km ⟨fun w => absurd g.2.2.2 w, fun _ => ?_⟩
  have ei : (nI lo ≤ gi x 717 10 ∧ gi x 717 10 ≤ nI hi) ↔ (lo ≤ tV b n p ∧ tV b n p ≤ hi) := by
    rw [hv, nI_leI (by omega) (by omega), nI_leI (by omega) (by omega)]
    omega
  rw [ei]
  refine ⟨fun o => v_X8_number_55 km ⟨fun w => absurd g.2.2.2 w, fun _ => ad_r g (fun y f g' => ⟨fun w => absurd g'.2.2.2 w, fun _ => ?_⟩)⟩, fun o => sp_X8_errs (by decide) (fun y f h => bad y f h (fun q => o q.2))⟩
  rw [hv, show min (tV b n p) 9999 = tV b n p by omega]
  exact k1 ⟨z, o⟩ y f g'
theorem sp_X8_number_b {x : Cn} {Q : Int32 → Cn → Prop} {u v : Int32} (h : Bd x) (k : Q 0 x) : mSI mX8_number [.ref 717, .int u, .int v] KW x Q :=
  v_X8_number_0 km ⟨fun _ => v_X8_number_24 km ⟨fun _ => v_X8_number_55 km ⟨fun _ => ⟨fun _ => k, fun z => absurd z h⟩, fun z => absurd z h⟩, fun z => absurd z h⟩, fun z => absurd z h⟩
theorem wj_day : ∀ d, d < 7 → wj d (15 + d) := by unfold wj; decide +kernel
end
set_option maxHeartbeats 2000000 in
theorem v_X8_dayHere_0 {K : Sh} {x : Cn} {Q : Int32 → Cn → Prop} {b0 : Nat}   (K0 : GI mX8_dayHere 2 [some (.ref b0), some (.int 0)] [] K x Q) : mSI mX8_dayHere [.ref b0] K x Q := by
  refine s_I (by decide) (by simp [Value.category]) (Nat.le_of_ble_eq_true rfl) ?_
  show mGM mX8_dayHere 0 [some (.ref b0), none] [] (hp K x) (PI K Q)
  refine r_iconst (pc := 0) (v := 0) dX8_dayHere_0 (by decide) ?_
  refine r_istore_n (pc := 1) dX8_dayHere_1 (by decide) ?_
  exact r_le (L' := [some (.ref b0), some (.int 0)]) ⟨rfl, ⟨rfl, trivial⟩⟩ K0
set_option maxHeartbeats 2000000 in
theorem v_X8_dayHere_2 {K : Sh} {x : Cn} {Q : Int32 → Cn → Prop} {b0 : Nat} {l1 : Int32}  (k_b0 : kk K b0 = some (8, 0)) (K0 : (7 ≤ l1 → (Q (-1) x)) ∧ (¬ 7 ≤ l1 → (mSR mX8_dayOf [.int l1] K x (fun r_3 y_2 => mSI mX8_isWord [.ref b0, .ref r_3] K y_2 (fun r_5 y_4 => (r_5 = 0 → (GI mX8_dayHere 2 [some (.ref b0), some (.int (l1 + 1))] [] K y_4 Q)) ∧ (¬ r_5 = 0 → (Q l1 y_4))))))) : GI mX8_dayHere 2 [some (.ref b0), some (.int l1)] [] K x Q := by
  show mGM mX8_dayHere 2 [some (.ref b0), some (.int l1)] [] (hp K x) (PI K Q)
  refine r_iload_n (pc := 2) dX8_dayHere_2 rfl ?_
  refine r_bipush (pc := 3) (v := 7) dX8_dayHere_3 (by decide) ?_
  refine r_icmp_ge (pc := 5) (tgt := 27) dX8_dayHere_5 (by decide) (fun q => ?_) (fun q => ?_)
  · have K0 := K0.1 q
    refine r_iconst (pc := 27) (v := (-1)) dX8_dayHere_27 (by decide) ?_
    exact s_iret rfl dX8_dayHere_28 K0
  · have K0 := K0.2 q
    refine r_aload_n (pc := 8) dX8_dayHere_8 rfl ?_
    refine r_iload_n (pc := 9) dX8_dayHere_9 rfl ?_
    refine s_SR (pc := 10) mX8_dayOf (As := [.int l1]) dX8_dayHere_10 lk_X8_178 st_X8_dayOf mo_X8_dayOf ⟨by decide, by decide⟩ (Nat.le_of_ble_eq_true rfl) (mSR_mono K0 (fun r_3 y_2 K0 => ?_))
    refine s_VI (pc := 13) mX8_isWord (ci := 8) (a := b0) (As := [.ref r_3]) dX8_dayHere_13 lk_X8_147 in_X8_isWord mo_X8_isWord ⟨by decide, rfl⟩ ⟨by decide, by decide⟩ (Nat.le_of_ble_eq_true rfl) k_b0 (mSI_mono K0 (fun r_5 y_4 K0 => ?_))
    refine r_if_eq (pc := 16) (tgt := 21) dX8_dayHere_16 (by decide) (fun q => ?_) (fun q => ?_)
    · have K0 := K0.1 q
      refine r_iinc (pc := 21) (v := l1 + 1) dX8_dayHere_21 rfl rfl (by decide) ?_
      refine r_goto (pc := 24) (L := [some (.ref b0), some (.int (l1 + 1))]) (tgt := 2) dX8_dayHere_24 (by decide) ?_
      exact r_le (L' := [some (.ref b0), some (.int (l1 + 1))]) ⟨rfl, ⟨rfl, trivial⟩⟩ K0
    · have K0 := K0.2 q
      refine r_iload_n (pc := 19) dX8_dayHere_19 rfl ?_
      exact s_iret rfl dX8_dayHere_20 K0
section
theorem lp_X8_dayHere {x : Cn} {Q : Int32 → Cn → Prop} {b : TT} {n p : Nat} (g : RG x b n p) (k1 : ∀ d, d < 7 → iw b n p d → Q (nI d) x) (k0 : (∀ d, d < 7 → ¬ iw b n p d) → Q (-1) x) : ∀ m d, d + m = 7 → (∀ e, e < d → ¬ iw b n p e) → GI mX8_dayHere 2 [some (.ref 717), some (.int (nI d))] [] KW x Q := by
  intro m
  induction m with
  | zero =>
    intro d hd hn
    exact v_X8_dayHere_2 km ⟨fun _ => k0 (fun e he => hn e (by omega)), fun z => absurd (nI_le (a := 7) (b := d) (by omega) (by omega)) z⟩
  | succ m ih =>
    intro d hd hn
    refine v_X8_dayHere_2 km ⟨fun z => absurd z (nI_ge (a := d) (b := 7) (by omega) (by omega)), fun _ => sp_X8_dayOf (by omega) ?_⟩
    rw [← nI_succ]
    exact sp_X8_isWord (wj_day d (by omega)) g (fun o => ⟨fun z => absurd z (by decide), fun _ => k1 d (by omega) o⟩) (fun o => ⟨fun _ => ih (d + 1) (by omega) (fun e he => if h : e = d then by rw [h]; exact o else hn e (by omega)), fun z => absurd rfl z⟩)
theorem sp_X8_dayHere {x : Cn} {Q : Int32 → Cn → Prop} {b : TT} {n p : Nat} (g : RG x b n p) (k1 : ∀ d, d < 7 → iw b n p d → Q (nI d) x) (k0 : (∀ d, d < 7 → ¬ iw b n p d) → Q (-1) x) : mSI mX8_dayHere [.ref 717] KW x Q :=
  v_X8_dayHere_0 (lp_X8_dayHere g k1 k0 7 0 (by omega) (fun e he => absurd he (by omega)))
theorem lp_X8_dayHere_b {x : Cn} {Q : Int32 → Cn → Prop} (c : gr x 717 4 = some 720) (h : Bd x) (k : Q (-1) x) : ∀ m d, d + m = 7 → GI mX8_dayHere 2 [some (.ref 717), some (.int (nI d))] [] KW x Q := by
  intro m
  induction m with
  | zero =>
    intro d hd
    exact v_X8_dayHere_2 km ⟨fun _ => k, fun z => absurd (nI_le (a := 7) (b := d) (by omega) (by omega)) z⟩
  | succ m ih =>
    intro d hd
    refine v_X8_dayHere_2 km ⟨fun z => absurd z (nI_ge (a := d) (b := 7) (by omega) (by omega)), fun _ => sp_X8_dayOf (by omega) ?_⟩
    rw [← nI_succ]
    exact sp_X8_isWord_b (by omega) c h ⟨fun _ => ih (d + 1) (by omega), fun z => absurd rfl z⟩
theorem sp_X8_dayHere_b {x : Cn} {Q : Int32 → Cn → Prop} (c : gr x 717 4 = some 720) (h : Bd x) (k : Q (-1) x) : mSI mX8_dayHere [.ref 717] KW x Q := v_X8_dayHere_0 (lp_X8_dayHere_b c h k 7 0 (by omega))
theorem wj_7 : wj 7 11 := by unfold wj; decide +kernel
theorem wj_8 : wj 8 12 := by unfold wj; decide +kernel
theorem wj_9 : wj 9 14 := by unfold wj; decide +kernel
theorem wj_10 : wj 10 22 := by unfold wj; decide +kernel
theorem wj_11 : wj 11 23 := by unfold wj; decide +kernel
theorem wj_12 : wj 12 13 := by unfold wj; decide +kernel
theorem wj_13 : wj 13 24 := by unfold wj; decide +kernel
theorem wj_14 : wj 14 25 := by unfold wj; decide +kernel
theorem wj_15 : wj 15 26 := by unfold wj; decide +kernel
end
set_option maxHeartbeats 2000000 in
theorem v_X8_isOwn_0 {K : Sh} {x : Cn} {Q : Int32 → Cn → Prop} {b0 : Nat}  (k_b0 : kk K b0 = some (8, 0)) (K0 : mSI mX8_dayHere [.ref b0] K x (fun r_2 y_1 => (¬ r_2 = (-1) → (Q 1 y_1)) ∧ (r_2 = (-1) → (mSI mX8_isWord [.ref b0, .ref (mSB + 11)] K y_1 (fun r_5 y_4 => (¬ r_5 = 0 → (Q 1 y_4)) ∧ (r_5 = 0 → (mSI mX8_isWord [.ref b0, .ref (mSB + 12)] K y_4 (fun r_8 y_7 => (¬ r_8 = 0 → (Q 1 y_7)) ∧ (r_8 = 0 → (mSI mX8_isWord [.ref b0, .ref (mSB + 14)] K y_7 (fun r_11 y_10 => (¬ r_11 = 0 → (Q 1 y_10)) ∧ (r_11 = 0 → (mSI mX8_isWord [.ref b0, .ref (mSB + 22)] K y_10 (fun r_14 y_13 => (¬ r_14 = 0 → (Q 1 y_13)) ∧ (r_14 = 0 → (mSI mX8_isWord [.ref b0, .ref (mSB + 23)] K y_13 (fun r_17 y_16 => (¬ r_17 = 0 → (Q 1 y_16)) ∧ (r_17 = 0 → (mSI mX8_isWord [.ref b0, .ref (mSB + 13)] K y_16 (fun r_20 y_19 => (¬ r_20 = 0 → (Q 1 y_19)) ∧ (r_20 = 0 → (mSI mX8_isWord [.ref b0, .ref (mSB + 24)] K y_19 (fun r_23 y_22 => (¬ r_23 = 0 → (Q 1 y_22)) ∧ (r_23 = 0 → (mSI mX8_isWord [.ref b0, .ref (mSB + 25)] K y_22 (fun r_26 y_25 => (¬ r_26 = 0 → (Q 1 y_25)) ∧ (r_26 = 0 → (mSI mX8_isWord [.ref b0, .ref (mSB + 26)] K y_25 (fun r_29 y_28 => (r_29 = 0 → (Q 0 y_28)) ∧ (¬ r_29 = 0 → (Q 1 y_28))))))))))))))))))))))))))))))) : mSI mX8_isOwn [.ref b0] K x Q := by
  refine s_I (by decide) (by simp [Value.category]) (Nat.le_of_ble_eq_true rfl) ?_
  show mGM mX8_isOwn 0 [some (.ref b0)] [] (hp K x) (PI K Q)
  refine r_aload_n (pc := 0) dX8_isOwn_0 rfl ?_
  refine s_VI (pc := 1) mX8_dayHere (ci := 8) (a := b0) (As := []) dX8_isOwn_1 lk_X8_182 in_X8_dayHere mo_X8_dayHere ⟨by decide, rfl⟩ ⟨by decide, by decide⟩ (Nat.le_of_ble_eq_true rfl) k_b0 (mSI_mono K0 (fun r_2 y_1 K0 => ?_))
  refine r_iconst (pc := 4) (v := (-1)) dX8_isOwn_4 (by decide) ?_
  refine r_icmp_ne (pc := 5) (tgt := 89) dX8_isOwn_5 (by decide) (fun q => ?_) (fun q => ?_)
  · have K0 := K0.1 q
    refine r_iconst (pc := 89) (v := 1) dX8_isOwn_89 (by decide) ?_
    refine r_goto (pc := 90) (tgt := 94) dX8_isOwn_90 (by decide) ?_
    exact s_zret rfl (by decide) dX8_isOwn_94 K0
  · have K0 := K0.2 q
    refine r_aload_n (pc := 8) dX8_isOwn_8 rfl ?_
    refine r_ldcS (pc := 9) (j := 11) dX8_isOwn_9 rfl ?_
    refine s_VI (pc := 11) mX8_isWord (ci := 8) (a := b0) (As := [.ref (mSB + 11)]) dX8_isOwn_11 lk_X8_147 in_X8_isWord mo_X8_isWord ⟨by decide, rfl⟩ ⟨by decide, by decide⟩ (Nat.le_of_ble_eq_true rfl) k_b0 (mSI_mono K0 (fun r_5 y_4 K0 => ?_))
    refine r_if_ne (pc := 14) (tgt := 89) dX8_isOwn_14 (by decide) (fun q => ?_) (fun q => ?_)
    · have K0 := K0.1 q
      refine r_iconst (pc := 89) (v := 1) dX8_isOwn_89 (by decide) ?_
      refine r_goto (pc := 90) (tgt := 94) dX8_isOwn_90 (by decide) ?_
      exact s_zret rfl (by decide) dX8_isOwn_94 K0
    · have K0 := K0.2 q
      refine r_aload_n (pc := 17) dX8_isOwn_17 rfl ?_
      refine r_ldcS (pc := 18) (j := 12) dX8_isOwn_18 rfl ?_
      refine s_VI (pc := 20) mX8_isWord (ci := 8) (a := b0) (As := [.ref (mSB + 12)]) dX8_isOwn_20 lk_X8_147 in_X8_isWord mo_X8_isWord ⟨by decide, rfl⟩ ⟨by decide, by decide⟩ (Nat.le_of_ble_eq_true rfl) k_b0 (mSI_mono K0 (fun r_8 y_7 K0 => ?_))
      refine r_if_ne (pc := 23) (tgt := 89) dX8_isOwn_23 (by decide) (fun q => ?_) (fun q => ?_)
      · have K0 := K0.1 q
        refine r_iconst (pc := 89) (v := 1) dX8_isOwn_89 (by decide) ?_
        refine r_goto (pc := 90) (tgt := 94) dX8_isOwn_90 (by decide) ?_
        exact s_zret rfl (by decide) dX8_isOwn_94 K0
      · have K0 := K0.2 q
        refine r_aload_n (pc := 26) dX8_isOwn_26 rfl ?_
        refine r_ldcS (pc := 27) (j := 14) dX8_isOwn_27 rfl ?_
        refine s_VI (pc := 29) mX8_isWord (ci := 8) (a := b0) (As := [.ref (mSB + 14)]) dX8_isOwn_29 lk_X8_147 in_X8_isWord mo_X8_isWord ⟨by decide, rfl⟩ ⟨by decide, by decide⟩ (Nat.le_of_ble_eq_true rfl) k_b0 (mSI_mono K0 (fun r_11 y_10 K0 => ?_))
        refine r_if_ne (pc := 32) (tgt := 89) dX8_isOwn_32 (by decide) (fun q => ?_) (fun q => ?_)
        · have K0 := K0.1 q
          refine r_iconst (pc := 89) (v := 1) dX8_isOwn_89 (by decide) ?_
          refine r_goto (pc := 90) (tgt := 94) dX8_isOwn_90 (by decide) ?_
          exact s_zret rfl (by decide) dX8_isOwn_94 K0
        · have K0 := K0.2 q
          refine r_aload_n (pc := 35) dX8_isOwn_35 rfl ?_
          refine r_ldcS (pc := 36) (j := 22) dX8_isOwn_36 rfl ?_
          refine s_VI (pc := 38) mX8_isWord (ci := 8) (a := b0) (As := [.ref (mSB + 22)]) dX8_isOwn_38 lk_X8_147 in_X8_isWord mo_X8_isWord ⟨by decide, rfl⟩ ⟨by decide, by decide⟩ (Nat.le_of_ble_eq_true rfl) k_b0 (mSI_mono K0 (fun r_14 y_13 K0 => ?_))
          refine r_if_ne (pc := 41) (tgt := 89) dX8_isOwn_41 (by decide) (fun q => ?_) (fun q => ?_)
          · have K0 := K0.1 q
            refine r_iconst (pc := 89) (v := 1) dX8_isOwn_89 (by decide) ?_
            refine r_goto (pc := 90) (tgt := 94) dX8_isOwn_90 (by decide) ?_
            exact s_zret rfl (by decide) dX8_isOwn_94 K0
          · have K0 := K0.2 q
            refine r_aload_n (pc := 44) dX8_isOwn_44 rfl ?_
            refine r_ldcS (pc := 45) (j := 23) dX8_isOwn_45 rfl ?_
            refine s_VI (pc := 47) mX8_isWord (ci := 8) (a := b0) (As := [.ref (mSB + 23)]) dX8_isOwn_47 lk_X8_147 in_X8_isWord mo_X8_isWord ⟨by decide, rfl⟩ ⟨by decide, by decide⟩ (Nat.le_of_ble_eq_true rfl) k_b0 (mSI_mono K0 (fun r_17 y_16 K0 => ?_))
            refine r_if_ne (pc := 50) (tgt := 89) dX8_isOwn_50 (by decide) (fun q => ?_) (fun q => ?_)
            · have K0 := K0.1 q
              refine r_iconst (pc := 89) (v := 1) dX8_isOwn_89 (by decide) ?_
              refine r_goto (pc := 90) (tgt := 94) dX8_isOwn_90 (by decide) ?_
              exact s_zret rfl (by decide) dX8_isOwn_94 K0
            · have K0 := K0.2 q
              refine r_aload_n (pc := 53) dX8_isOwn_53 rfl ?_
              refine r_ldcS (pc := 54) (j := 13) dX8_isOwn_54 rfl ?_
              refine s_VI (pc := 56) mX8_isWord (ci := 8) (a := b0) (As := [.ref (mSB + 13)]) dX8_isOwn_56 lk_X8_147 in_X8_isWord mo_X8_isWord ⟨by decide, rfl⟩ ⟨by decide, by decide⟩ (Nat.le_of_ble_eq_true rfl) k_b0 (mSI_mono K0 (fun r_20 y_19 K0 => ?_))
              refine r_if_ne (pc := 59) (tgt := 89) dX8_isOwn_59 (by decide) (fun q => ?_) (fun q => ?_)
              · have K0 := K0.1 q
                refine r_iconst (pc := 89) (v := 1) dX8_isOwn_89 (by decide) ?_
                refine r_goto (pc := 90) (tgt := 94) dX8_isOwn_90 (by decide) ?_
                exact s_zret rfl (by decide) dX8_isOwn_94 K0
              · have K0 := K0.2 q
                refine r_aload_n (pc := 62) dX8_isOwn_62 rfl ?_
                refine r_ldcS (pc := 63) (j := 24) dX8_isOwn_63 rfl ?_
                refine s_VI (pc := 65) mX8_isWord (ci := 8) (a := b0) (As := [.ref (mSB + 24)]) dX8_isOwn_65 lk_X8_147 in_X8_isWord mo_X8_isWord ⟨by decide, rfl⟩ ⟨by decide, by decide⟩ (Nat.le_of_ble_eq_true rfl) k_b0 (mSI_mono K0 (fun r_23 y_22 K0 => ?_))
                refine r_if_ne (pc := 68) (tgt := 89) dX8_isOwn_68 (by decide) (fun q => ?_) (fun q => ?_)
                · have K0 := K0.1 q
                  refine r_iconst (pc := 89) (v := 1) dX8_isOwn_89 (by decide) ?_
                  refine r_goto (pc := 90) (tgt := 94) dX8_isOwn_90 (by decide) ?_
                  exact s_zret rfl (by decide) dX8_isOwn_94 K0
                · have K0 := K0.2 q
                  refine r_aload_n (pc := 71) dX8_isOwn_71 rfl ?_
                  refine r_ldcS (pc := 72) (j := 25) dX8_isOwn_72 rfl ?_
                  refine s_VI (pc := 74) mX8_isWord (ci := 8) (a := b0) (As := [.ref (mSB + 25)]) dX8_isOwn_74 lk_X8_147 in_X8_isWord mo_X8_isWord ⟨by decide, rfl⟩ ⟨by decide, by decide⟩ (Nat.le_of_ble_eq_true rfl) k_b0 (mSI_mono K0 (fun r_26 y_25 K0 => ?_))
                  refine r_if_ne (pc := 77) (tgt := 89) dX8_isOwn_77 (by decide) (fun q => ?_) (fun q => ?_)
                  · have K0 := K0.1 q
                    refine r_iconst (pc := 89) (v := 1) dX8_isOwn_89 (by decide) ?_
                    refine r_goto (pc := 90) (tgt := 94) dX8_isOwn_90 (by decide) ?_
                    exact s_zret rfl (by decide) dX8_isOwn_94 K0
                  · have K0 := K0.2 q
                    refine r_aload_n (pc := 80) dX8_isOwn_80 rfl ?_
                    refine r_ldcS (pc := 81) (j := 26) dX8_isOwn_81 rfl ?_
                    refine s_VI (pc := 83) mX8_isWord (ci := 8) (a := b0) (As := [.ref (mSB + 26)]) dX8_isOwn_83 lk_X8_147 in_X8_isWord mo_X8_isWord ⟨by decide, rfl⟩ ⟨by decide, by decide⟩ (Nat.le_of_ble_eq_true rfl) k_b0 (mSI_mono K0 (fun r_29 y_28 K0 => ?_))
                    refine r_if_eq (pc := 86) (tgt := 93) dX8_isOwn_86 (by decide) (fun q => ?_) (fun q => ?_)
                    · have K0 := K0.1 q
                      refine r_iconst (pc := 93) (v := 0) dX8_isOwn_93 (by decide) ?_
                      exact s_zret rfl (by decide) dX8_isOwn_94 K0
                    · have K0 := K0.2 q
                      refine r_iconst (pc := 89) (v := 1) dX8_isOwn_89 (by decide) ?_
                      refine r_goto (pc := 90) (tgt := 94) dX8_isOwn_90 (by decide) ?_
                      exact s_zret rfl (by decide) dX8_isOwn_94 K0
section
theorem sp_X8_isOwn {x : Cn} {Q : Int32 → Cn → Prop} {b : TT} {n p : Nat} (g : RG x b n p) (hk : tK b n p = 1) (k1 : ¬ wnp b n p = -1 → Q 1 x) (k0 : wnp b n p = -1 → Q 0 x) : mSI mX8_isOwn [.ref 717] KW x Q := by
  have y1 : ∀ i, i < 16 → iw b n p i → Q 1 x := fun i hi o => k1 (fun z => by
    have e : wnp b n p = nI i := o.2
    rw [e] at z
    exact absurd (show (-1 : Int32) < 0 by decide) (by rw [← z]; exact nI_pos (by omega)))
  refine v_X8_isOwn_0 km (sp_X8_dayHere g (fun d hd o => ⟨fun _ => y1 d (by omega) o, fun z => ?_⟩) (fun nd => ⟨fun z => absurd rfl z, fun _ => ?_⟩))
  · exact absurd (show (-1 : Int32) < 0 by decide) (by rw [← z]; exact nI_pos (by omega))
  refine sp_X8_isWord wj_7 g (fun o => ⟨fun _ => y1 7 (by omega) o, fun z => absurd z (by decide)⟩) (fun n7 => ⟨fun z => absurd rfl z, fun _ => ?_⟩)
  refine sp_X8_isWord wj_8 g (fun o => ⟨fun _ => y1 8 (by omega) o, fun z => absurd z (by decide)⟩) (fun n8 => ⟨fun z => absurd rfl z, fun _ => ?_⟩)
  refine sp_X8_isWord wj_9 g (fun o => ⟨fun _ => y1 9 (by omega) o, fun z => absurd z (by decide)⟩) (fun n9 => ⟨fun z => absurd rfl z, fun _ => ?_⟩)
  refine sp_X8_isWord wj_10 g (fun o => ⟨fun _ => y1 10 (by omega) o, fun z => absurd z (by decide)⟩) (fun n10 => ⟨fun z => absurd rfl z, fun _ => ?_⟩)
  refine sp_X8_isWord wj_11 g (fun o => ⟨fun _ => y1 11 (by omega) o, fun z => absurd z (by decide)⟩) (fun n11 => ⟨fun z => absurd rfl z, fun _ => ?_⟩)
  refine sp_X8_isWord wj_12 g (fun o => ⟨fun _ => y1 12 (by omega) o, fun z => absurd z (by decide)⟩) (fun n12 => ⟨fun z => absurd rfl z, fun _ => ?_⟩)
  refine sp_X8_isWord wj_13 g (fun o => ⟨fun _ => y1 13 (by omega) o, fun z => absurd z (by decide)⟩) (fun n13 => ⟨fun z => absurd rfl z, fun _ => ?_⟩)
  refine sp_X8_isWord wj_14 g (fun o => ⟨fun _ => y1 14 (by omega) o, fun z => absurd z (by decide)⟩) (fun n14 => ⟨fun z => absurd rfl z, fun _ => ?_⟩)
  refine sp_X8_isWord wj_15 g (fun o => ⟨fun z => absurd z (by decide), fun _ => y1 15 (by omega) o⟩) (fun n15 => ⟨fun _ => ?_, fun z => absurd rfl z⟩)
  refine k0 ?_
  rcases wno_c b (tS b n p) (tE b n p) with h | ⟨i, hi, h⟩
  · exact h
  · exfalso
    have o : iw b n p i := ⟨hk, h⟩
    rcases (show i < 7 ∨ i = 7 ∨ i = 8 ∨ i = 9 ∨ i = 10 ∨ i = 11 ∨ i = 12 ∨ i = 13 ∨ i = 14 ∨ i = 15 by omega) with q | rfl | rfl | rfl | rfl | rfl | rfl | rfl | rfl | rfl
    · exact nd i q o
    · exact n7 o
    · exact n8 o
    · exact n9 o
    · exact n10 o
    · exact n11 o
    · exact n12 o
    · exact n13 o
    · exact n14 o
    · exact n15 o
end
set_option maxHeartbeats 2000000 in
theorem v_X8_nameHere_0 {K : Sh} {x : Cn} {Q : Int32 → Cn → Prop} {b0 : Nat}  (k_b0 : kk K b0 = some (8, 0)) (K0 : (¬ (gi x b0 11 = 0) → ((¬ (gi x b0 11 = 0) → (Q 0 x)) ∧ ((gi x b0 11 = 0) → (mSI mX8_packed [.ref b0, .int (gi x b0 8), .int (gi x b0 7)] K x (fun r_4 y_3 => Q r_4 y_3))))) ∧ ((gi x b0 11 = 0) → ((¬ (gi x b0 9) = 1 → (mSV mX8_errs [.ref b0, .int 1, .int (gi x b0 8)] K x (fun y_6 => (¬ (gi y_6 b0 11 = 0) → (Q 0 y_6)) ∧ ((gi y_6 b0 11 = 0) → (mSI mX8_packed [.ref b0, .int (gi y_6 b0 8), .int (gi y_6 b0 7)] K y_6 (fun r_9 y_8 => Q r_9 y_8)))))) ∧ ((gi x b0 9) = 1 → ((6 < ((gi x b0 7) - (gi x b0 8)) → (mSV mX8_errs [.ref b0, .int 1, .int (gi x b0 8)] K x (fun y_11 => (¬ (gi y_11 b0 11 = 0) → (Q 0 y_11)) ∧ ((gi y_11 b0 11 = 0) → (mSI mX8_packed [.ref b0, .int (gi y_11 b0 8), .int (gi y_11 b0 7)] K y_11 (fun r_14 y_13 => Q r_14 y_13)))))) ∧ (¬ 6 < ((gi x b0 7) - (gi x b0 8)) → (mSI mX8_isOwn [.ref b0] K x (fun r_16 y_15 => (r_16 = 0 → ((¬ (gi y_15 b0 11 = 0) → (Q 0 y_15)) ∧ ((gi y_15 b0 11 = 0) → (mSI mX8_packed [.ref b0, .int (gi y_15 b0 8), .int (gi y_15 b0 7)] K y_15 (fun r_20 y_19 => Q r_20 y_19))))) ∧ (¬ r_16 = 0 → (mSV mX8_errs [.ref b0, .int 1, .int (gi y_15 b0 8)] K y_15 (fun y_21 => (¬ (gi y_21 b0 11 = 0) → (Q 0 y_21)) ∧ ((gi y_21 b0 11 = 0) → (mSI mX8_packed [.ref b0, .int (gi y_21 b0 8), .int (gi y_21 b0 7)] K y_21 (fun r_24 y_23 => Q r_24 y_23)))))))))))))) : mSI mX8_nameHere [.ref b0] K x Q := by
  refine s_I (by decide) (by simp [Value.category]) (Nat.le_of_ble_eq_true rfl) ?_
  show mGM mX8_nameHere 0 [some (.ref b0)] [] (hp K x) (PI K Q)
  refine r_aload_n (pc := 0) dX8_nameHere_0 rfl ?_
  refine s_VI (pc := 1) mX8_good (ci := 8) (a := b0) (As := []) dX8_nameHere_1 lk_X8_104 in_X8_good mo_X8_good ⟨by decide, rfl⟩ ⟨by decide, by decide⟩ (Nat.le_of_ble_eq_true rfl) k_b0 (sp_X8_good k_b0 ?_)
  refine r_if_eq (pc := 4) (tgt := 45) dX8_nameHere_4 (by decide) (fun q => ?_) (fun q => ?_)
  · have q := (b2i_z _).mp q
    have K0 := K0.1 q
    refine r_aload_n (pc := 45) dX8_nameHere_45 rfl ?_
    refine s_VI (pc := 46) mX8_good (ci := 8) (a := b0) (As := []) dX8_nameHere_46 lk_X8_104 in_X8_good mo_X8_good ⟨by decide, rfl⟩ ⟨by decide, by decide⟩ (Nat.le_of_ble_eq_true rfl) k_b0 (sp_X8_good k_b0 ?_)
    refine r_if_eq (pc := 49) (tgt := 67) dX8_nameHere_49 (by decide) (fun q => ?_) (fun q => ?_)
    · have q := (b2i_z _).mp q
      have K0 := K0.1 q
      refine r_iconst (pc := 67) (v := 0) dX8_nameHere_67 (by decide) ?_
      exact s_iret rfl dX8_nameHere_68 K0
    · have q := b2i_nz q
      have K0 := K0.2 q
      refine r_aload_n (pc := 52) dX8_nameHere_52 rfl ?_
      refine r_aload_n (pc := 53) dX8_nameHere_53 rfl ?_
      refine s_getI (pc := 54) dX8_nameHere_54 fl_X8_116 rfl k_b0 ?_
      refine r_aload_n (pc := 57) dX8_nameHere_57 rfl ?_
      refine s_getI (pc := 58) dX8_nameHere_58 fl_X8_110 rfl k_b0 ?_
      refine s_VI (pc := 61) mX8_packed (ci := 8) (a := b0) (As := [.int (gi x b0 8), .int (gi x b0 7)]) dX8_nameHere_61 lk_X8_204 in_X8_packed mo_X8_packed ⟨by decide, rfl⟩ ⟨by decide, by decide⟩ (Nat.le_of_ble_eq_true rfl) k_b0 (mSI_mono K0 (fun r_4 y_3 K0 => ?_))
      refine r_goto (pc := 64) (tgt := 68) dX8_nameHere_64 (by decide) ?_
      exact s_iret rfl dX8_nameHere_68 K0
  · have q := b2i_nz q
    have K0 := K0.2 q
    refine r_aload_n (pc := 7) dX8_nameHere_7 rfl ?_
    refine s_getI (pc := 8) dX8_nameHere_8 fl_X8_119 rfl k_b0 ?_
    refine r_iconst (pc := 11) (v := 1) dX8_nameHere_11 (by decide) ?_
    refine r_icmp_ne (pc := 12) (tgt := 36) dX8_nameHere_12 (by decide) (fun q => ?_) (fun q => ?_)
    · have K0 := K0.1 q
      refine r_aload_n (pc := 36) dX8_nameHere_36 rfl ?_
      refine r_iconst (pc := 37) (v := 1) dX8_nameHere_37 (by decide) ?_
      refine r_aload_n (pc := 38) dX8_nameHere_38 rfl ?_
      refine s_getI (pc := 39) dX8_nameHere_39 fl_X8_116 rfl k_b0 ?_
      refine s_VV (pc := 42) mX8_errs (ci := 8) (a := b0) (As := [.int 1, .int (gi x b0 8)]) dX8_nameHere_42 lk_X8_157 in_X8_errs mo_X8_errs ⟨by decide, rfl⟩ ⟨by decide, by decide⟩ (Nat.le_of_ble_eq_true rfl) k_b0 (mSV_mono K0 (fun y_6 K0 => ?_))
      refine r_aload_n (pc := 45) dX8_nameHere_45 rfl ?_
      refine s_VI (pc := 46) mX8_good (ci := 8) (a := b0) (As := []) dX8_nameHere_46 lk_X8_104 in_X8_good mo_X8_good ⟨by decide, rfl⟩ ⟨by decide, by decide⟩ (Nat.le_of_ble_eq_true rfl) k_b0 (sp_X8_good k_b0 ?_)
      refine r_if_eq (pc := 49) (tgt := 67) dX8_nameHere_49 (by decide) (fun q => ?_) (fun q => ?_)
      · have q := (b2i_z _).mp q
        have K0 := K0.1 q
        refine r_iconst (pc := 67) (v := 0) dX8_nameHere_67 (by decide) ?_
        exact s_iret rfl dX8_nameHere_68 K0
      · have q := b2i_nz q
        have K0 := K0.2 q
        refine r_aload_n (pc := 52) dX8_nameHere_52 rfl ?_
        refine r_aload_n (pc := 53) dX8_nameHere_53 rfl ?_
        refine s_getI (pc := 54) dX8_nameHere_54 fl_X8_116 rfl k_b0 ?_
        refine r_aload_n (pc := 57) dX8_nameHere_57 rfl ?_
        refine s_getI (pc := 58) dX8_nameHere_58 fl_X8_110 rfl k_b0 ?_
        refine s_VI (pc := 61) mX8_packed (ci := 8) (a := b0) (As := [.int (gi y_6 b0 8), .int (gi y_6 b0 7)]) dX8_nameHere_61 lk_X8_204 in_X8_packed mo_X8_packed ⟨by decide, rfl⟩ ⟨by decide, by decide⟩ (Nat.le_of_ble_eq_true rfl) k_b0 (mSI_mono K0 (fun r_9 y_8 K0 => ?_))
        refine r_goto (pc := 64) (tgt := 68) dX8_nameHere_64 (by decide) ?_
        exact s_iret rfl dX8_nameHere_68 K0
    · have K0 := K0.2 q
      refine r_aload_n (pc := 15) dX8_nameHere_15 rfl ?_
      refine s_getI (pc := 16) dX8_nameHere_16 fl_X8_110 rfl k_b0 ?_
      refine r_aload_n (pc := 19) dX8_nameHere_19 rfl ?_
      refine s_getI (pc := 20) dX8_nameHere_20 fl_X8_116 rfl k_b0 ?_
      refine r_isub (pc := 23) dX8_nameHere_23 ?_
      refine r_bipush (pc := 24) (v := 6) dX8_nameHere_24 (by decide) ?_
      refine r_icmp_gt (pc := 26) (tgt := 36) dX8_nameHere_26 (by decide) (fun q => ?_) (fun q => ?_)
      · have K0 := K0.1 q
        refine r_aload_n (pc := 36) dX8_nameHere_36 rfl ?_
        refine r_iconst (pc := 37) (v := 1) dX8_nameHere_37 (by decide) ?_
        refine r_aload_n (pc := 38) dX8_nameHere_38 rfl ?_
        refine s_getI (pc := 39) dX8_nameHere_39 fl_X8_116 rfl k_b0 ?_
        refine s_VV (pc := 42) mX8_errs (ci := 8) (a := b0) (As := [.int 1, .int (gi x b0 8)]) dX8_nameHere_42 lk_X8_157 in_X8_errs mo_X8_errs ⟨by decide, rfl⟩ ⟨by decide, by decide⟩ (Nat.le_of_ble_eq_true rfl) k_b0 (mSV_mono K0 (fun y_11 K0 => ?_))
        refine r_aload_n (pc := 45) dX8_nameHere_45 rfl ?_
        refine s_VI (pc := 46) mX8_good (ci := 8) (a := b0) (As := []) dX8_nameHere_46 lk_X8_104 in_X8_good mo_X8_good ⟨by decide, rfl⟩ ⟨by decide, by decide⟩ (Nat.le_of_ble_eq_true rfl) k_b0 (sp_X8_good k_b0 ?_)
        refine r_if_eq (pc := 49) (tgt := 67) dX8_nameHere_49 (by decide) (fun q => ?_) (fun q => ?_)
        · have q := (b2i_z _).mp q
          have K0 := K0.1 q
          refine r_iconst (pc := 67) (v := 0) dX8_nameHere_67 (by decide) ?_
          exact s_iret rfl dX8_nameHere_68 K0
        · have q := b2i_nz q
          have K0 := K0.2 q
          refine r_aload_n (pc := 52) dX8_nameHere_52 rfl ?_
          refine r_aload_n (pc := 53) dX8_nameHere_53 rfl ?_
          refine s_getI (pc := 54) dX8_nameHere_54 fl_X8_116 rfl k_b0 ?_
          refine r_aload_n (pc := 57) dX8_nameHere_57 rfl ?_
          refine s_getI (pc := 58) dX8_nameHere_58 fl_X8_110 rfl k_b0 ?_
          refine s_VI (pc := 61) mX8_packed (ci := 8) (a := b0) (As := [.int (gi y_11 b0 8), .int (gi y_11 b0 7)]) dX8_nameHere_61 lk_X8_204 in_X8_packed mo_X8_packed ⟨by decide, rfl⟩ ⟨by decide, by decide⟩ (Nat.le_of_ble_eq_true rfl) k_b0 (mSI_mono K0 (fun r_14 y_13 K0 => ?_))
          refine r_goto (pc := 64) (tgt := 68) dX8_nameHere_64 (by decide) ?_
          exact s_iret rfl dX8_nameHere_68 K0
      · have K0 := K0.2 q
        refine r_aload_n (pc := 29) dX8_nameHere_29 rfl ?_
        refine s_VI (pc := 30) mX8_isOwn (ci := 8) (a := b0) (As := []) dX8_nameHere_30 lk_X8_201 in_X8_isOwn mo_X8_isOwn ⟨by decide, rfl⟩ ⟨by decide, by decide⟩ (Nat.le_of_ble_eq_true rfl) k_b0 (mSI_mono K0 (fun r_16 y_15 K0 => ?_))
        refine r_if_eq (pc := 33) (tgt := 45) dX8_nameHere_33 (by decide) (fun q => ?_) (fun q => ?_)
        · have K0 := K0.1 q
          refine r_aload_n (pc := 45) dX8_nameHere_45 rfl ?_
          refine s_VI (pc := 46) mX8_good (ci := 8) (a := b0) (As := []) dX8_nameHere_46 lk_X8_104 in_X8_good mo_X8_good ⟨by decide, rfl⟩ ⟨by decide, by decide⟩ (Nat.le_of_ble_eq_true rfl) k_b0 (sp_X8_good k_b0 ?_)
          refine r_if_eq (pc := 49) (tgt := 67) dX8_nameHere_49 (by decide) (fun q => ?_) (fun q => ?_)
          · have q := (b2i_z _).mp q
            have K0 := K0.1 q
            refine r_iconst (pc := 67) (v := 0) dX8_nameHere_67 (by decide) ?_
            exact s_iret rfl dX8_nameHere_68 K0
          · have q := b2i_nz q
            have K0 := K0.2 q
            refine r_aload_n (pc := 52) dX8_nameHere_52 rfl ?_
            refine r_aload_n (pc := 53) dX8_nameHere_53 rfl ?_
            refine s_getI (pc := 54) dX8_nameHere_54 fl_X8_116 rfl k_b0 ?_
            refine r_aload_n (pc := 57) dX8_nameHere_57 rfl ?_
            refine s_getI (pc := 58) dX8_nameHere_58 fl_X8_110 rfl k_b0 ?_
            refine s_VI (pc := 61) mX8_packed (ci := 8) (a := b0) (As := [.int (gi y_15 b0 8), .int (gi y_15 b0 7)]) dX8_nameHere_61 lk_X8_204 in_X8_packed mo_X8_packed ⟨by decide, rfl⟩ ⟨by decide, by decide⟩ (Nat.le_of_ble_eq_true rfl) k_b0 (mSI_mono K0 (fun r_20 y_19 K0 => ?_))
            refine r_goto (pc := 64) (tgt := 68) dX8_nameHere_64 (by decide) ?_
            exact s_iret rfl dX8_nameHere_68 K0
        · have K0 := K0.2 q
          refine r_aload_n (pc := 36) dX8_nameHere_36 rfl ?_
          refine r_iconst (pc := 37) (v := 1) dX8_nameHere_37 (by decide) ?_
          refine r_aload_n (pc := 38) dX8_nameHere_38 rfl ?_
          refine s_getI (pc := 39) dX8_nameHere_39 fl_X8_116 rfl k_b0 ?_
          refine s_VV (pc := 42) mX8_errs (ci := 8) (a := b0) (As := [.int 1, .int (gi y_15 b0 8)]) dX8_nameHere_42 lk_X8_157 in_X8_errs mo_X8_errs ⟨by decide, rfl⟩ ⟨by decide, by decide⟩ (Nat.le_of_ble_eq_true rfl) k_b0 (mSV_mono K0 (fun y_21 K0 => ?_))
          refine r_aload_n (pc := 45) dX8_nameHere_45 rfl ?_
          refine s_VI (pc := 46) mX8_good (ci := 8) (a := b0) (As := []) dX8_nameHere_46 lk_X8_104 in_X8_good mo_X8_good ⟨by decide, rfl⟩ ⟨by decide, by decide⟩ (Nat.le_of_ble_eq_true rfl) k_b0 (sp_X8_good k_b0 ?_)
          refine r_if_eq (pc := 49) (tgt := 67) dX8_nameHere_49 (by decide) (fun q => ?_) (fun q => ?_)
          · have q := (b2i_z _).mp q
            have K0 := K0.1 q
            refine r_iconst (pc := 67) (v := 0) dX8_nameHere_67 (by decide) ?_
            exact s_iret rfl dX8_nameHere_68 K0
          · have q := b2i_nz q
            have K0 := K0.2 q
            refine r_aload_n (pc := 52) dX8_nameHere_52 rfl ?_
            refine r_aload_n (pc := 53) dX8_nameHere_53 rfl ?_
            refine s_getI (pc := 54) dX8_nameHere_54 fl_X8_116 rfl k_b0 ?_
            refine r_aload_n (pc := 57) dX8_nameHere_57 rfl ?_
            refine s_getI (pc := 58) dX8_nameHere_58 fl_X8_110 rfl k_b0 ?_
            refine s_VI (pc := 61) mX8_packed (ci := 8) (a := b0) (As := [.int (gi y_21 b0 8), .int (gi y_21 b0 7)]) dX8_nameHere_61 lk_X8_204 in_X8_packed mo_X8_packed ⟨by decide, rfl⟩ ⟨by decide, by decide⟩ (Nat.le_of_ble_eq_true rfl) k_b0 (mSI_mono K0 (fun r_24 y_23 K0 => ?_))
            refine r_goto (pc := 64) (tgt := 68) dX8_nameHere_64 (by decide) ?_
            exact s_iret rfl dX8_nameHere_68 K0
section
theorem sp_X8_nameHere {x : Cn} {Q : Int32 → Cn → Prop} {b : TT} {n p : Nat} (g : RG x b n p) (k1 : nmd b n p → Q (nI (vnm b n p)) x) (k0 : ¬ nmd b n p → ∀ y, TFr x y → Bd y → Q 0 y) : mSI mX8_nameHere [.ref 717] KW x Q := by
  have ek : gi x 717 9 = 1 ↔ tK b n p = 1 := g.2.1.k 1 (by omega)
  have hE := tE_b (b := b) g.2.2.1
  have hn := g.1.1
  have e6 : 6 < gi x 717 7 - gi x 717 8 ↔ 6 < tE b n p - tS b n p := by
    rw [g.2.1.1, g.2.1.2.1, nI_sb hE.1]
    exact nI_ltI (a := 6) (b := tE b n p - tS b n p) (by omega) (by omega)
  have bad : ¬ nmd b n p → ∀ y, TFr x y → Bd y → (¬ (gi y 717 11 = 0) → Q 0 y) ∧ ((gi y 717 11 = 0) → mSI mX8_packed [.ref 717, .int (gi y 717 8), .int (gi y 717 7)] KW y (fun r_9 y_8 => Q r_9 y_8)) := fun o y f h => ⟨fun _ => k0 o y f h, fun z => absurd z h⟩
  refine v_X8_nameHere_0 km ⟨fun z => absurd g.2.2.2 z, fun _ => ?_⟩
  rw [ek, e6]
  refine ⟨fun z => sp_X8_errs (by decide) (bad (fun o => z o.1)), fun z => ⟨fun z2 => sp_X8_errs (by decide) (bad (fun o => by have := o.2.2; omega)), fun z2 => sp_X8_isOwn g z (fun o => ⟨fun w => absurd w (by decide), fun _ => sp_X8_errs (by decide) (bad (fun w => o w.2.1))⟩) (fun o => ⟨fun _ => ⟨fun w => absurd g.2.2.2 w, fun _ => ?_⟩, fun w => absurd rfl w⟩)⟩⟩
  rw [g.2.1.1, g.2.1.2.1]
  refine sp_X8_packed g.1.2.2.2.2 (by rw [g.1.2.2.1]; exact tk_ltr g.1.2.2.2.1 g.2.2.1 z) (by omega) hE.1 ?_
  rw [g.1.2.2.1]
  exact k1 ⟨z, o, by omega⟩
theorem sp_X8_nameHere_b {x : Cn} {Q : Int32 → Cn → Prop} (h : Bd x) (k : Q 0 x) : mSI mX8_nameHere [.ref 717] KW x Q := v_X8_nameHere_0 km ⟨fun _ => ⟨fun _ => k, fun z => absurd z h⟩, fun z => absurd z h⟩

end

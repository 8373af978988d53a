/-! 72.read5.lean.txt -/
section
/-! reading a TEXT, the reference: small steps (good: no fault yet; bad: a fault, then nothing more happens) -/
def QFr (x y : Cn) : Prop := y.2 = x.2 ∧ ∀ a k, ¬ (a = 719 ∨ a = 721 ∨ (a = 717 ∧ 7 ≤ k ∧ k ≤ 14)) → gi y a k = gi x a k
theorem QFr.rf (x : Cn) : QFr x x := ⟨rfl, fun _ _ _ => rfl⟩
theorem QFr.tr {x y z : Cn} (h : QFr x y) (g : QFr y z) : QFr x z := ⟨g.1.trans h.1, fun a k hk => (g.2 a k hk).trans (h.2 a k hk)⟩
theorem QFr.u {x y : Cn} {a k : Nat} {v : Int32} (h : QFr x y) (ha : a = 719 ∨ a = 721 ∨ (a = 717 ∧ 7 ≤ k ∧ k ≤ 14)) : QFr x (ui y a k v) := ⟨h.1, fun c j hj => by rw [gi_ui, if_neg (by omega)]; exact h.2 c j hj⟩
theorem BTf.q {x y : Cn} (h : BTf x y) : QFr x y := ⟨h.1, fun a k hk => h.2 a k (by omega)⟩
/-- the rows stay -/
def TFr (x y : Cn) : Prop := y.2 = x.2 ∧ ∀ a k, ¬ (a = 717 ∧ 7 ≤ k ∧ k ≤ 12) → gi y a k = gi x a k
theorem TFr.rf (x : Cn) : TFr x x := ⟨rfl, fun _ _ _ => rfl⟩
theorem TFr.tr {x y z : Cn} (h : TFr x y) (g : TFr y z) : TFr x z := ⟨g.1.trans h.1, fun a k hk => (g.2 a k hk).trans (h.2 a k hk)⟩
theorem TFr.u {x y : Cn} {k : Nat} {v : Int32} (h : TFr x y) (ha : 7 ≤ k ∧ k ≤ 12) : TFr x (ui y 717 k v) := ⟨h.1, fun c j hj => by rw [gi_ui, if_neg (by omega)]; exact h.2 c j hj⟩
theorem TFr.q {x y : Cn} (h : TFr x y) : QFr x y := ⟨h.1, fun a k hk => h.2 a k (by omega)⟩
theorem BTf.t {x y : Cn} (h : BTf x y) : TFr x y := ⟨h.1, fun a k hk => h.2 a k (by omega)⟩
/-- what stays -/
def RZ (y : Cn) (b : TT) (n : Nat) : Prop := n ≤ 1200 ∧ gi y 717 6 = nI n ∧ gi y 720 = b ∧ (∀ i, i < n → isB (b i)) ∧ MRf y 719
theorem RZ.q {x y : Cn} {b : TT} {n : Nat} (h : RZ x b n) (f : QFr x y) : RZ y b n := ⟨h.1, (f.2 717 6 (by omega)).trans h.2.1, (funext fun i => f.2 720 i (by omega)).trans h.2.2.1, h.2.2.2.1, h.2.2.2.2.keep f.1⟩
def Bd (y : Cn) : Prop := ¬ gi y 717 11 = 0
def RG (y : Cn) (b : TT) (n p : Nat) : Prop := RZ y b n ∧ RTk y b n p ∧ p ≤ n ∧ gi y 717 11 = 0
theorem RTk.mv {x y : Cn} {b : TT} {n p : Nat} (h : RTk x b n p) (h2 : ∀ k, 7 ≤ k → k ≤ 10 → gi y 717 k = gi x 717 k) : RTk y b n p := by
  obtain ⟨e1, e2, e3, e4, e5⟩ := h
  exact ⟨(h2 8 (by omega) (by omega)).trans e1, (h2 7 (by omega) (by omega)).trans e2, (h2 9 (by omega) (by omega)).trans e3, fun z => (h2 10 (by omega) (by omega)).trans (e4 z), fun z => (h2 10 (by omega) (by omega)).trans (e5 z)⟩
theorem RG.u {x : Cn} {b : TT} {n p a k : Nat} {v : Int32} (h : RG x b n p) (ha : a = 719 ∨ a = 721 ∨ (a = 717 ∧ (k = 13 ∨ k = 14))) : RG (ui x a k v) b n p := ⟨h.1.q ((QFr.rf x).u (by omega)), h.2.1.mv (fun j h1 h2 => by rw [gi_ui, if_neg (by omega)]), h.2.2.1, by rw [gi_ui, if_neg (by omega)]; exact h.2.2.2⟩
theorem Bd.u {x : Cn} {a k : Nat} {v : Int32} (h : Bd x) (ha : ¬ (a = 717 ∧ k = 11)) : Bd (ui x a k v) := by
  unfold Bd
  rw [gi_ui, if_neg (by omega)]
  exact h
theorem RTk.k {y : Cn} {b : TT} {n p : Nat} (t : RTk y b n p) (j : Nat) (hj : j < 100) : gi y 717 9 = nI j ↔ tK b n p = j := by
  have := tK_4 b n p
  rw [t.2.2.1]
  exact nI_eq (by omega) (by omega)
theorem ad_r {x : Cn} {Q : Cn → Prop} {b : TT} {n p : Nat} (g : RG x b n p) (k : ∀ y, BTf x y → RG y b n (tE b n p) → Q y) : mSV mX8_advance [.ref 717] KW x Q :=
  sp_X8_advance (p := tE b n p) g.1.2.2.2.2.2.2.2.1 g.1.1 g.1.2.2.1 g.1.2.2.2.1 g.1.2.1 g.2.1.2.1 (tE_b g.2.2.1).2.1 (fun y f t => k y f ⟨g.1.q f.q, t, (tE_b g.2.2.1).2.1, (f.2 717 11 (by omega)).trans g.2.2.2⟩)
set_option maxHeartbeats 2000000 in
theorem v_X8_errs_0 {K : Sh} {x : Cn} {Q : Cn → Prop} {b0 : Nat} {l1 : Int32} {l2 : Int32}  (k_b0 : kk K b0 = some (8, 0)) (K0 : ((gi x b0 11 = 0) → (Q (ui (ui x b0 11 l1) b0 12 l2))) ∧ (¬ (gi x b0 11 = 0) → (Q x))) : mSV mX8_errs [.ref b0, .int l1, .int l2] K x Q := by
  refine s_V (by decide) (by simp [Value.category]) (Nat.le_of_ble_eq_true rfl) ?_
  show mGM mX8_errs 0 [some (.ref b0), some (.int l1), some (.int l2)] [] (hp K x) (PV K Q)
  refine r_aload_n (pc := 0) dX8_errs_0 rfl ?_
  refine s_VI (pc := 1) mX8_good (ci := 8) (a := b0) (As := []) dX8_errs_1 lk_X8_104 in_X8_good mo_X8_good ⟨by decide, rfl⟩ ⟨by decide, by decide⟩ (Nat.le_of_ble_eq_true rfl) k_b0 (sp_X8_good k_b0 ?_)
  refine r_if_ne (pc := 4) (tgt := 8) dX8_errs_4 (by decide) (fun q => ?_) (fun q => ?_)
  · have q := b2i_nz q
    have K0 := K0.1 q
    refine r_aload_n (pc := 8) dX8_errs_8 rfl ?_
    refine r_iload_n (pc := 9) dX8_errs_9 rfl ?_
    refine s_putI (pc := 10) dX8_errs_10 fl_X8_101 rfl rfl k_b0 ?_
    refine r_aload_n (pc := 13) dX8_errs_13 rfl ?_
    refine r_iload_n (pc := 14) dX8_errs_14 rfl ?_
    refine s_putI (pc := 15) dX8_errs_15 fl_X8_23 rfl rfl k_b0 ?_
    exact s_ret rfl dX8_errs_18 K0
  · have q := (b2i_z _).mp q
    have K0 := K0.2 q
    exact s_ret rfl dX8_errs_7 K0
section
theorem sp_X8_errs {x : Cn} {Q : Cn → Prop} {v w : Int32} (hv : ¬ v = 0) (k : ∀ y, TFr x y → Bd y → Q y) : mSV mX8_errs [.ref 717, .int v, .int w] KW x Q := by
  refine v_X8_errs_0 km ⟨fun z => k _ (((TFr.rf x).u (by omega)).u (by omega)) ?_, fun z => k x (TFr.rf x) z⟩
  unfold Bd
  rw [gi_ui, if_neg (by omega), gi_ui, if_pos ⟨rfl, rfl⟩]
  exact hv
theorem sp_X8_errs_b {x : Cn} {Q : Cn → Prop} {v w : Int32} (h : Bd x) (k : Q x) : mSV mX8_errs [.ref 717, .int v, .int w] KW x Q := v_X8_errs_0 km ⟨fun z => absurd z h, fun _ => k⟩
end
set_option maxHeartbeats 2000000 in
theorem v_X8_isWord_0 {K : Sh} {x : Cn} {Q : Int32 → Cn → Prop} {b0 : Nat} {j1 : Nat} {q1 : String × Nat × String × List Int32} (hj1 : mS[j1]? = some q1)  (k_b0 : kk K b0 = some (8, 0)) (K0 : (¬ (gi x b0 11 = 0) → (GI mX8_isWord 39 [some (.ref b0), some (.ref (mSB + j1)), some (.int 0), some (.int 0)] [] K x Q)) ∧ ((gi x b0 11 = 0) → ((¬ (gi x b0 9) = 1 → (GI mX8_isWord 39 [some (.ref b0), some (.ref (mSB + j1)), some (.int 0), some (.int 0)] [] K x Q)) ∧ ((gi x b0 9) = 1 → ((¬ ((gi x b0 7) - (gi x b0 8)) = (nI q1.2.2.2.length) → (GI mX8_isWord 39 [some (.ref b0), some (.ref (mSB + j1)), some (.int 0), some (.int 0)] [] K x Q)) ∧ (((gi x b0 7) - (gi x b0 8)) = (nI q1.2.2.2.length) → (GI mX8_isWord 39 [some (.ref b0), some (.ref (mSB + j1)), some (.int 1), some (.int 0)] [] K x Q))))))) : mSI mX8_isWord [.ref b0, .ref (mSB + j1)] K x Q := by
  refine s_I (by decide) (by simp [Value.category]) (Nat.le_of_ble_eq_true rfl) ?_
  show mGM mX8_isWord 0 [some (.ref b0), some (.ref (mSB + j1)), none, none] [] (hp K x) (PI K Q)
  refine r_aload_n (pc := 0) dX8_isWord_0 rfl ?_
  refine s_VI (pc := 1) mX8_good (ci := 8) (a := b0) (As := []) dX8_isWord_1 lk_X8_104 in_X8_good mo_X8_good ⟨by decide, rfl⟩ ⟨by decide, by decide⟩ (Nat.le_of_ble_eq_true rfl) k_b0 (sp_X8_good k_b0 ?_)
  refine r_if_eq (pc := 4) (tgt := 35) dX8_isWord_4 (by decide) (fun q => ?_) (fun q => ?_)
  · have q := (b2i_z _).mp q
    have K0 := K0.1 q
    refine r_iconst (pc := 35) (v := 0) dX8_isWord_35 (by decide) ?_
    refine r_istore_n (pc := 36) dX8_isWord_36 (by decide) ?_
    refine r_iconst (pc := 37) (L := [some (.ref b0), some (.ref (mSB + j1)), some (.int 0), none]) (v := 0) dX8_isWord_37 (by decide) ?_
    refine r_istore_n (pc := 38) dX8_isWord_38 (by decide) ?_
    exact r_le (L' := [some (.ref b0), some (.ref (mSB + j1)), some (.int 0), some (.int 0)]) ⟨rfl, ⟨rfl, ⟨rfl, ⟨rfl, trivial⟩⟩⟩⟩ K0
  · have q := b2i_nz q
    have K0 := K0.2 q
    refine r_aload_n (pc := 7) dX8_isWord_7 rfl ?_
    refine s_getI (pc := 8) dX8_isWord_8 fl_X8_119 rfl k_b0 ?_
    refine r_iconst (pc := 11) (v := 1) dX8_isWord_11 (by decide) ?_
    refine r_icmp_ne (pc := 12) (tgt := 35) dX8_isWord_12 (by decide) (fun q => ?_) (fun q => ?_)
    · have K0 := K0.1 q
      refine r_iconst (pc := 35) (v := 0) dX8_isWord_35 (by decide) ?_
      refine r_istore_n (pc := 36) dX8_isWord_36 (by decide) ?_
      refine r_iconst (pc := 37) (L := [some (.ref b0), some (.ref (mSB + j1)), some (.int 0), none]) (v := 0) dX8_isWord_37 (by decide) ?_
      refine r_istore_n (pc := 38) dX8_isWord_38 (by decide) ?_
      exact r_le (L' := [some (.ref b0), some (.ref (mSB + j1)), some (.int 0), some (.int 0)]) ⟨rfl, ⟨rfl, ⟨rfl, ⟨rfl, trivial⟩⟩⟩⟩ K0
    · have K0 := K0.2 q
      refine r_aload_n (pc := 15) dX8_isWord_15 rfl ?_
      refine s_getI (pc := 16) dX8_isWord_16 fl_X8_110 rfl k_b0 ?_
      refine r_aload_n (pc := 19) dX8_isWord_19 rfl ?_
      refine s_getI (pc := 20) dX8_isWord_20 fl_X8_116 rfl k_b0 ?_
      refine r_isub (pc := 23) dX8_isWord_23 ?_
      refine r_aload_n (pc := 24) dX8_isWord_24 rfl ?_
      refine s_VIs (pc := 25) mJ0_length_8abf5 (j := j1) (q := q1) (As := []) dX8_isWord_25 lk_X8_138 in_J0_length_8abf5 mo_J0_length_8abf5 hj1 rfl ⟨by decide, by decide⟩ (Nat.le_of_ble_eq_true rfl) (sp_len hj1 ?_)
      refine r_icmp_ne (pc := 28) (tgt := 35) dX8_isWord_28 (by decide) (fun q => ?_) (fun q => ?_)
      · have K0 := K0.1 q
        refine r_iconst (pc := 35) (v := 0) dX8_isWord_35 (by decide) ?_
        refine r_istore_n (pc := 36) dX8_isWord_36 (by decide) ?_
        refine r_iconst (pc := 37) (L := [some (.ref b0), some (.ref (mSB + j1)), some (.int 0), none]) (v := 0) dX8_isWord_37 (by decide) ?_
        refine r_istore_n (pc := 38) dX8_isWord_38 (by decide) ?_
        exact r_le (L' := [some (.ref b0), some (.ref (mSB + j1)), some (.int 0), some (.int 0)]) ⟨rfl, ⟨rfl, ⟨rfl, ⟨rfl, trivial⟩⟩⟩⟩ K0
      · have K0 := K0.2 q
        refine r_iconst (pc := 31) (v := 1) dX8_isWord_31 (by decide) ?_
        refine r_goto (pc := 32) (tgt := 36) dX8_isWord_32 (by decide) ?_
        refine r_istore_n (pc := 36) dX8_isWord_36 (by decide) ?_
        refine r_iconst (pc := 37) (L := [some (.ref b0), some (.ref (mSB + j1)), some (.int 1), none]) (v := 0) dX8_isWord_37 (by decide) ?_
        refine r_istore_n (pc := 38) dX8_isWord_38 (by decide) ?_
        exact r_le (L' := [some (.ref b0), some (.ref (mSB + j1)), some (.int 1), some (.int 0)]) ⟨rfl, ⟨rfl, ⟨rfl, ⟨rfl, trivial⟩⟩⟩⟩ K0
set_option maxHeartbeats 2000000 in
theorem v_X8_isWord_39 {K : Sh} {x : Cn} {Q : Int32 → Cn → Prop} {b0 : Nat} {j1 : Nat} {q1 : String × Nat × String × List Int32} (hj1 : mS[j1]? = some q1) {l2 : Int32} {l3 : Int32} {b0_4 : Nat} {n_b0_4 : Nat} (k_b0 : kk K b0 = some (8, 0)) (g_b0_4 : gr x b0 4 = some b0_4) (k_b0_4 : kk K b0_4 = some (21, n_b0_4)) (K0 : ((nI q1.2.2.2.length) ≤ l3 → ((l2 = 0 ∨ l2 = 1) ∧ (Q l2 x))) ∧ (¬ (nI q1.2.2.2.length) ≤ l3 → ((l2 = 0 → ((l2 = 0 ∨ l2 = 1) ∧ (Q l2 x))) ∧ (¬ l2 = 0 → (vp_in ((gi x b0 8) + l3) n_b0_4 ∧ (∃ n_6 : Nat, l3 = nI n_6 ∧ (n_6 < q1.2.2.2.length ∧ ((¬ (gi x b0_4 (((gi x b0 8) + l3) : Int32).toNatClampNeg) = (q1.2.2.2.getD n_6 0) → (GI mX8_isWord 39 [some (.ref b0), some (.ref (mSB + j1)), some (.int 0), some (.int (l3 + 1))] [] K x Q)) ∧ ((gi x b0_4 (((gi x b0 8) + l3) : Int32).toNatClampNeg) = (q1.2.2.2.getD n_6 0) → (GI mX8_isWord 39 [some (.ref b0), some (.ref (mSB + j1)), some (.int 1), some (.int (l3 + 1))] [] K x Q)))))))))) : GI mX8_isWord 39 [some (.ref b0), some (.ref (mSB + j1)), some (.int l2), some (.int l3)] [] K x Q := by
  show mGM mX8_isWord 39 [some (.ref b0), some (.ref (mSB + j1)), some (.int l2), some (.int l3)] [] (hp K x) (PI K Q)
  refine r_iload_n (pc := 39) dX8_isWord_39 rfl ?_
  refine r_aload_n (pc := 40) dX8_isWord_40 rfl ?_
  refine s_VIs (pc := 41) mJ0_length_8abf5 (j := j1) (q := q1) (As := []) dX8_isWord_41 lk_X8_138 in_J0_length_8abf5 mo_J0_length_8abf5 hj1 rfl ⟨by decide, by decide⟩ (Nat.le_of_ble_eq_true rfl) (sp_len hj1 ?_)
  refine r_icmp_ge (pc := 44) (tgt := 82) dX8_isWord_44 (by decide) (fun q => ?_) (fun q => ?_)
  · have K0 := K0.1 q
    refine r_iload_n (pc := 82) dX8_isWord_82 rfl ?_
    obtain ⟨p_2, K0⟩ := K0
    exact s_zret rfl p_2 dX8_isWord_83 K0
  · have K0 := K0.2 q
    refine r_iload_n (pc := 47) dX8_isWord_47 rfl ?_
    refine r_if_eq (pc := 48) (tgt := 82) dX8_isWord_48 (by decide) (fun q => ?_) (fun q => ?_)
    · have K0 := K0.1 q
      refine r_iload_n (pc := 82) dX8_isWord_82 rfl ?_
      obtain ⟨p_4, K0⟩ := K0
      exact s_zret rfl p_4 dX8_isWord_83 K0
    · have K0 := K0.2 q
      refine r_aload_n (pc := 51) dX8_isWord_51 rfl ?_
      refine s_getR (pc := 52) dX8_isWord_52 fl_X8_19 rfl k_b0 g_b0_4 ?_
      refine r_aload_n (pc := 55) dX8_isWord_55 rfl ?_
      refine s_getI (pc := 56) dX8_isWord_56 fl_X8_116 rfl k_b0 ?_
      refine r_iload_n (pc := 59) dX8_isWord_59 rfl ?_
      refine r_iadd (pc := 60) dX8_isWord_60 ?_
      obtain ⟨i_5, K0⟩ := K0
      refine s_bald (pc := 61) dX8_isWord_61 k_b0_4 i_5 ?_
      refine r_aload_n (pc := 62) dX8_isWord_62 rfl ?_
      refine r_iload_n (pc := 63) dX8_isWord_63 rfl ?_
      obtain ⟨n_6, en_6, un_6, K0⟩ := K0
      refine s_VIs (pc := 64) mJ0_charAt_5068e (j := j1) (q := q1) (As := [.int l3]) dX8_isWord_64 lk_X8_143 in_J0_charAt_5068e mo_J0_charAt_5068e hj1 rfl ⟨by decide, by decide⟩ (Nat.le_of_ble_eq_true rfl) (sp_chv hj1 en_6 un_6 ?_)
      refine r_icmp_ne (pc := 67) (tgt := 74) dX8_isWord_67 (by decide) (fun q => ?_) (fun q => ?_)
      · have K0 := K0.1 q
        refine r_iconst (pc := 74) (v := 0) dX8_isWord_74 (by decide) ?_
        refine r_istore_n (pc := 75) dX8_isWord_75 (by decide) ?_
        refine r_iinc (pc := 76) (L := [some (.ref b0), some (.ref (mSB + j1)), some (.int 0), some (.int l3)]) (v := l3 + 1) dX8_isWord_76 rfl rfl (by decide) ?_
        refine r_goto (pc := 79) (L := [some (.ref b0), some (.ref (mSB + j1)), some (.int 0), some (.int (l3 + 1))]) (tgt := 39) dX8_isWord_79 (by decide) ?_
        exact r_le (L' := [some (.ref b0), some (.ref (mSB + j1)), some (.int 0), some (.int (l3 + 1))]) ⟨rfl, ⟨rfl, ⟨rfl, ⟨rfl, trivial⟩⟩⟩⟩ K0
      · have K0 := K0.2 q
        refine r_iconst (pc := 70) (v := 1) dX8_isWord_70 (by decide) ?_
        refine r_goto (pc := 71) (tgt := 75) dX8_isWord_71 (by decide) ?_
        refine r_istore_n (pc := 75) dX8_isWord_75 (by decide) ?_
        refine r_iinc (pc := 76) (L := [some (.ref b0), some (.ref (mSB + j1)), some (.int 1), some (.int l3)]) (v := l3 + 1) dX8_isWord_76 rfl rfl (by decide) ?_
        refine r_goto (pc := 79) (L := [some (.ref b0), some (.ref (mSB + j1)), some (.int 1), some (.int (l3 + 1))]) (tgt := 39) dX8_isWord_79 (by decide) ?_
        exact r_le (L' := [some (.ref b0), some (.ref (mSB + j1)), some (.int 1), some (.int (l3 + 1))]) ⟨rfl, ⟨rfl, ⟨rfl, ⟨rfl, trivial⟩⟩⟩⟩ K0
section
theorem lp_X8_isWord_z {x : Cn} {Q : Int32 → Cn → Prop} {j i : Nat} {q : String × Nat × String × List Int32} (hj : mS[j]? = some q) (c : gr x 717 4 = some 720) (k : Q 0 x) : GI mX8_isWord 39 [some (.ref 717), some (.ref (mSB + j)), some (.int 0), some (.int (nI i))] [] KW x Q :=
  v_X8_isWord_39 hj km c k720 ⟨fun _ => ⟨Or.inl rfl, k⟩, fun _ => ⟨fun _ => ⟨Or.inl rfl, k⟩, fun z => absurd rfl z⟩⟩
theorem lp_X8_isWord_o {x : Cn} {Q : Int32 → Cn → Prop} {b : TT} {s e j : Nat} {q : String × Nat × String × List Int32} (hj : mS[j]? = some q) (c : gr x 717 4 = some 720) (hb : gi x 720 = b) (h8 : gi x 717 8 = nI s) (he : e ≤ 1200) (hl : s + q.2.2.2.length = e) : ∀ (l : List Int32) (i : Nat), q.2.2.2.drop i = l → i ≤ q.2.2.2.length → Q (b2i (mtb b e l (s + i) = true)) x → GI mX8_isWord 39 [some (.ref 717), some (.ref (mSB + j)), some (.int 1), some (.int (nI i))] [] KW x Q := by
  intro l
  induction l with
  | nil =>
    intro i hd hi k
    have hi2 : q.2.2.2.length ≤ i := List.drop_eq_nil_iff.mp hd
    have e1 : b2i (mtb b e [] (s + i) = true) = 1 := b2i_t (decide_eq_true (by omega))
    rw [e1] at k
    exact v_X8_isWord_39 hj km c k720 ⟨fun _ => ⟨Or.inr rfl, k⟩, fun z => absurd (nI_le hi2 (by omega)) z⟩
  | cons ch l ih =>
    intro i hd hi k
    have hlt : i < q.2.2.2.length := by
      rcases Nat.lt_or_ge i q.2.2.2.length with w | w
      · exact w
      · rw [List.drop_eq_nil_of_le w] at hd; cases hd
    have hch : q.2.2.2.getD i 0 = ch := by rw [List.getD_eq_getElem?_getD, ← List.head?_drop, hd]; rfl
    have hd2 : q.2.2.2.drop (i + 1) = l := by rw [← List.tail_drop, hd]; rfl
    refine v_X8_isWord_39 hj km c k720 ⟨fun z => absurd z (nI_ge hlt (by omega)), fun _ => ⟨fun z => absurd z (by decide), fun _ => ?_⟩⟩
    rw [h8, nI_add, nI_clamp (by omega), hb]
    refine ⟨vp_in_nI (by omega) (by decide), i, rfl, hlt, ?_⟩
    rw [hch, ← nI_succ]
    refine ⟨fun z => ?_, fun z => ?_⟩
    · have e1 : b2i (mtb b e (ch :: l) (s + i) = true) = 0 := b2i_f (fun w => by
        simp only [mtb, Bool.and_eq_true, decide_eq_true_eq] at w
        exact z w.1.2)
      rw [e1] at k
      exact lp_X8_isWord_z hj c k
    · have e1 : b2i (mtb b e (ch :: l) (s + i) = true) = b2i (mtb b e l (s + (i + 1)) = true) := b2i_cg (by
        simp only [mtb, Bool.and_eq_true, decide_eq_true_eq]
        constructor
        · intro w; exact w.2
        · intro w; exact ⟨⟨by omega, z⟩, w⟩)
      rw [e1] at k
      exact ih (i + 1) hd2 (by omega) k
theorem sp_X8_isWord_b {x : Cn} {Q : Int32 → Cn → Prop} {j : Nat} (hj : j < 37) (c : gr x 717 4 = some 720) (h : Bd x) (k : Q 0 x) : mSI mX8_isWord [.ref 717, .ref (mSB + j)] KW x Q :=
  v_X8_isWord_0 (mSq_at hj) km ⟨fun _ => lp_X8_isWord_z (i := 0) (mSq_at hj) c k, fun z => absurd z h⟩
theorem mtb_len {b : TT} {e : Nat} : ∀ (l : List Int32) (a : Nat), mtb b e l a = true → a + l.length = e := by
  intro l
  induction l with
  | nil => intro a h; simpa [mtb] using h
  | cons c l ih =>
    intro a h
    simp only [mtb, Bool.and_eq_true] at h
    have := ih (a + 1) h.2
    simp only [List.length_cons]
    omega
/-- the words by their places among the constants -/
def wj (i j : Nat) : Prop := i < 16 ∧ j < 37 ∧ (mSq j).2.2.2 = WL.getD i []
theorem sp_X8_isWord {x : Cn} {Q : Int32 → Cn → Prop} {b : TT} {n p i j : Nat} (w : wj i j) (g : RG x b n p) (k1 : iw b n p i → Q 1 x) (k0 : ¬ iw b n p i → Q 0 x) : mSI mX8_isWord [.ref 717, .ref (mSB + j)] KW x Q := by
  obtain ⟨hi, hj, hw⟩ := w
  have hE := tE_b (b := b) g.2.2.1
  have ek : gi x 717 9 = 1 ↔ tK b n p = 1 := g.2.1.k 1 (by omega)
  have c := g.1.2.2.2.2.2.2.2.1
  have hl16 : (mSq j).2.2.2.length < 2000 := by
    have : ∀ i, i < 16 → (WL.getD i []).length < 2000 := by decide
    rw [hw]
    exact this i hi
  have hn := g.1.1
  refine v_X8_isWord_0 (mSq_at hj) km ⟨fun z => absurd g.2.2.2 z, fun _ => ?_⟩
  rw [ek, g.2.1.1, g.2.1.2.1, nI_sb hE.1, nI_eq (by omega) (by omega)]
  refine ⟨fun z => lp_X8_isWord_z (i := 0) (mSq_at hj) c (k0 (fun o => z o.1)), fun z => ⟨fun z2 => lp_X8_isWord_z (i := 0) (mSq_at hj) c (k0 (fun o => ?_)), fun z2 => ?_⟩⟩
  · have := mtb_len _ _ ((wno_i hi).mp o.2)
    rw [← hw] at this
    omega
  · refine lp_X8_isWord_o (b := b) (s := tS b n p) (e := tE b n p) (mSq_at hj) c g.1.2.2.1 g.2.1.1 (by omega) (by omega) _ 0 rfl (by omega) ?_
    rw [List.drop_zero, hw, Nat.add_zero]
    by_cases m : mtb b (tE b n p) (WL.getD i []) (tS b n p) = true
    · rw [b2i_t m]; exact k1 ⟨z, (wno_i hi).mpr m⟩
    · rw [b2i_f m]; exact k0 (fun o => m ((wno_i hi).mp o.2))
end
set_option maxHeartbeats 2000000 in
theorem v_X8_eats_0 {K : Sh} {x : Cn} {Q : Int32 → Cn → Prop} {b0 : Nat} {b1 : Nat}  (k_b0 : kk K b0 = some (8, 0)) (K0 : mSI mX8_isWord [.ref b0, .ref b1] K x (fun r_2 y_1 => (¬ r_2 = 0 → (mSV mX8_advance [.ref b0] K y_1 (fun y_4 => Q 1 y_4))) ∧ (r_2 = 0 → (Q 0 y_1)))) : mSI mX8_eats [.ref b0, .ref b1] K x Q := by
  refine s_I (by decide) (by simp [Value.category]) (Nat.le_of_ble_eq_true rfl) ?_
  show mGM mX8_eats 0 [some (.ref b0), some (.ref b1)] [] (hp K x) (PI K Q)
  refine r_aload_n (pc := 0) dX8_eats_0 rfl ?_
  refine r_aload_n (pc := 1) dX8_eats_1 rfl ?_
  refine s_VI (pc := 2) mX8_isWord (ci := 8) (a := b0) (As := [.ref b1]) dX8_eats_2 lk_X8_147 in_X8_isWord mo_X8_isWord ⟨by decide, rfl⟩ ⟨by decide, by decide⟩ (Nat.le_of_ble_eq_true rfl) k_b0 (mSI_mono K0 (fun r_2 y_1 K0 => ?_))
  refine r_if_ne (pc := 5) (tgt := 10) dX8_eats_5 (by decide) (fun q => ?_) (fun q => ?_)
  · have K0 := K0.1 q
    refine r_aload_n (pc := 10) dX8_eats_10 rfl ?_
    refine s_VV (pc := 11) mX8_advance (ci := 8) (a := b0) (As := []) dX8_eats_11 lk_X8_151 in_X8_advance mo_X8_advance ⟨by decide, rfl⟩ ⟨by decide, by decide⟩ (Nat.le_of_ble_eq_true rfl) k_b0 (mSV_mono K0 (fun y_4 K0 => ?_))
    refine r_iconst (pc := 14) (v := 1) dX8_eats_14 (by decide) ?_
    exact s_zret rfl (by decide) dX8_eats_15 K0
  · have K0 := K0.2 q
    refine r_iconst (pc := 8) (v := 0) dX8_eats_8 (by decide) ?_
    exact s_zret rfl (by decide) dX8_eats_9 K0
section
theorem sp_X8_eats {x : Cn} {Q : Int32 → Cn → Prop} {b : TT} {n p i j : Nat} (w : wj i j) (g : RG x b n p) (k1 : iw b n p i → ∀ y, BTf x y → RG y b n (tE b n p) → Q 1 y) (k0 : ¬ iw b n p i → Q 0 x) : mSI mX8_eats [.ref 717, .ref (mSB + j)] KW x Q :=
  v_X8_eats_0 km (sp_X8_isWord w g (fun o => ⟨fun _ => ad_r g (k1 o), fun z => absurd z (by decide)⟩) (fun o => ⟨fun z => absurd rfl z, fun _ => k0 o⟩))
theorem sp_X8_eats_b {x : Cn} {Q : Int32 → Cn → Prop} {j : Nat} (hj : j < 37) (c : gr x 717 4 = some 720) (h : Bd x) (k : Q 0 x) : mSI mX8_eats [.ref 717, .ref (mSB + j)] KW x Q :=
  v_X8_eats_0 km (sp_X8_isWord_b hj c h ⟨fun z => absurd rfl z, fun _ => k⟩)
end
set_option maxHeartbeats 2000000 in
theorem v_X8_passes_0 {K : Sh} {x : Cn} {Q : Cn → Prop} {b0 : Nat} {b1 : Nat}  (k_b0 : kk K b0 = some (8, 0)) (K0 : mSI mX8_eats [.ref b0, .ref b1] K x (fun r_2 y_1 => (¬ r_2 = 0 → (Q y_1)) ∧ (r_2 = 0 → (mSV mX8_errs [.ref b0, .int 1, .int (gi y_1 b0 8)] K y_1 (fun y_4 => Q y_4))))) : mSV mX8_passes [.ref b0, .ref b1] K x Q := by
  refine s_V (by decide) (by simp [Value.category]) (Nat.le_of_ble_eq_true rfl) ?_
  show mGM mX8_passes 0 [some (.ref b0), some (.ref b1)] [] (hp K x) (PV K Q)
  refine r_aload_n (pc := 0) dX8_passes_0 rfl ?_
  refine r_aload_n (pc := 1) dX8_passes_1 rfl ?_
  refine s_VI (pc := 2) mX8_eats (ci := 8) (a := b0) (As := [.ref b1]) dX8_passes_2 lk_X8_154 in_X8_eats mo_X8_eats ⟨by decide, rfl⟩ ⟨by decide, by decide⟩ (Nat.le_of_ble_eq_true rfl) k_b0 (mSI_mono K0 (fun r_2 y_1 K0 => ?_))
  refine r_if_ne (pc := 5) (tgt := 17) dX8_passes_5 (by decide) (fun q => ?_) (fun q => ?_)
  · have K0 := K0.1 q
    exact s_ret rfl dX8_passes_17 K0
  · have K0 := K0.2 q
    refine r_aload_n (pc := 8) dX8_passes_8 rfl ?_
    refine r_iconst (pc := 9) (v := 1) dX8_passes_9 (by decide) ?_
    refine r_aload_n (pc := 10) dX8_passes_10 rfl ?_
    refine s_getI (pc := 11) dX8_passes_11 fl_X8_116 rfl k_b0 ?_
    refine s_VV (pc := 14) mX8_errs (ci := 8) (a := b0) (As := [.int 1, .int (gi y_1 b0 8)]) dX8_passes_14 lk_X8_157 in_X8_errs mo_X8_errs ⟨by decide, rfl⟩ ⟨by decide, by decide⟩ (Nat.le_of_ble_eq_true rfl) k_b0 (mSV_mono K0 (fun y_4 K0 => ?_))
    exact s_ret rfl dX8_passes_17 K0
section
theorem sp_X8_passes {x : Cn} {Q : Cn → Prop} {b : TT} {n p i j : Nat} (w : wj i j) (g : RG x b n p) (k1 : iw b n p i → ∀ y, BTf x y → RG y b n (tE b n p) → Q y) (k0 : ¬ iw b n p i → ∀ y, TFr x y → Bd y → Q y) : mSV mX8_passes [.ref 717, .ref (mSB + j)] KW x Q :=
  v_X8_passes_0 km (sp_X8_eats w g (fun o y f g' => ⟨fun _ => k1 o y f g', fun z => absurd z (by decide)⟩) (fun o => ⟨fun z => absurd rfl z, fun _ => sp_X8_errs (by decide) (k0 o)⟩))
theorem sp_X8_passes_b {x : Cn} {Q : Cn → Prop} {j : Nat} (hj : j < 37) (c : gr x 717 4 = some 720) (h : Bd x) (k : Q x) : mSV mX8_passes [.ref 717, .ref (mSB + j)] KW x Q :=
  v_X8_passes_0 km (sp_X8_eats_b hj c h ⟨fun z => absurd rfl z, fun _ => sp_X8_errs_b h k⟩)
end
set_option maxHeartbeats 2000000 in
theorem v_X8_passesByte_0 {K : Sh} {x : Cn} {Q : Cn → Prop} {b0 : Nat} {l1 : Int32}  (k_b0 : kk K b0 = some (8, 0)) (K0 : ((gi x b0 11 = 0 ∧ gi x b0 9 = 3 ∧ gi x b0 10 = l1) → ((¬ (gi x b0 11 = 0) → (Q x)) ∧ ((gi x b0 11 = 0) → (mSV mX8_advance [.ref b0] K x (fun y_3 => Q y_3))))) ∧ (¬ (gi x b0 11 = 0 ∧ gi x b0 9 = 3 ∧ gi x b0 10 = l1) → (mSV mX8_errs [.ref b0, .int 1, .int (gi x b0 8)] K x (fun y_4 => (¬ (gi y_4 b0 11 = 0) → (Q y_4)) ∧ ((gi y_4 b0 11 = 0) → (mSV mX8_advance [.ref b0] K y_4 (fun y_6 => Q y_6))))))) : mSV mX8_passesByte [.ref b0, .int l1] K x Q := by
  refine s_V (by decide) (by simp [Value.category]) (Nat.le_of_ble_eq_true rfl) ?_
  show mGM mX8_passesByte 0 [some (.ref b0), some (.int l1)] [] (hp K x) (PV K Q)
  refine r_aload_n (pc := 0) dX8_passesByte_0 rfl ?_
  refine r_iload_n (pc := 1) dX8_passesByte_1 rfl ?_
  refine s_VI (pc := 2) mX8_isByte (ci := 8) (a := b0) (As := [.int l1]) dX8_passesByte_2 lk_X8_161 in_X8_isByte mo_X8_isByte ⟨by decide, rfl⟩ ⟨by decide, by decide⟩ (Nat.le_of_ble_eq_true rfl) k_b0 (sp_X8_isByte k_b0 ?_)
  refine r_if_ne (pc := 5) (tgt := 17) dX8_passesByte_5 (by decide) (fun q => ?_) (fun q => ?_)
  · have q := b2i_nz q
    have K0 := K0.1 q
    refine r_aload_n (pc := 17) dX8_passesByte_17 rfl ?_
    refine s_VI (pc := 18) mX8_good (ci := 8) (a := b0) (As := []) dX8_passesByte_18 lk_X8_104 in_X8_good mo_X8_good ⟨by decide, rfl⟩ ⟨by decide, by decide⟩ (Nat.le_of_ble_eq_true rfl) k_b0 (sp_X8_good k_b0 ?_)
    refine r_if_eq (pc := 21) (tgt := 28) dX8_passesByte_21 (by decide) (fun q => ?_) (fun q => ?_)
    · have q := (b2i_z _).mp q
      have K0 := K0.1 q
      exact s_ret rfl dX8_passesByte_28 K0
    · have q := b2i_nz q
      have K0 := K0.2 q
      refine r_aload_n (pc := 24) dX8_passesByte_24 rfl ?_
      refine s_VV (pc := 25) mX8_advance (ci := 8) (a := b0) (As := []) dX8_passesByte_25 lk_X8_151 in_X8_advance mo_X8_advance ⟨by decide, rfl⟩ ⟨by decide, by decide⟩ (Nat.le_of_ble_eq_true rfl) k_b0 (mSV_mono K0 (fun y_3 K0 => ?_))
      exact s_ret rfl dX8_passesByte_28 K0
  · have q := (b2i_z _).mp q
    have K0 := K0.2 q
    refine r_aload_n (pc := 8) dX8_passesByte_8 rfl ?_
    refine r_iconst (pc := 9) (v := 1) dX8_passesByte_9 (by decide) ?_
    refine r_aload_n (pc := 10) dX8_passesByte_10 rfl ?_
    refine s_getI (pc := 11) dX8_passesByte_11 fl_X8_116 rfl k_b0 ?_
    refine s_VV (pc := 14) mX8_errs (ci := 8) (a := b0) (As := [.int 1, .int (gi x b0 8)]) dX8_passesByte_14 lk_X8_157 in_X8_errs mo_X8_errs ⟨by decide, rfl⟩ ⟨by decide, by decide⟩ (Nat.le_of_ble_eq_true rfl) k_b0 (mSV_mono K0 (fun y_4 K0 => ?_))
    refine r_aload_n (pc := 17) dX8_passesByte_17 rfl ?_
    refine s_VI (pc := 18) mX8_good (ci := 8) (a := b0) (As := []) dX8_passesByte_18 lk_X8_104 in_X8_good mo_X8_good ⟨by decide, rfl⟩ ⟨by decide, by decide⟩ (Nat.le_of_ble_eq_true rfl) k_b0 (sp_X8_good k_b0 ?_)
    refine r_if_eq (pc := 21) (tgt := 28) dX8_passesByte_21 (by decide) (fun q => ?_) (fun q => ?_)
    · have q := (b2i_z _).mp q
      have K0 := K0.1 q
      exact s_ret rfl dX8_passesByte_28 K0
    · have q := b2i_nz q
      have K0 := K0.2 q
      refine r_aload_n (pc := 24) dX8_passesByte_24 rfl ?_
      refine s_VV (pc := 25) mX8_advance (ci := 8) (a := b0) (As := []) dX8_passesByte_25 lk_X8_151 in_X8_advance mo_X8_advance ⟨by decide, rfl⟩ ⟨by decide, by decide⟩ (Nat.le_of_ble_eq_true rfl) k_b0 (mSV_mono K0 (fun y_6 K0 => ?_))
      exact s_ret rfl dX8_passesByte_28 K0
section
theorem sp_X8_passesByte {x : Cn} {Q : Cn → Prop} {b : TT} {n p : Nat} {v : Int32} (hv : v = 59 ∨ v = 45) (g : RG x b n p) (k1 : sg b n p v → ∀ y, BTf x y → RG y b n (tE b n p) → Q y) (k0 : ¬ sg b n p v → ∀ y, TFr x y → Bd y → Q y) : mSV mX8_passesByte [.ref 717, .int v] KW x Q := by
  have ek : gi x 717 9 = 3 ↔ tK b n p = 3 := g.2.1.k 3 (by omega)
  have es : (gi x 717 11 = 0 ∧ gi x 717 9 = 3 ∧ gi x 717 10 = v) ↔ sg b n p v := by
    unfold sg
    rw [ek]
    have key : tK b n p = 3 → (gi x 717 10 = v ↔ b (tS b n p) = v) := by
      intro z
      have hlt : tS b n p < n := by
        have h1 := tK_0 (b := b) g.2.2.1
        have h2 := tS_b (b := b) g.2.2.1
        omega
      have fb := FB_of (g.1.2.2.2.1 _ hlt)
      rw [g.2.1.2.2.2.2 z]
      rcases hv with rfl | rfl
      · exact fb.2.2.2.2.1
      · exact fb.2.2.2.2.2.1
    constructor
    · intro h; exact ⟨h.2.1, (key h.2.1).mp h.2.2⟩
    · intro h; exact ⟨g.2.2.2, h.1, (key h.1).mpr h.2⟩
  refine v_X8_passesByte_0 km ?_
  rw [es]
  exact ⟨fun o => ⟨fun z => absurd g.2.2.2 z, fun _ => ad_r g (k1 o)⟩, fun o => sp_X8_errs (by decide) (fun y f h => ⟨fun _ => k0 o y f h, fun z => absurd z h⟩)⟩
theorem sp_X8_passesByte_b {x : Cn} {Q : Cn → Prop} {v : Int32} (h : Bd x) (k : Q x) : mSV mX8_passesByte [.ref 717, .int v] KW x Q :=
  v_X8_passesByte_0 km ⟨fun o => absurd o.1 h, fun _ => sp_X8_errs_b h ⟨fun _ => k, fun z => absurd z h⟩⟩
end
set_option maxHeartbeats 2000000 in
theorem v_X8_number_0 {K : Sh} {x : Cn} {Q : Int32 → Cn → Prop} {b0 : Nat} {l1 : Int32} {l2 : Int32}  (k_b0 : kk K b0 = some (8, 0)) (K0 : (¬ (gi x b0 11 = 0) → (GI mX8_number 24 [some (.ref b0), some (.int l1), some (.int l2), none] [] K x Q)) ∧ ((gi x b0 11 = 0) → (((gi x b0 9) = 2 → (GI mX8_number 24 [some (.ref b0), some (.int l1), some (.int l2), none] [] K x Q)) ∧ (¬ (gi x b0 9) = 2 → (mSV mX8_errs [.ref b0, .int 1, .int (gi x b0 8)] K x (fun y_3 => GI mX8_number 24 [some (.ref b0), some (.int l1), some (.int l2), none] [] K y_3 Q)))))) : mSI mX8_number [.ref b0, .int l1, .int l2] K x Q := by
  refine s_I (by decide) (by simp [Value.category]) (Nat.le_of_ble_eq_true rfl) ?_
  show mGM mX8_number 0 [some (.ref b0), some (.int l1), some (.int l2), none] [] (hp K x) (PI K Q)
  refine r_aload_n (pc := 0) dX8_number_0 rfl ?_
  refine s_VI (pc := 1) mX8_good (ci := 8) (a := b0) (As := []) dX8_number_1 lk_X8_104 in_X8_good mo_X8_good ⟨by decide, rfl⟩ ⟨by decide, by decide⟩ (Nat.le_of_ble_eq_true rfl) k_b0 (sp_X8_good k_b0 ?_)
  refine r_if_eq (pc := 4) (tgt := 24) dX8_number_4 (by decide) (fun q => ?_) (fun q => ?_)
  · have q := (b2i_z _).mp q
    have K0 := K0.1 q
    exact r_le (L' := [some (.ref b0), some (.int l1), some (.int l2), none]) ⟨rfl, ⟨rfl, ⟨rfl, trivial⟩⟩⟩ K0
  · have q := b2i_nz q
    have K0 := K0.2 q
    refine r_aload_n (pc := 7) dX8_number_7 rfl ?_
    refine s_getI (pc := 8) dX8_number_8 fl_X8_119 rfl k_b0 ?_
    refine r_iconst (pc := 11) (v := 2) dX8_number_11 (by decide) ?_
    refine r_icmp_eq (pc := 12) (tgt := 24) dX8_number_12 (by decide) (fun q => ?_) (fun q => ?_)
    · have K0 := K0.1 q
      exact r_le (L' := [some (.ref b0), some (.int l1), some (.int l2), none]) ⟨rfl, ⟨rfl, ⟨rfl, trivial⟩⟩⟩ K0
    · have K0 := K0.2 q
      refine r_aload_n (pc := 15) dX8_number_15 rfl ?_
      refine r_iconst (pc := 16) (v := 1) dX8_number_16 (by decide) ?_
      refine r_aload_n (pc := 17) dX8_number_17 rfl ?_
      refine s_getI (pc := 18) dX8_number_18 fl_X8_116 rfl k_b0 ?_
      refine s_VV (pc := 21) mX8_errs (ci := 8) (a := b0) (As := [.int 1, .int (gi x b0 8)]) dX8_number_21 lk_X8_157 in_X8_errs mo_X8_errs ⟨by decide, rfl⟩ ⟨by decide, by decide⟩ (Nat.le_of_ble_eq_true rfl) k_b0 (mSV_mono K0 (fun y_3 K0 => ?_))
      exact r_le (L' := [some (.ref b0), some (.int l1), some (.int l2), none]) ⟨rfl, ⟨rfl, ⟨rfl, trivial⟩⟩⟩ K0
set_option maxHeartbeats 2000000 in
theorem v_X8_number_24 {K : Sh} {x : Cn} {Q : Int32 → Cn → Prop} {b0 : Nat} {l1 : Int32} {l2 : Int32}  (k_b0 : kk K b0 = some (8, 0)) (K0 : (¬ (gi x b0 11 = 0) → (GI mX8_number 55 [some (.ref b0), some (.int l1), some (.int l2), none] [] K x Q)) ∧ ((gi x b0 11 = 0) → (((l1 ≤ (gi x b0 10) ∧ (gi x b0 10) ≤ l2) → (GI mX8_number 55 [some (.ref b0), some (.int l1), some (.int l2), none] [] K x Q)) ∧ (¬ (l1 ≤ (gi x b0 10) ∧ (gi x b0 10) ≤ l2) → (mSV mX8_errs [.ref b0, .int 2, .int (gi x b0 8)] K x (fun y_3 => GI mX8_number 55 [some (.ref b0), some (.int l1), some (.int l2), none] [] K y_3 Q)))))) : GI mX8_number 24 [some (.ref b0), some (.int l1), some (.int l2), none] [] K x Q := by
  show mGM mX8_number 24 [some (.ref b0), some (.int l1), some (.int l2), none] [] (hp K x) (PI K Q)
  refine r_aload_n (pc := 24) dX8_number_24 rfl ?_
  refine s_VI (pc := 25) mX8_good (ci := 8) (a := b0) (As := []) dX8_number_25 lk_X8_104 in_X8_good mo_X8_good ⟨by decide, rfl⟩ ⟨by decide, by decide⟩ (Nat.le_of_ble_eq_true rfl) k_b0 (sp_X8_good k_b0 ?_)
  refine r_if_eq (pc := 28) (tgt := 55) dX8_number_28 (by decide) (fun q => ?_) (fun q => ?_)
  · have q := (b2i_z _).mp q
    have K0 := K0.1 q
    exact r_le (L' := [some (.ref b0), some (.int l1), some (.int l2), none]) ⟨rfl, ⟨rfl, ⟨rfl, trivial⟩⟩⟩ K0
  · have q := b2i_nz q
    have K0 := K0.2 q
    refine r_aload_n (pc := 31) dX8_number_31 rfl ?_
    refine s_getI (pc := 32) dX8_number_32 fl_X8_130 rfl k_b0 ?_
    refine r_i2l (pc := 35) dX8_number_35 ?_
    refine r_iload_n (pc := 36) dX8_number_36 rfl ?_
    refine r_i2l (pc := 37) dX8_number_37 ?_
    refine r_iload_n (pc := 38) dX8_number_38 rfl ?_
    refine r_i2l (pc := 39) dX8_number_39 ?_
    refine s_SI (pc := 40) mX8_in (As := [.long (((gi x b0 10) : Int32).toInt64), .long ((l1 : Int32).toInt64), .long ((l2 : Int32).toInt64)]) dX8_number_40 lk_X8_45 st_X8_in mo_X8_in ⟨by decide, by decide⟩ (Nat.le_of_ble_eq_true rfl) (sq_X8_in (v := (gi x b0 10)) (lo := l1) (hi := l2) rfl rfl rfl ?_)
    refine r_if_ne (pc := 43) (tgt := 55) dX8_number_43 (by decide) (fun q => ?_) (fun q => ?_)
    · have q := b2i_nz q
      have K0 := K0.1 q
      exact r_le (L' := [some (.ref b0), some (.int l1), some (.int l2), none]) ⟨rfl, ⟨rfl, ⟨rfl, trivial⟩⟩⟩ K0
    · have q := (b2i_z _).mp q
      have K0 := K0.2 q
      refine r_aload_n (pc := 46) dX8_number_46 rfl ?_
      refine r_iconst (pc := 47) (v := 2) dX8_number_47 (by decide) ?_
      refine r_aload_n (pc := 48) dX8_number_48 rfl ?_
      refine s_getI (pc := 49) dX8_number_49 fl_X8_116 rfl k_b0 ?_
      refine s_VV (pc := 52) mX8_errs (ci := 8) (a := b0) (As := [.int 2, .int (gi x b0 8)]) dX8_number_52 lk_X8_157 in_X8_errs mo_X8_errs ⟨by decide, rfl⟩ ⟨by decide, by decide⟩ (Nat.le_of_ble_eq_true rfl) k_b0 (mSV_mono K0 (fun y_3 K0 => ?_))
      exact r_le (L' := [some (.ref b0), some (.int l1), some (.int l2), none]) ⟨rfl, ⟨rfl, ⟨rfl, trivial⟩⟩⟩ K0
set_option maxHeartbeats 2000000 in
theorem v_X8_number_55 {K : Sh} {x : Cn} {Q : Int32 → Cn → Prop} {b0 : Nat} {l1 : Int32} {l2 : Int32}  (k_b0 : kk K b0 = some (8, 0)) (K0 : (¬ (gi x b0 11 = 0) → ((¬ (gi x b0 11 = 0) → (Q 0 x)) ∧ ((gi x b0 11 = 0) → (Q (gi x b0 10) x)))) ∧ ((gi x b0 11 = 0) → (mSV mX8_advance [.ref b0] K x (fun y_3 => (¬ (gi y_3 b0 11 = 0) → (Q 0 y_3)) ∧ ((gi y_3 b0 11 = 0) → (Q (gi x b0 10) y_3)))))) : GI mX8_number 55 [some (.ref b0), some (.int l1), some (.int l2), none] [] K x Q := by
  show mGM mX8_number 55 [some (.ref b0), some (.int l1), some (.int l2), none] [] (hp K x) (PI K Q)
  refine r_aload_n (pc := 55) dX8_number_55 rfl ?_
  refine s_getI (pc := 56) dX8_number_56 fl_X8_130 rfl k_b0 ?_
  refine r_istore_n (pc := 59) dX8_number_59 (by decide) ?_
  refine r_aload_n (pc := 60) (L := [some (.ref b0), some (.int l1), some (.int l2), some (.int (gi x b0 10))]) dX8_number_60 rfl ?_
  refine s_VI (pc := 61) mX8_good (ci := 8) (a := b0) (As := []) dX8_number_61 lk_X8_104 in_X8_good mo_X8_good ⟨by decide, rfl⟩ ⟨by decide, by decide⟩ (Nat.le_of_ble_eq_true rfl) k_b0 (sp_X8_good k_b0 ?_)
  refine r_if_eq (pc := 64) (tgt := 71) dX8_number_64 (by decide) (fun q => ?_) (fun q => ?_)
  · have q := (b2i_z _).mp q
    have K0 := K0.1 q
    refine r_aload_n (pc := 71) dX8_number_71 rfl ?_
    refine s_VI (pc := 72) mX8_good (ci := 8) (a := b0) (As := []) dX8_number_72 lk_X8_104 in_X8_good mo_X8_good ⟨by decide, rfl⟩ ⟨by decide, by decide⟩ (Nat.le_of_ble_eq_true rfl) k_b0 (sp_X8_good k_b0 ?_)
    refine r_if_eq (pc := 75) (tgt := 82) dX8_number_75 (by decide) (fun q => ?_) (fun q => ?_)
    · have q := (b2i_z _).mp q
      have K0 := K0.1 q
      refine r_iconst (pc := 82) (v := 0) dX8_number_82 (by decide) ?_
      exact s_iret rfl dX8_number_83 K0
    · have q := b2i_nz q
      have K0 := K0.2 q
      refine r_iload_n (pc := 78) dX8_number_78 rfl ?_
      refine r_goto (pc := 79) (tgt := 83) dX8_number_79 (by decide) ?_
      exact s_iret rfl dX8_number_83 K0
  · have q := b2i_nz q
    have K0 := K0.2 q
    refine r_aload_n (pc := 67) dX8_number_67 rfl ?_
    refine s_VV (pc := 68) mX8_advance (ci := 8) (a := b0) (As := []) dX8_number_68 lk_X8_151 in_X8_advance mo_X8_advance ⟨by decide, rfl⟩ ⟨by decide, by decide⟩ (Nat.le_of_ble_eq_true rfl) k_b0 (mSV_mono K0 (fun y_3 K0 => ?_))
    refine r_aload_n (pc := 71) dX8_number_71 rfl ?_
    refine s_VI (pc := 72) mX8_good (ci := 8) (a := b0) (As := []) dX8_number_72 lk_X8_104 in_X8_good mo_X8_good ⟨by decide, rfl⟩ ⟨by decide, by decide⟩ (Nat.le_of_ble_eq_true rfl) k_b0 (sp_X8_good k_b0 ?_)
    refine r_if_eq (pc := 75) (tgt := 82) dX8_number_75 (by decide) (fun q => ?_) (fun q => ?_)
    · have q := (b2i_z _).mp q
      have K0 := K0.1 q
      refine r_iconst (pc := 82) (v := 0) dX8_number_82 (by decide) ?_
      exact s_iret rfl dX8_number_83 K0
    · have q := b2i_nz q
      have K0 := K0.2 q
      refine r_iload_n (pc := 78) dX8_number_78 rfl ?_
      refine r_goto (pc := 79) (tgt := 83) dX8_number_79 (by decide) ?_
      exact s_iret rfl dX8_number_83 K0
section
theorem sp_X8_number {x : Cn} {Q : Int32 → Cn → Prop} {b : TT} {n p lo hi : Nat} (hlo : lo < 100000) (hhi : hi < 9999) (g : RG x b n p) (k1 : nb b n p lo hi → ∀ y, BTf x y → RG y b n (tE b n p) → Q (nI (tV b n p)) y) (k0 : ¬ nb b n p lo hi → ∀ y, TFr x y → Bd y → Q 0 y) : mSI mX8_number [.ref 717, .int (nI lo), .int (nI hi)] KW x Q := by
  have ek : gi x 717 9 = 2 ↔ tK b n p = 2 := g.2.1.k 2 (by omega)
  have bad : ∀ y, TFr x y → Bd y → ¬ nb b n p lo hi → GI mX8_number 55 [some (.ref 717), some (.int (nI lo)), some (.int (nI hi)), none] [] KW y Q := fun y f h o => v_X8_number_55 km ⟨fun _ => ⟨fun _ => k0 o y f h, fun z => absurd z h⟩, fun z => absurd z h⟩
  refine v_X8_number_0 km ?_
  rw [ek]
  refine ⟨fun z => absurd g.2.2.2 z, fun _ => ⟨fun z => ?_, fun z => sp_X8_errs (by decide) (fun y f h => v_X8_number_24 km ⟨fun _ => bad y f h (fun o => z o.1), fun w => absurd w h⟩)⟩⟩
  have hv := g.2.1.2.2.2.1 z
  have hm : min (tV b n p) 9999 ≤ 9999 := Nat.min_le_right _ _
  refine v_X8_number_24 km ⟨fun w => absurd g.2.2.2 w, fun _ => ?_⟩
  have ei : (nI lo ≤ gi x 717 10 ∧ gi x 717 10 ≤ nI hi) ↔ (lo ≤ tV b n p ∧ tV b n p ≤ hi) := by
    rw [hv, nI_leI (by omega) (by omega), nI_leI (by omega) (by omega)]
    omega
  rw [ei]
  refine ⟨fun o => v_X8_number_55 km ⟨fun w => absurd g.2.2.2 w, fun _ => ad_r g (fun y f g' => ⟨fun w => absurd g'.2.2.2 w, fun _ => ?_⟩)⟩, fun o => sp_X8_errs (by decide) (fun y f h => bad y f h (fun q => o q.2))⟩
  rw [hv, show min (tV b n p) 9999 = tV b n p by omega]
  exact k1 ⟨z, o⟩ y f g'
theorem sp_X8_number_b {x : Cn} {Q : Int32 → Cn → Prop} {u v : Int32} (h : Bd x) (k : Q 0 x) : mSI mX8_number [.ref 717, .int u, .int v] KW x Q :=
  v_X8_number_0 km ⟨fun _ => v_X8_number_24 km ⟨fun _ => v_X8_number_55 km ⟨fun _ => ⟨fun _ => k, fun z => absurd z h⟩, fun z => absurd z h⟩, fun z => absurd z h⟩, fun z => absurd z h⟩
theorem wj_day : ∀ d, d < 7 → wj d (15 + d) := by unfold wj; decide +kernel
end
set_option maxHeartbeats 2000000 in
theorem v_X8_dayHere_0 {K : Sh} {x : Cn} {Q : Int32 → Cn → Prop} {b0 : Nat}   (K0 : GI mX8_dayHere 2 [some (.ref b0), some (.int 0)] [] K x Q) : mSI mX8_dayHere [.ref b0] K x Q := by
  refine s_I (by decide) (by simp [Value.category]) (Nat.le_of_ble_eq_true rfl) ?_
  show mGM mX8_dayHere 0 [some (.ref b0), none] [] (hp K x) (PI K Q)
  refine r_iconst (pc := 0) (v := 0) dX8_dayHere_0 (by decide) ?_
  refine r_istore_n (pc := 1) dX8_dayHere_1 (by decide) ?_
  exact r_le (L' := [some (.ref b0), some (.int 0)]) ⟨rfl, ⟨rfl, trivial⟩⟩ K0
set_option maxHeartbeats 2000000 in
theorem v_X8_dayHere_2 {K : Sh} {x : Cn} {Q : Int32 → Cn → Prop} {b0 : Nat} {l1 : Int32}  (k_b0 : kk K b0 = some (8, 0)) (K0 : (7 ≤ l1 → (Q (-1) x)) ∧ (¬ 7 ≤ l1 → (mSR mX8_dayOf [.int l1] K x (fun r_3 y_2 => mSI mX8_isWord [.ref b0, .ref r_3] K y_2 (fun r_5 y_4 => (r_5 = 0 → (GI mX8_dayHere 2 [some (.ref b0), some (.int (l1 + 1))] [] K y_4 Q)) ∧ (¬ r_5 = 0 → (Q l1 y_4))))))) : GI mX8_dayHere 2 [some (.ref b0), some (.int l1)] [] K x Q := by
  show mGM mX8_dayHere 2 [some (.ref b0), some (.int l1)] [] (hp K x) (PI K Q)
  refine r_iload_n (pc := 2) dX8_dayHere_2 rfl ?_
  refine r_bipush (pc := 3) (v := 7) dX8_dayHere_3 (by decide) ?_
  refine r_icmp_ge (pc := 5) (tgt := 27) dX8_dayHere_5 (by decide) (fun q => ?_) (fun q => ?_)
  · have K0 := K0.1 q
    refine r_iconst (pc := 27) (v := (-1)) dX8_dayHere_27 (by decide) ?_
    exact s_iret rfl dX8_dayHere_28 K0
  · have K0 := K0.2 q
    refine r_aload_n (pc := 8) dX8_dayHere_8 rfl ?_
    refine r_iload_n (pc := 9) dX8_dayHere_9 rfl ?_
    refine s_SR (pc := 10) mX8_dayOf (As := [.int l1]) dX8_dayHere_10 lk_X8_178 st_X8_dayOf mo_X8_dayOf ⟨by decide, by decide⟩ (Nat.le_of_ble_eq_true rfl) (mSR_mono K0 (fun r_3 y_2 K0 => ?_))
    refine s_VI (pc := 13) mX8_isWord (ci := 8) (a := b0) (As := [.ref r_3]) dX8_dayHere_13 lk_X8_147 in_X8_isWord mo_X8_isWord ⟨by decide, rfl⟩ ⟨by decide, by decide⟩ (Nat.le_of_ble_eq_true rfl) k_b0 (mSI_mono K0 (fun r_5 y_4 K0 => ?_))
    refine r_if_eq (pc := 16) (tgt := 21) dX8_dayHere_16 (by decide) (fun q => ?_) (fun q => ?_)
    · have K0 := K0.1 q
      refine r_iinc (pc := 21) (v := l1 + 1) dX8_dayHere_21 rfl rfl (by decide) ?_
      refine r_goto (pc := 24) (L := [some (.ref b0), some (.int (l1 + 1))]) (tgt := 2) dX8_dayHere_24 (by decide) ?_
      exact r_le (L' := [some (.ref b0), some (.int (l1 + 1))]) ⟨rfl, ⟨rfl, trivial⟩⟩ K0
    · have K0 := K0.2 q
      refine r_iload_n (pc := 19) dX8_dayHere_19 rfl ?_
      exact s_iret rfl dX8_dayHere_20 K0
section
theorem lp_X8_dayHere {x : Cn} {Q : Int32 → Cn → Prop} {b : TT} {n p : Nat} (g : RG x b n p) (k1 : ∀ d, d < 7 → iw b n p d → Q (nI d) x) (k0 : (∀ d, d < 7 → ¬ iw b n p d) → Q (-1) x) : ∀ m d, d + m = 7 → (∀ e, e < d → ¬ iw b n p e) → GI mX8_dayHere 2 [some (.ref 717), some (.int (nI d))] [] KW x Q := by
  intro m
  induction m with
  | zero =>
    intro d hd hn
    exact v_X8_dayHere_2 km ⟨fun _ => k0 (fun e he => hn e (by omega)), fun z => absurd (nI_le (a := 7) (b := d) (by omega) (by omega)) z⟩
  | succ m ih =>
    intro d hd hn
    refine v_X8_dayHere_2 km ⟨fun z => absurd z (nI_ge (a := d) (b := 7) (by omega) (by omega)), fun _ => sp_X8_dayOf (by omega) ?_⟩
    rw [← nI_succ]
    exact sp_X8_isWord (wj_day d (by omega)) g (fun o => ⟨fun z => absurd z (by decide), fun _ => k1 d (by omega) o⟩) (fun o => ⟨fun _ => ih (d + 1) (by omega) (fun e he => if h : e = d then by rw [h]; exact o else hn e (by omega)), fun z => absurd rfl z⟩)
theorem sp_X8_dayHere {x : Cn} {Q : Int32 → Cn → Prop} {b : TT} {n p : Nat} (g : RG x b n p) (k1 : ∀ d, d < 7 → iw b n p d → Q (nI d) x) (k0 : (∀ d, d < 7 → ¬ iw b n p d) → Q (-1) x) : mSI mX8_dayHere [.ref 717] KW x Q :=
  v_X8_dayHere_0 (lp_X8_dayHere g k1 k0 7 0 (by omega) (fun e he => absurd he (by omega)))
theorem lp_X8_dayHere_b {x : Cn} {Q : Int32 → Cn → Prop} (c : gr x 717 4 = some 720) (h : Bd x) (k : Q (-1) x) : ∀ m d, d + m = 7 → GI mX8_dayHere 2 [some (.ref 717), some (.int (nI d))] [] KW x Q := by
  intro m
  induction m with
  | zero =>
    intro d hd
    exact v_X8_dayHere_2 km ⟨fun _ => k, fun z => absurd (nI_le (a := 7) (b := d) (by omega) (by omega)) z⟩
  | succ m ih =>
    intro d hd
    refine v_X8_dayHere_2 km ⟨fun z => absurd z (nI_ge (a := d) (b := 7) (by omega) (by omega)), fun _ => sp_X8_dayOf (by omega) ?_⟩
    rw [← nI_succ]
    exact sp_X8_isWord_b (by omega) c h ⟨fun _ => ih (d + 1) (by omega), fun z => absurd rfl z⟩
theorem sp_X8_dayHere_b {x : Cn} {Q : Int32 → Cn → Prop} (c : gr x 717 4 = some 720) (h : Bd x) (k : Q (-1) x) : mSI mX8_dayHere [.ref 717] KW x Q := v_X8_dayHere_0 (lp_X8_dayHere_b c h k 7 0 (by omega))
theorem wj_7 : wj 7 11 := by unfold wj; decide +kernel
theorem wj_8 : wj 8 12 := by unfold wj; decide +kernel
theorem wj_9 : wj 9 14 := by unfold wj; decide +kernel
theorem wj_10 : wj 10 22 := by unfold wj; decide +kernel
theorem wj_11 : wj 11 23 := by unfold wj; decide +kernel
theorem wj_12 : wj 12 13 := by unfold wj; decide +kernel
theorem wj_13 : wj 13 24 := by unfold wj; decide +kernel
theorem wj_14 : wj 14 25 := by unfold wj; decide +kernel
theorem wj_15 : wj 15 26 := by unfold wj; decide +kernel
end
set_option maxHeartbeats 2000000 in
theorem v_X8_isOwn_0 {K : Sh} {x : Cn} {Q : Int32 → Cn → Prop} {b0 : Nat}  (k_b0 : kk K b0 = some (8, 0)) (K0 : mSI mX8_dayHere [.ref b0] K x (fun r_2 y_1 => (¬ r_2 = (-1) → (Q 1 y_1)) ∧ (r_2 = (-1) → (mSI mX8_isWord [.ref b0, .ref (mSB + 11)] K y_1 (fun r_5 y_4 => (¬ r_5 = 0 → (Q 1 y_4)) ∧ (r_5 = 0 → (mSI mX8_isWord [.ref b0, .ref (mSB + 12)] K y_4 (fun r_8 y_7 => (¬ r_8 = 0 → (Q 1 y_7)) ∧ (r_8 = 0 → (mSI mX8_isWord [.ref b0, .ref (mSB + 14)] K y_7 (fun r_11 y_10 => (¬ r_11 = 0 → (Q 1 y_10)) ∧ (r_11 = 0 → (mSI mX8_isWord [.ref b0, .ref (mSB + 22)] K y_10 (fun r_14 y_13 => (¬ r_14 = 0 → (Q 1 y_13)) ∧ (r_14 = 0 → (mSI mX8_isWord [.ref b0, .ref (mSB + 23)] K y_13 (fun r_17 y_16 => (¬ r_17 = 0 → (Q 1 y_16)) ∧ (r_17 = 0 → (mSI mX8_isWord [.ref b0, .ref (mSB + 13)] K y_16 (fun r_20 y_19 => (¬ r_20 = 0 → (Q 1 y_19)) ∧ (r_20 = 0 → (mSI mX8_isWord [.ref b0, .ref (mSB + 24)] K y_19 (fun r_23 y_22 => (¬ r_23 = 0 → (Q 1 y_22)) ∧ (r_23 = 0 → (mSI mX8_isWord [.ref b0, .ref (mSB + 25)] K y_22 (fun r_26 y_25 => (¬ r_26 = 0 → (Q 1 y_25)) ∧ (r_26 = 0 → (mSI mX8_isWord [.ref b0, .ref (mSB + 26)] K y_25 (fun r_29 y_28 => (r_29 = 0 → (Q 0 y_28)) ∧ (¬ r_29 = 0 → (Q 1 y_28))))))))))))))))))))))))))))))) : mSI mX8_isOwn [.ref b0] K x Q := by
  refine s_I (by decide) (by simp [Value.category]) (Nat.le_of_ble_eq_true rfl) ?_
  show mGM mX8_isOwn 0 [some (.ref b0)] [] (hp K x) (PI K Q)
  refine r_aload_n (pc := 0) dX8_isOwn_0 rfl ?_
  refine s_VI (pc := 1) mX8_dayHere (ci := 8) (a := b0) (As := []) dX8_isOwn_1 lk_X8_182 in_X8_dayHere mo_X8_dayHere ⟨by decide, rfl⟩ ⟨by decide, by decide⟩ (Nat.le_of_ble_eq_true rfl) k_b0 (mSI_mono K0 (fun r_2 y_1 K0 => ?_))
  refine r_iconst (pc := 4) (v := (-1)) dX8_isOwn_4 (by decide) ?_
  refine r_icmp_ne (pc := 5) (tgt := 89) dX8_isOwn_5 (by decide) (fun q => ?_) (fun q => ?_)
  · have K0 := K0.1 q
    refine r_iconst (pc := 89) (v := 1) dX8_isOwn_89 (by decide) ?_
    refine r_goto (pc := 90) (tgt := 94) dX8_isOwn_90 (by decide) ?_
    exact s_zret rfl (by decide) dX8_isOwn_94 K0
  · have K0 := K0.2 q
    refine r_aload_n (pc := 8) dX8_isOwn_8 rfl ?_
    refine r_ldcS (pc := 9) (j := 11) dX8_isOwn_9 rfl ?_
    refine s_VI (pc := 11) mX8_isWord (ci := 8) (a := b0) (As := [.ref (mSB + 11)]) dX8_isOwn_11 lk_X8_147 in_X8_isWord mo_X8_isWord ⟨by decide, rfl⟩ ⟨by decide, by decide⟩ (Nat.le_of_ble_eq_true rfl) k_b0 (mSI_mono K0 (fun r_5 y_4 K0 => ?_))
    refine r_if_ne (pc := 14) (tgt := 89) dX8_isOwn_14 (by decide) (fun q => ?_) (fun q => ?_)
    · have K0 := K0.1 q
      refine r_iconst (pc := 89) (v := 1) dX8_isOwn_89 (by decide) ?_
      refine r_goto (pc := 90) (tgt := 94) dX8_isOwn_90 (by decide) ?_
      exact s_zret rfl (by decide) dX8_isOwn_94 K0
    · have K0 := K0.2 q
      refine r_aload_n (pc := 17) dX8_isOwn_17 rfl ?_
      refine r_ldcS (pc := 18) (j := 12) dX8_isOwn_18 rfl ?_
      refine s_VI (pc := 20) mX8_isWord (ci := 8) (a := b0) (As := [.ref (mSB + 12)]) dX8_isOwn_20 lk_X8_147 in_X8_isWord mo_X8_isWord ⟨by decide, rfl⟩ ⟨by decide, by decide⟩ (Nat.le_of_ble_eq_true rfl) k_b0 (mSI_mono K0 (fun r_8 y_7 K0 => ?_))
      refine r_if_ne (pc := 23) (tgt := 89) dX8_isOwn_23 (by decide) (fun q => ?_) (fun q => ?_)
      · have K0 := K0.1 q
        refine r_iconst (pc := 89) (v := 1) dX8_isOwn_89 (by decide) ?_
        refine r_goto (pc := 90) (tgt := 94) dX8_isOwn_90 (by decide) ?_
        exact s_zret rfl (by decide) dX8_isOwn_94 K0
      · have K0 := K0.2 q
        refine r_aload_n (pc := 26) dX8_isOwn_26 rfl ?_
        refine r_ldcS (pc := 27) (j := 14) dX8_isOwn_27 rfl ?_
        refine s_VI (pc := 29) mX8_isWord (ci := 8) (a := b0) (As := [.ref (mSB + 14)]) dX8_isOwn_29 lk_X8_147 in_X8_isWord mo_X8_isWord ⟨by decide, rfl⟩ ⟨by decide, by decide⟩ (Nat.le_of_ble_eq_true rfl) k_b0 (mSI_mono K0 (fun r_11 y_10 K0 => ?_))
        refine r_if_ne (pc := 32) (tgt := 89) dX8_isOwn_32 (by decide) (fun q => ?_) (fun q => ?_)
        · have K0 := K0.1 q
          refine r_iconst (pc := 89) (v := 1) dX8_isOwn_89 (by decide) ?_
          refine r_goto (pc := 90) (tgt := 94) dX8_isOwn_90 (by decide) ?_
          exact s_zret rfl (by decide) dX8_isOwn_94 K0
        · have K0 := K0.2 q
          refine r_aload_n (pc := 35) dX8_isOwn_35 rfl ?_
          refine r_ldcS (pc := 36) (j := 22) dX8_isOwn_36 rfl ?_
          refine s_VI (pc := 38) mX8_isWord (ci := 8) (a := b0) (As := [.ref (mSB + 22)]) dX8_isOwn_38 lk_X8_147 in_X8_isWord mo_X8_isWord ⟨by decide, rfl⟩ ⟨by decide, by decide⟩ (Nat.le_of_ble_eq_true rfl) k_b0 (mSI_mono K0 (fun r_14 y_13 K0 => ?_))
          refine r_if_ne (pc := 41) (tgt := 89) dX8_isOwn_41 (by decide) (fun q => ?_) (fun q => ?_)
          · have K0 := K0.1 q
            refine r_iconst (pc := 89) (v := 1) dX8_isOwn_89 (by decide) ?_
            refine r_goto (pc := 90) (tgt := 94) dX8_isOwn_90 (by decide) ?_
            exact s_zret rfl (by decide) dX8_isOwn_94 K0
          · have K0 := K0.2 q
            refine r_aload_n (pc := 44) dX8_isOwn_44 rfl ?_
            refine r_ldcS (pc := 45) (j := 23) dX8_isOwn_45 rfl ?_
            refine s_VI (pc := 47) mX8_isWord (ci := 8) (a := b0) (As := [.ref (mSB + 23)]) dX8_isOwn_47 lk_X8_147 in_X8_isWord mo_X8_isWord ⟨by decide, rfl⟩ ⟨by decide, by decide⟩ (Nat.le_of_ble_eq_true rfl) k_b0 (mSI_mono K0 (fun r_17 y_16 K0 => ?_))
            refine r_if_ne (pc := 50) (tgt := 89) dX8_isOwn_50 (by decide) (fun q => ?_) (fun q => ?_)
            · have K0 := K0.1 q
              refine r_iconst (pc := 89) (v := 1) dX8_isOwn_89 (by decide) ?_
              refine r_goto (pc := 90) (tgt := 94) dX8_isOwn_90 (by decide) ?_
              exact s_zret rfl (by decide) dX8_isOwn_94 K0
            · have K0 := K0.2 q
              refine r_aload_n (pc := 53) dX8_isOwn_53 rfl ?_
              refine r_ldcS (pc := 54) (j := 13) dX8_isOwn_54 rfl ?_
              refine s_VI (pc := 56) mX8_isWord (ci := 8) (a := b0) (As := [.ref (mSB + 13)]) dX8_isOwn_56 lk_X8_147 in_X8_isWord mo_X8_isWord ⟨by decide, rfl⟩ ⟨by decide, by decide⟩ (Nat.le_of_ble_eq_true rfl) k_b0 (mSI_mono K0 (fun r_20 y_19 K0 => ?_))
              refine r_if_ne (pc := 59) (tgt := 89) dX8_isOwn_59 (by decide) (fun q => ?_) (fun q => ?_)
              · have K0 := K0.1 q
                refine r_iconst (pc := 89) (v := 1) dX8_isOwn_89 (by decide) ?_
                refine r_goto (pc := 90) (tgt := 94) dX8_isOwn_90 (by decide) ?_
                exact s_zret rfl (by decide) dX8_isOwn_94 K0
              · have K0 := K0.2 q
                refine r_aload_n (pc := 62) dX8_isOwn_62 rfl ?_
                refine r_ldcS (pc := 63) (j := 24) dX8_isOwn_63 rfl ?_
                refine s_VI (pc := 65) mX8_isWord (ci := 8) (a := b0) (As := [.ref (mSB + 24)]) dX8_isOwn_65 lk_X8_147 in_X8_isWord mo_X8_isWord ⟨by decide, rfl⟩ ⟨by decide, by decide⟩ (Nat.le_of_ble_eq_true rfl) k_b0 (mSI_mono K0 (fun r_23 y_22 K0 => ?_))
                refine r_if_ne (pc := 68) (tgt := 89) dX8_isOwn_68 (by decide) (fun q => ?_) (fun q => ?_)
                · have K0 := K0.1 q
                  refine r_iconst (pc := 89) (v := 1) dX8_isOwn_89 (by decide) ?_
                  refine r_goto (pc := 90) (tgt := 94) dX8_isOwn_90 (by decide) ?_
                  exact s_zret rfl (by decide) dX8_isOwn_94 K0
                · have K0 := K0.2 q
                  refine r_aload_n (pc := 71) dX8_isOwn_71 rfl ?_
                  refine r_ldcS (pc := 72) (j := 25) dX8_isOwn_72 rfl ?_
                  refine s_VI (pc := 74) mX8_isWord (ci := 8) (a := b0) (As := [.ref (mSB + 25)]) dX8_isOwn_74 lk_X8_147 in_X8_isWord mo_X8_isWord ⟨by decide, rfl⟩ ⟨by decide, by decide⟩ (Nat.le_of_ble_eq_true rfl) k_b0 (mSI_mono K0 (fun r_26 y_25 K0 => ?_))
                  refine r_if_ne (pc := 77) (tgt := 89) dX8_isOwn_77 (by decide) (fun q => ?_) (fun q => ?_)
                  · have K0 := K0.1 q
                    refine r_iconst (pc := 89) (v := 1) dX8_isOwn_89 (by decide) ?_
                    refine r_goto (pc := 90) (tgt := 94) dX8_isOwn_90 (by decide) ?_
                    exact s_zret rfl (by decide) dX8_isOwn_94 K0
                  · have K0 := K0.2 q
                    refine r_aload_n (pc := 80) dX8_isOwn_80 rfl ?_
                    refine r_ldcS (pc := 81) (j := 26) dX8_isOwn_81 rfl ?_
                    refine s_VI (pc := 83) mX8_isWord (ci := 8) (a := b0) (As := [.ref (mSB + 26)]) dX8_isOwn_83 lk_X8_147 in_X8_isWord mo_X8_isWord ⟨by decide, rfl⟩ ⟨by decide, by decide⟩ (Nat.le_of_ble_eq_true rfl) k_b0 (mSI_mono K0 (fun r_29 y_28 K0 => ?_))
                    refine r_if_eq (pc := 86) (tgt := 93) dX8_isOwn_86 (by decide) (fun q => ?_) (fun q => ?_)
                    · have K0 := K0.1 q
                      refine r_iconst (pc := 93) (v := 0) dX8_isOwn_93 (by decide) ?_
                      exact s_zret rfl (by decide) dX8_isOwn_94 K0
                    · have K0 := K0.2 q
                      refine r_iconst (pc := 89) (v := 1) dX8_isOwn_89 (by decide) ?_
                      refine r_goto (pc := 90) (tgt := 94) dX8_isOwn_90 (by decide) ?_
                      exact s_zret rfl (by decide) dX8_isOwn_94 K0
section
theorem sp_X8_isOwn {x : Cn} {Q : Int32 → Cn → Prop} {b : TT} {n p : Nat} (g : RG x b n p) (hk : tK b n p = 1) (k1 : ¬ wnp b n p = -1 → Q 1 x) (k0 : wnp b n p = -1 → Q 0 x) : mSI mX8_isOwn [.ref 717] KW x Q := by
  have y1 : ∀ i, i < 16 → iw b n p i → Q 1 x := fun i hi o => k1 (fun z => by
    have e : wnp b n p = nI i := o.2
    rw [e] at z
    exact absurd (show (-1 : Int32) < 0 by decide) (by rw [← z]; exact nI_pos (by omega)))
  refine v_X8_isOwn_0 km (sp_X8_dayHere g (fun d hd o => ⟨fun _ => y1 d (by omega) o, fun z => ?_⟩) (fun nd => ⟨fun z => absurd rfl z, fun _ => ?_⟩))
  · exact absurd (show (-1 : Int32) < 0 by decide) (by rw [← z]; exact nI_pos (by omega))
  refine sp_X8_isWord wj_7 g (fun o => ⟨fun _ => y1 7 (by omega) o, fun z => absurd z (by decide)⟩) (fun n7 => ⟨fun z => absurd rfl z, fun _ => ?_⟩)
  refine sp_X8_isWord wj_8 g (fun o => ⟨fun _ => y1 8 (by omega) o, fun z => absurd z (by decide)⟩) (fun n8 => ⟨fun z => absurd rfl z, fun _ => ?_⟩)
  refine sp_X8_isWord wj_9 g (fun o => ⟨fun _ => y1 9 (by omega) o, fun z => absurd z (by decide)⟩) (fun n9 => ⟨fun z => absurd rfl z, fun _ => ?_⟩)
  refine sp_X8_isWord wj_10 g (fun o => ⟨fun _ => y1 10 (by omega) o, fun z => absurd z (by decide)⟩) (fun n10 => ⟨fun z => absurd rfl z, fun _ => ?_⟩)
  refine sp_X8_isWord wj_11 g (fun o => ⟨fun _ => y1 11 (by omega) o, fun z => absurd z (by decide)⟩) (fun n11 => ⟨fun z => absurd rfl z, fun _ => ?_⟩)
  refine sp_X8_isWord wj_12 g (fun o => ⟨fun _ => y1 12 (by omega) o, fun z => absurd z (by decide)⟩) (fun n12 => ⟨fun z => absurd rfl z, fun _ => ?_⟩)
  refine sp_X8_isWord wj_13 g (fun o => ⟨fun _ => y1 13 (by omega) o, fun z => absurd z (by decide)⟩) (fun n13 => ⟨fun z => absurd rfl z, fun _ => ?_⟩)
  refine sp_X8_isWord wj_14 g (fun o => ⟨fun _ => y1 14 (by omega) o, fun z => absurd z (by decide)⟩) (fun n14 => ⟨fun z => absurd rfl z, fun _ => ?_⟩)
  refine sp_X8_isWord wj_15 g (fun o => ⟨fun z => absurd z (by decide), fun _ => y1 15 (by omega) o⟩) (fun n15 => ⟨fun _ => ?_, fun z => absurd rfl z⟩)
  refine k0 ?_
  rcases wno_c b (tS b n p) (tE b n p) with h | ⟨i, hi, h⟩
  · exact h
  · exfalso
    have o : iw b n p i := ⟨hk, h⟩
    rcases (show i < 7 ∨ i = 7 ∨ i = 8 ∨ i = 9 ∨ i = 10 ∨ i = 11 ∨ i = 12 ∨ i = 13 ∨ i = 14 ∨ i = 15 by omega) with q | rfl | rfl | rfl | rfl | rfl | rfl | rfl | rfl | rfl
    · exact nd i q o
    · exact n7 o
    · exact n8 o
    · exact n9 o
    · exact n10 o
    · exact n11 o
    · exact n12 o
    · exact n13 o
    · exact n14 o
    · exact n15 o
end
set_option maxHeartbeats 2000000 in
theorem v_X8_nameHere_0 {K : Sh} {x : Cn} {Q : Int32 → Cn → Prop} {b0 : Nat}  (k_b0 : kk K b0 = some (8, 0)) (K0 : (¬ (gi x b0 11 = 0) → ((¬ (gi x b0 11 = 0) → (Q 0 x)) ∧ ((gi x b0 11 = 0) → (mSI mX8_packed [.ref b0, .int (gi x b0 8), .int (gi x b0 7)] K x (fun r_4 y_3 => Q r_4 y_3))))) ∧ ((gi x b0 11 = 0) → ((¬ (gi x b0 9) = 1 → (mSV mX8_errs [.ref b0, .int 1, .int (gi x b0 8)] K x (fun y_6 => (¬ (gi y_6 b0 11 = 0) → (Q 0 y_6)) ∧ ((gi y_6 b0 11 = 0) → (mSI mX8_packed [.ref b0, .int (gi y_6 b0 8), .int (gi y_6 b0 7)] K y_6 (fun r_9 y_8 => Q r_9 y_8)))))) ∧ ((gi x b0 9) = 1 → ((6 < ((gi x b0 7) - (gi x b0 8)) → (mSV mX8_errs [.ref b0, .int 1, .int (gi x b0 8)] K x (fun y_11 => (¬ (gi y_11 b0 11 = 0) → (Q 0 y_11)) ∧ ((gi y_11 b0 11 = 0) → (mSI mX8_packed [.ref b0, .int (gi y_11 b0 8), .int (gi y_11 b0 7)] K y_11 (fun r_14 y_13 => Q r_14 y_13)))))) ∧ (¬ 6 < ((gi x b0 7) - (gi x b0 8)) → (mSI mX8_isOwn [.ref b0] K x (fun r_16 y_15 => (r_16 = 0 → ((¬ (gi y_15 b0 11 = 0) → (Q 0 y_15)) ∧ ((gi y_15 b0 11 = 0) → (mSI mX8_packed [.ref b0, .int (gi y_15 b0 8), .int (gi y_15 b0 7)] K y_15 (fun r_20 y_19 => Q r_20 y_19))))) ∧ (¬ r_16 = 0 → (mSV mX8_errs [.ref b0, .int 1, .int (gi y_15 b0 8)] K y_15 (fun y_21 => (¬ (gi y_21 b0 11 = 0) → (Q 0 y_21)) ∧ ((gi y_21 b0 11 = 0) → (mSI mX8_packed [.ref b0, .int (gi y_21 b0 8), .int (gi y_21 b0 7)] K y_21 (fun r_24 y_23 => Q r_24 y_23)))))))))))))) : mSI mX8_nameHere [.ref b0] K x Q := by
  refine s_I (by decide) (by simp [Value.category]) (Nat.le_of_ble_eq_true rfl) ?_
  show mGM mX8_nameHere 0 [some (.ref b0)] [] (hp K x) (PI K Q)
  refine r_aload_n (pc := 0) dX8_nameHere_0 rfl ?_
  refine s_VI (pc := 1) mX8_good (ci := 8) (a := b0) (As := []) dX8_nameHere_1 lk_X8_104 in_X8_good mo_X8_good ⟨by decide, rfl⟩ ⟨by decide, by decide⟩ (Nat.le_of_ble_eq_true rfl) k_b0 (sp_X8_good k_b0 ?_)
  refine r_if_eq (pc := 4) (tgt := 45) dX8_nameHere_4 (by decide) (fun q => ?_) (fun q => ?_)
  · have q := (b2i_z _).mp q
    have K0 := K0.1 q
    refine r_aload_n (pc := 45) dX8_nameHere_45 rfl ?_
    refine s_VI (pc := 46) mX8_good (ci := 8) (a := b0) (As := []) dX8_nameHere_46 lk_X8_104 in_X8_good mo_X8_good ⟨by decide, rfl⟩ ⟨by decide, by decide⟩ (Nat.le_of_ble_eq_true rfl) k_b0 (sp_X8_good k_b0 ?_)
    refine r_if_eq (pc := 49) (tgt := 67) dX8_nameHere_49 (by decide) (fun q => ?_) (fun q => ?_)
    · have q := (b2i_z _).mp q
      have K0 := K0.1 q
      refine r_iconst (pc := 67) (v := 0) dX8_nameHere_67 (by decide) ?_
      exact s_iret rfl dX8_nameHere_68 K0
    · have q := b2i_nz q
      have K0 := K0.2 q
      refine r_aload_n (pc := 52) dX8_nameHere_52 rfl ?_
      refine r_aload_n (pc := 53) dX8_nameHere_53 rfl ?_
      refine s_getI (pc := 54) dX8_nameHere_54 fl_X8_116 rfl k_b0 ?_
      refine r_aload_n (pc := 57) dX8_nameHere_57 rfl ?_
      refine s_getI (pc := 58) dX8_nameHere_58 fl_X8_110 rfl k_b0 ?_
      refine s_VI (pc := 61) mX8_packed (ci := 8) (a := b0) (As := [.int (gi x b0 8), .int (gi x b0 7)]) dX8_nameHere_61 lk_X8_204 in_X8_packed mo_X8_packed ⟨by decide, rfl⟩ ⟨by decide, by decide⟩ (Nat.le_of_ble_eq_true rfl) k_b0 (mSI_mono K0 (fun r_4 y_3 K0 => ?_))
      refine r_goto (pc := 64) (tgt := 68) dX8_nameHere_64 (by decide) ?_
      exact s_iret rfl dX8_nameHere_68 K0
  · have q := b2i_nz q
    have K0 := K0.2 q
    refine r_aload_n (pc := 7) dX8_nameHere_7 rfl ?_
    refine s_getI (pc := 8) dX8_nameHere_8 fl_X8_119 rfl k_b0 ?_
    refine r_iconst (pc := 11) (v := 1) dX8_nameHere_11 (by decide) ?_
    refine r_icmp_ne (pc := 12) (tgt := 36) dX8_nameHere_12 (by decide) (fun q => ?_) (fun q => ?_)
    · have K0 := K0.1 q
      refine r_aload_n (pc := 36) dX8_nameHere_36 rfl ?_
      refine r_iconst (pc := 37) (v := 1) dX8_nameHere_37 (by decide) ?_
      refine r_aload_n (pc := 38) dX8_nameHere_38 rfl ?_
      refine s_getI (pc := 39) dX8_nameHere_39 fl_X8_116 rfl k_b0 ?_
      refine s_VV (pc := 42) mX8_errs (ci := 8) (a := b0) (As := [.int 1, .int (gi x b0 8)]) dX8_nameHere_42 lk_X8_157 in_X8_errs mo_X8_errs ⟨by decide, rfl⟩ ⟨by decide, by decide⟩ (Nat.le_of_ble_eq_true rfl) k_b0 (mSV_mono K0 (fun y_6 K0 => ?_))
      refine r_aload_n (pc := 45) dX8_nameHere_45 rfl ?_
      refine s_VI (pc := 46) mX8_good (ci := 8) (a := b0) (As := []) dX8_nameHere_46 lk_X8_104 in_X8_good mo_X8_good ⟨by decide, rfl⟩ ⟨by decide, by decide⟩ (Nat.le_of_ble_eq_true rfl) k_b0 (sp_X8_good k_b0 ?_)
      refine r_if_eq (pc := 49) (tgt := 67) dX8_nameHere_49 (by decide) (fun q => ?_) (fun q => ?_)
      · have q := (b2i_z _).mp q
        have K0 := K0.1 q
        refine r_iconst (pc := 67) (v := 0) dX8_nameHere_67 (by decide) ?_
        exact s_iret rfl dX8_nameHere_68 K0
      · have q := b2i_nz q
        have K0 := K0.2 q
        refine r_aload_n (pc := 52) dX8_nameHere_52 rfl ?_
        refine r_aload_n (pc := 53) dX8_nameHere_53 rfl ?_
        refine s_getI (pc := 54) dX8_nameHere_54 fl_X8_116 rfl k_b0 ?_
        refine r_aload_n (pc := 57) dX8_nameHere_57 rfl ?_
        refine s_getI (pc := 58) dX8_nameHere_58 fl_X8_110 rfl k_b0 ?_
        refine s_VI (pc := 61) mX8_packed (ci := 8) (a := b0) (As := [.int (gi y_6 b0 8), .int (gi y_6 b0 7)]) dX8_nameHere_61 lk_X8_204 in_X8_packed mo_X8_packed ⟨by decide, rfl⟩ ⟨by decide, by decide⟩ (Nat.le_of_ble_eq_true rfl) k_b0 (mSI_mono K0 (fun r_9 y_8 K0 => ?_))
        refine r_goto (pc := 64) (tgt := 68) dX8_nameHere_64 (by decide) ?_
        exact s_iret rfl dX8_nameHere_68 K0
    · have K0 := K0.2 q
      refine r_aload_n (pc := 15) dX8_nameHere_15 rfl ?_
      refine s_getI (pc := 16) dX8_nameHere_16 fl_X8_110 rfl k_b0 ?_
      refine r_aload_n (pc := 19) dX8_nameHere_19 rfl ?_
      refine s_getI (pc := 20) dX8_nameHere_20 fl_X8_116 rfl k_b0 ?_
      refine r_isub (pc := 23) dX8_nameHere_23 ?_
      refine r_bipush (pc := 24) (v := 6) dX8_nameHere_24 (by decide) ?_
      refine r_icmp_gt (pc := 26) (tgt := 36) dX8_nameHere_26 (by decide) (fun q => ?_) (fun q => ?_)
      · have K0 := K0.1 q
        refine r_aload_n (pc := 36) dX8_nameHere_36 rfl ?_
        refine r_iconst (pc := 37) (v := 1) dX8_nameHere_37 (by decide) ?_
        refine r_aload_n (pc := 38) dX8_nameHere_38 rfl ?_
        refine s_getI (pc := 39) dX8_nameHere_39 fl_X8_116 rfl k_b0 ?_
        refine s_VV (pc := 42) mX8_errs (ci := 8) (a := b0) (As := [.int 1, .int (gi x b0 8)]) dX8_nameHere_42 lk_X8_157 in_X8_errs mo_X8_errs ⟨by decide, rfl⟩ ⟨by decide, by decide⟩ (Nat.le_of_ble_eq_true rfl) k_b0 (mSV_mono K0 (fun y_11 K0 => ?_))
        refine r_aload_n (pc := 45) dX8_nameHere_45 rfl ?_
        refine s_VI (pc := 46) mX8_good (ci := 8) (a := b0) (As := []) dX8_nameHere_46 lk_X8_104 in_X8_good mo_X8_good ⟨by decide, rfl⟩ ⟨by decide, by decide⟩ (Nat.le_of_ble_eq_true rfl) k_b0 (sp_X8_good k_b0 ?_)
        refine r_if_eq (pc := 49) (tgt := 67) dX8_nameHere_49 (by decide) (fun q => ?_) (fun q => ?_)
        · have q := (b2i_z _).mp q
          have K0 := K0.1 q
          refine r_iconst (pc := 67) (v := 0) dX8_nameHere_67 (by decide) ?_
          exact s_iret rfl dX8_nameHere_68 K0
        · have q := b2i_nz q
          have K0 := K0.2 q
          refine r_aload_n (pc := 52) dX8_nameHere_52 rfl ?_
          refine r_aload_n (pc := 53) dX8_nameHere_53 rfl ?_
          refine s_getI (pc := 54) dX8_nameHere_54 fl_X8_116 rfl k_b0 ?_
          refine r_aload_n (pc := 57) dX8_nameHere_57 rfl ?_
          refine s_getI (pc := 58) dX8_nameHere_58 fl_X8_110 rfl k_b0 ?_
          refine s_VI (pc := 61) mX8_packed (ci := 8) (a := b0) (As := [.int (gi y_11 b0 8), .int (gi y_11 b0 7)]) dX8_nameHere_61 lk_X8_204 in_X8_packed mo_X8_packed ⟨by decide, rfl⟩ ⟨by decide, by decide⟩ (Nat.le_of_ble_eq_true rfl) k_b0 (mSI_mono K0 (fun r_14 y_13 K0 => ?_))
          refine r_goto (pc := 64) (tgt := 68) dX8_nameHere_64 (by decide) ?_
          exact s_iret rfl dX8_nameHere_68 K0
      · have K0 := K0.2 q
        refine r_aload_n (pc := 29) dX8_nameHere_29 rfl ?_
        refine s_VI (pc := 30) mX8_isOwn (ci := 8) (a := b0) (As := []) dX8_nameHere_30 lk_X8_201 in_X8_isOwn mo_X8_isOwn ⟨by decide, rfl⟩ ⟨by decide, by decide⟩ (Nat.le_of_ble_eq_true rfl) k_b0 (mSI_mono K0 (fun r_16 y_15 K0 => ?_))
        refine r_if_eq (pc := 33) (tgt := 45) dX8_nameHere_33 (by decide) (fun q => ?_) (fun q => ?_)
        · have K0 := K0.1 q
          refine r_aload_n (pc := 45) dX8_nameHere_45 rfl ?_
          refine s_VI (pc := 46) mX8_good (ci := 8) (a := b0) (As := []) dX8_nameHere_46 lk_X8_104 in_X8_good mo_X8_good ⟨by decide, rfl⟩ ⟨by decide, by decide⟩ (Nat.le_of_ble_eq_true rfl) k_b0 (sp_X8_good k_b0 ?_)
          refine r_if_eq (pc := 49) (tgt := 67) dX8_nameHere_49 (by decide) (fun q => ?_) (fun q => ?_)
          · have q := (b2i_z _).mp q
            have K0 := K0.1 q
            refine r_iconst (pc := 67) (v := 0) dX8_nameHere_67 (by decide) ?_
            exact s_iret rfl dX8_nameHere_68 K0
          · have q := b2i_nz q
            have K0 := K0.2 q
            refine r_aload_n (pc := 52) dX8_nameHere_52 rfl ?_
            refine r_aload_n (pc := 53) dX8_nameHere_53 rfl ?_
            refine s_getI (pc := 54) dX8_nameHere_54 fl_X8_116 rfl k_b0 ?_
            refine r_aload_n (pc := 57) dX8_nameHere_57 rfl ?_
            refine s_getI (pc := 58) dX8_nameHere_58 fl_X8_110 rfl k_b0 ?_
            refine s_VI (pc := 61) mX8_packed (ci := 8) (a := b0) (As := [.int (gi y_15 b0 8), .int (gi y_15 b0 7)]) dX8_nameHere_61 lk_X8_204 in_X8_packed mo_X8_packed ⟨by decide, rfl⟩ ⟨by decide, by decide⟩ (Nat.le_of_ble_eq_true rfl) k_b0 (mSI_mono K0 (fun r_20 y_19 K0 => ?_))
            refine r_goto (pc := 64) (tgt := 68) dX8_nameHere_64 (by decide) ?_
            exact s_iret rfl dX8_nameHere_68 K0
        · have K0 := K0.2 q
          refine r_aload_n (pc := 36) dX8_nameHere_36 rfl ?_
          refine r_iconst (pc := 37) (v := 1) dX8_nameHere_37 (by decide) ?_
          refine r_aload_n (pc := 38) dX8_nameHere_38 rfl ?_
          refine s_getI (pc := 39) dX8_nameHere_39 fl_X8_116 rfl k_b0 ?_
          refine s_VV (pc := 42) mX8_errs (ci := 8) (a := b0) (As := [.int 1, .int (gi y_15 b0 8)]) dX8_nameHere_42 lk_X8_157 in_X8_errs mo_X8_errs ⟨by decide, rfl⟩ ⟨by decide, by decide⟩ (Nat.le_of_ble_eq_true rfl) k_b0 (mSV_mono K0 (fun y_21 K0 => ?_))
          refine r_aload_n (pc := 45) dX8_nameHere_45 rfl ?_
          refine s_VI (pc := 46) mX8_good (ci := 8) (a := b0) (As := []) dX8_nameHere_46 lk_X8_104 in_X8_good mo_X8_good ⟨by decide, rfl⟩ ⟨by decide, by decide⟩ (Nat.le_of_ble_eq_true rfl) k_b0 (sp_X8_good k_b0 ?_)
          refine r_if_eq (pc := 49) (tgt := 67) dX8_nameHere_49 (by decide) (fun q => ?_) (fun q => ?_)
          · have q := (b2i_z _).mp q
            have K0 := K0.1 q
            refine r_iconst (pc := 67) (v := 0) dX8_nameHere_67 (by decide) ?_
            exact s_iret rfl dX8_nameHere_68 K0
          · have q := b2i_nz q
            have K0 := K0.2 q
            refine r_aload_n (pc := 52) dX8_nameHere_52 rfl ?_
            refine r_aload_n (pc := 53) dX8_nameHere_53 rfl ?_
            refine s_getI (pc := 54) dX8_nameHere_54 fl_X8_116 rfl k_b0 ?_
            refine r_aload_n (pc := 57) dX8_nameHere_57 rfl ?_
            refine s_getI (pc := 58) dX8_nameHere_58 fl_X8_110 rfl k_b0 ?_
            refine s_VI (pc := 61) mX8_packed (ci := 8) (a := b0) (As := [.int (gi y_21 b0 8), .int (gi y_21 b0 7)]) dX8_nameHere_61 lk_X8_204 in_X8_packed mo_X8_packed ⟨by decide, rfl⟩ ⟨by decide, by decide⟩ (Nat.le_of_ble_eq_true rfl) k_b0 (mSI_mono K0 (fun r_24 y_23 K0 => ?_))
            refine r_goto (pc := 64) (tgt := 68) dX8_nameHere_64 (by decide) ?_
            exact s_iret rfl dX8_nameHere_68 K0
section
theorem sp_X8_nameHere {x : Cn} {Q : Int32 → Cn → Prop} {b : TT} {n p : Nat} (g : RG x b n p) (k1 : nmd b n p → Q (nI (vnm b n p)) x) (k0 : ¬ nmd b n p → ∀ y, TFr x y → Bd y → Q 0 y) : mSI mX8_nameHere [.ref 717] KW x Q := by
  have ek : gi x 717 9 = 1 ↔ tK b n p = 1 := g.2.1.k 1 (by omega)
  have hE := tE_b (b := b) g.2.2.1
  have hn := g.1.1
  have e6 : 6 < gi x 717 7 - gi x 717 8 ↔ 6 < tE b n p - tS b n p := by
    rw [g.2.1.1, g.2.1.2.1, nI_sb hE.1]
    exact nI_ltI (a := 6) (b := tE b n p - tS b n p) (by omega) (by omega)
  have bad : ¬ nmd b n p → ∀ y, TFr x y → Bd y → (¬ (gi y 717 11 = 0) → Q 0 y) ∧ ((gi y 717 11 = 0) → mSI mX8_packed [.ref 717, .int (gi y 717 8), .int (gi y 717 7)] KW y (fun r_9 y_8 => Q r_9 y_8)) := fun o y f h => ⟨fun _ => k0 o y f h, fun z => absurd z h⟩
  refine v_X8_nameHere_0 km ⟨fun z => absurd g.2.2.2 z, fun _ => ?_⟩
  rw [ek, e6]
  refine ⟨fun z => sp_X8_errs (by decide) (bad (fun o => z o.1)), fun z => ⟨fun z2 => sp_X8_errs (by decide) (bad (fun o => by have := o.2.2; omega)), fun z2 => sp_X8_isOwn g z (fun o => ⟨fun w => absurd w (by decide), fun _ => sp_X8_errs (by decide) (bad (fun w => o w.2.1))⟩) (fun o => ⟨fun _ => ⟨fun w => absurd g.2.2.2 w, fun _ => ?_⟩, fun w => absurd rfl w⟩)⟩⟩
  rw [g.2.1.1, g.2.1.2.1]
  refine sp_X8_packed g.1.2.2.2.2 (by rw [g.1.2.2.1]; exact tk_ltr g.1.2.2.2.1 g.2.2.1 z) (by omega) hE.1 ?_
  rw [g.1.2.2.1]
  exact k1 ⟨z, o, by omega⟩
theorem sp_X8_nameHere_b {x : Cn} {Q : Int32 → Cn → Prop} (h : Bd x) (k : Q 0 x) : mSI mX8_nameHere [.ref 717] KW x Q := v_X8_nameHere_0 km ⟨fun _ => ⟨fun _ => k, fun z => absurd z h⟩, fun z => absurd z h⟩

end
end
/-! 73.read6.lean.txt -/
section
/-! lines, the reference -/
def HD (T : TT) (W C S A : Nat) : Prop := T 0 = nI W ∧ (5 ≤ W ∧ W ≤ 30) ∧ T 1 = nI C ∧ C ≤ 8 ∧ T 2 = nI S ∧ S ≤ 24 ∧ T 3 = nI A ∧ A ≤ 24 ∧ T 4 = nI 0
def RQ (y : Cn) (b : TT) (n p : Nat) (T : TT) (lim : Int32) (W C S A : Nat) : Prop := RG y b n p ∧ gi y 717 13 = lim ∧ gi y 717 14 = b2i (0 < S) ∧ gi y 719 = T ∧ HD T W C S A
theorem RQ.t {x y : Cn} {b : TT} {n p p' : Nat} {T : TT} {lim : Int32} {W C S A : Nat} (c : RQ x b n p T lim W C S A) (f : TFr x y) (g : RG y b n p') : RQ y b n p' T lim W C S A := ⟨g, (f.2 717 13 (by omega)).trans c.2.1, (f.2 717 14 (by omega)).trans c.2.2.1, (funext fun i => f.2 719 i (by omega)).trans c.2.2.2.1, c.2.2.2.2⟩
theorem RQ.m {x : Cn} {b : TT} {n p : Nat} {T : TT} {lim : Int32} {W C S A : Nat} (c : RQ x b n p T lim W C S A) : MRf x 719 := c.1.1.2.2.2.2
theorem MRf.tf {x y : Cn} (M : MRf x 719) (f : TFr x y) : MRf y 719 := M.keep f.1
theorem gi_719 (x : Cn) (k : Nat) (v : Int32) : gi (ui x 719 k v) 719 = uT (gi x 719) k v := by
  funext i
  rw [gi_ui]
  unfold uT
  by_cases h : i = k
  · rw [if_pos ⟨rfl, h⟩, if_pos h]
  · rw [if_neg (fun z => h z.2), if_neg h]
set_option maxHeartbeats 2000000 in
theorem v_X8_readLimit_0 {K : Sh} {x : Cn} {Q : Cn → Prop} {b0 : Nat}  (k_b0 : kk K b0 = some (8, 0)) (K0 : ((gi x b0 14) = 0 → (GV mX8_readLimit 16 [some (.ref b0), none, none, none] [] K x Q)) ∧ (¬ (gi x b0 14) = 0 → (mSV mX8_errs [.ref b0, .int 5, .int (gi x b0 8)] K x (fun y_2 => GV mX8_readLimit 16 [some (.ref b0), none, none, none] [] K y_2 Q)))) : mSV mX8_readLimit [.ref b0] K x Q := by
  refine s_V (by decide) (by simp [Value.category]) (Nat.le_of_ble_eq_true rfl) ?_
  show mGM mX8_readLimit 0 [some (.ref b0), none, none, none] [] (hp K x) (PV K Q)
  refine r_aload_n (pc := 0) dX8_readLimit_0 rfl ?_
  refine s_getI (pc := 1) dX8_readLimit_1 fl_X8_207 rfl k_b0 ?_
  refine r_if_eq (pc := 4) (tgt := 16) dX8_readLimit_4 (by decide) (fun q => ?_) (fun q => ?_)
  · have K0 := K0.1 q
    exact r_le (L' := [some (.ref b0), none, none, none]) ⟨rfl, trivial⟩ K0
  · have K0 := K0.2 q
    refine r_aload_n (pc := 7) dX8_readLimit_7 rfl ?_
    refine r_iconst (pc := 8) (v := 5) dX8_readLimit_8 (by decide) ?_
    refine r_aload_n (pc := 9) dX8_readLimit_9 rfl ?_
    refine s_getI (pc := 10) dX8_readLimit_10 fl_X8_116 rfl k_b0 ?_
    refine s_VV (pc := 13) mX8_errs (ci := 8) (a := b0) (As := [.int 5, .int (gi x b0 8)]) dX8_readLimit_13 lk_X8_157 in_X8_errs mo_X8_errs ⟨by decide, rfl⟩ ⟨by decide, by decide⟩ (Nat.le_of_ble_eq_true rfl) k_b0 (mSV_mono K0 (fun y_2 K0 => ?_))
    exact r_le (L' := [some (.ref b0), none, none, none]) ⟨rfl, trivial⟩ K0
set_option maxHeartbeats 2000000 in
theorem v_X8_readLimit_16 {K : Sh} {x : Cn} {Q : Cn → Prop} {b0 : Nat}  (k_b0 : kk K b0 = some (8, 0)) (K0 : mSV mX8_passes [.ref b0, .ref (mSB + 12)] K x (fun y_1 => GV mX8_readLimit 22 [some (.ref b0), none, none, none] [] K y_1 Q)) : GV mX8_readLimit 16 [some (.ref b0), none, none, none] [] K x Q := by
  show mGM mX8_readLimit 16 [some (.ref b0), none, none, none] [] (hp K x) (PV K Q)
  refine r_aload_n (pc := 16) dX8_readLimit_16 rfl ?_
  refine r_ldcS (pc := 17) (j := 12) dX8_readLimit_17 rfl ?_
  refine s_VV (pc := 19) mX8_passes (ci := 8) (a := b0) (As := [.ref (mSB + 12)]) dX8_readLimit_19 lk_X8_211 in_X8_passes mo_X8_passes ⟨by decide, rfl⟩ ⟨by decide, by decide⟩ (Nat.le_of_ble_eq_true rfl) k_b0 (mSV_mono K0 (fun y_1 K0 => ?_))
  exact r_le (L' := [some (.ref b0), none, none, none]) ⟨rfl, trivial⟩ K0
set_option maxHeartbeats 2000000 in
theorem v_X8_readLimit_22 {K : Sh} {x : Cn} {Q : Cn → Prop} {b0 : Nat}  (k_b0 : kk K b0 = some (8, 0)) (K0 : (¬ (gi x b0 11 = 0) → (GV mX8_readLimit 75 [some (.ref b0), none, none, none] [] K x Q)) ∧ ((gi x b0 11 = 0) → ((¬ (gi x b0 9) = 2 → (GV mX8_readLimit 75 [some (.ref b0), none, none, none] [] K x Q)) ∧ ((gi x b0 9) = 2 → ((¬ (0 ≤ (gi x b0 10) ∧ (gi x b0 10) ≤ 23) → (GV mX8_readLimit 75 [some (.ref b0), none, none, none] [] K x Q)) ∧ ((0 ≤ (gi x b0 10) ∧ (gi x b0 10) ≤ 23) → ((¬ (f_has (gi x b0 13) (gi x b0 10)) → (GV mX8_readLimit 75 [some (.ref b0), none, none, none] [] K x Q)) ∧ ((f_has (gi x b0 13) (gi x b0 10)) → (mSV mX8_errs [.ref b0, .int 3, .int (gi x b0 8)] K x (fun y_5 => GV mX8_readLimit 75 [some (.ref b0), none, none, none] [] K y_5 Q)))))))))) : GV mX8_readLimit 22 [some (.ref b0), none, none, none] [] K x Q := by
  show mGM mX8_readLimit 22 [some (.ref b0), none, none, none] [] (hp K x) (PV K Q)
  refine r_aload_n (pc := 22) dX8_readLimit_22 rfl ?_
  refine s_VI (pc := 23) mX8_good (ci := 8) (a := b0) (As := []) dX8_readLimit_23 lk_X8_104 in_X8_good mo_X8_good ⟨by decide, rfl⟩ ⟨by decide, by decide⟩ (Nat.le_of_ble_eq_true rfl) k_b0 (sp_X8_good k_b0 ?_)
  refine r_if_eq (pc := 26) (tgt := 75) dX8_readLimit_26 (by decide) (fun q => ?_) (fun q => ?_)
  · have q := (b2i_z _).mp q
    have K0 := K0.1 q
    exact r_le (L' := [some (.ref b0), none, none, none]) ⟨rfl, trivial⟩ K0
  · have q := b2i_nz q
    have K0 := K0.2 q
    refine r_aload_n (pc := 29) dX8_readLimit_29 rfl ?_
    refine s_getI (pc := 30) dX8_readLimit_30 fl_X8_119 rfl k_b0 ?_
    refine r_iconst (pc := 33) (v := 2) dX8_readLimit_33 (by decide) ?_
    refine r_icmp_ne (pc := 34) (tgt := 75) dX8_readLimit_34 (by decide) (fun q => ?_) (fun q => ?_)
    · have K0 := K0.1 q
      exact r_le (L' := [some (.ref b0), none, none, none]) ⟨rfl, trivial⟩ K0
    · have K0 := K0.2 q
      refine r_aload_n (pc := 37) dX8_readLimit_37 rfl ?_
      refine s_getI (pc := 38) dX8_readLimit_38 fl_X8_130 rfl k_b0 ?_
      refine r_i2l (pc := 41) dX8_readLimit_41 ?_
      refine r_lconst (pc := 42) (v := 0) dX8_readLimit_42 (by decide) ?_
      refine r_ldc2 (pc := 43) (v := 23) dX8_readLimit_43 cn_X8_55 ?_
      refine s_SI (pc := 46) mX8_in (As := [.long (((gi x b0 10) : Int32).toInt64), .long 0, .long 23]) dX8_readLimit_46 lk_X8_45 st_X8_in mo_X8_in ⟨by decide, by decide⟩ (Nat.le_of_ble_eq_true rfl) (sq_X8_in (v := (gi x b0 10)) (lo := 0) (hi := 23) rfl (by decide) (by decide) ?_)
      refine r_if_eq (pc := 49) (tgt := 75) dX8_readLimit_49 (by decide) (fun q => ?_) (fun q => ?_)
      · have q := (b2i_z _).mp q
        have K0 := K0.1 q
        exact r_le (L' := [some (.ref b0), none, none, none]) ⟨rfl, trivial⟩ K0
      · have q := b2i_nz q
        have K0 := K0.2 q
        refine r_aload_n (pc := 52) dX8_readLimit_52 rfl ?_
        refine s_getI (pc := 53) dX8_readLimit_53 fl_X8_215 rfl k_b0 ?_
        refine r_aload_n (pc := 56) dX8_readLimit_56 rfl ?_
        refine s_getI (pc := 57) dX8_readLimit_57 fl_X8_130 rfl k_b0 ?_
        refine s_SI (pc := 60) mX8_has (As := [.int (gi x b0 13), .int (gi x b0 10)]) dX8_readLimit_60 lk_X8_75 st_X8_has mo_X8_has ⟨by decide, by decide⟩ (Nat.le_of_ble_eq_true rfl) (sp_X8_has  ?_)
        refine r_if_eq (pc := 63) (tgt := 75) dX8_readLimit_63 (by decide) (fun q => ?_) (fun q => ?_)
        · have q := (b2i_z _).mp q
          have K0 := K0.1 q
          exact r_le (L' := [some (.ref b0), none, none, none]) ⟨rfl, trivial⟩ K0
        · have q := b2i_nz q
          have K0 := K0.2 q
          refine r_aload_n (pc := 66) dX8_readLimit_66 rfl ?_
          refine r_iconst (pc := 67) (v := 3) dX8_readLimit_67 (by decide) ?_
          refine r_aload_n (pc := 68) dX8_readLimit_68 rfl ?_
          refine s_getI (pc := 69) dX8_readLimit_69 fl_X8_116 rfl k_b0 ?_
          refine s_VV (pc := 72) mX8_errs (ci := 8) (a := b0) (As := [.int 3, .int (gi x b0 8)]) dX8_readLimit_72 lk_X8_157 in_X8_errs mo_X8_errs ⟨by decide, rfl⟩ ⟨by decide, by decide⟩ (Nat.le_of_ble_eq_true rfl) k_b0 (mSV_mono K0 (fun y_5 K0 => ?_))
          exact r_le (L' := [some (.ref b0), none, none, none]) ⟨rfl, trivial⟩ K0
set_option maxHeartbeats 2000000 in
theorem v_X8_readLimit_75 {K : Sh} {x : Cn} {Q : Cn → Prop} {b0 : Nat}  (k_b0 : kk K b0 = some (8, 0)) (K0 : mSI mX8_number [.ref b0, .int 0, .int 23] K x (fun r_2 y_1 => GV mX8_readLimit 83 [some (.ref b0), some (.int r_2), none, none] [] K y_1 Q)) : GV mX8_readLimit 75 [some (.ref b0), none, none, none] [] K x Q := by
  show mGM mX8_readLimit 75 [some (.ref b0), none, none, none] [] (hp K x) (PV K Q)
  refine r_aload_n (pc := 75) dX8_readLimit_75 rfl ?_
  refine r_iconst (pc := 76) (v := 0) dX8_readLimit_76 (by decide) ?_
  refine r_bipush (pc := 77) (v := 23) dX8_readLimit_77 (by decide) ?_
  refine s_VI (pc := 79) mX8_number (ci := 8) (a := b0) (As := [.int 0, .int 23]) dX8_readLimit_79 lk_X8_218 in_X8_number mo_X8_number ⟨by decide, rfl⟩ ⟨by decide, by decide⟩ (Nat.le_of_ble_eq_true rfl) k_b0 (mSI_mono K0 (fun r_2 y_1 K0 => ?_))
  refine r_istore_n (pc := 82) dX8_readLimit_82 (by decide) ?_
  exact r_le (L' := [some (.ref b0), some (.int r_2), none, none]) ⟨rfl, ⟨rfl, trivial⟩⟩ K0
set_option maxHeartbeats 2000000 in
theorem v_X8_readLimit_83 {K : Sh} {x : Cn} {Q : Cn → Prop} {b0 : Nat} {l1 : Int32}  (k_b0 : kk K b0 = some (8, 0)) (K0 : mSI mX8_number [.ref b0, .int 0, .int 9] K x (fun r_2 y_1 => GV mX8_readLimit 91 [some (.ref b0), some (.int l1), some (.int r_2), none] [] K y_1 Q)) : GV mX8_readLimit 83 [some (.ref b0), some (.int l1), none, none] [] K x Q := by
  show mGM mX8_readLimit 83 [some (.ref b0), some (.int l1), none, none] [] (hp K x) (PV K Q)
  refine r_aload_n (pc := 83) dX8_readLimit_83 rfl ?_
  refine r_iconst (pc := 84) (v := 0) dX8_readLimit_84 (by decide) ?_
  refine r_bipush (pc := 85) (v := 9) dX8_readLimit_85 (by decide) ?_
  refine s_VI (pc := 87) mX8_number (ci := 8) (a := b0) (As := [.int 0, .int 9]) dX8_readLimit_87 lk_X8_218 in_X8_number mo_X8_number ⟨by decide, rfl⟩ ⟨by decide, by decide⟩ (Nat.le_of_ble_eq_true rfl) k_b0 (mSI_mono K0 (fun r_2 y_1 K0 => ?_))
  refine r_istore_n (pc := 90) dX8_readLimit_90 (by decide) ?_
  exact r_le (L' := [some (.ref b0), some (.int l1), some (.int r_2), none]) ⟨rfl, ⟨rfl, ⟨rfl, trivial⟩⟩⟩ K0
set_option maxHeartbeats 2000000 in
theorem v_X8_readLimit_91 {K : Sh} {x : Cn} {Q : Cn → Prop} {b0 : Nat} {l1 : Int32} {l2 : Int32}  (k_b0 : kk K b0 = some (8, 0)) (K0 : mSV mX8_passes [.ref b0, .ref (mSB + 13)] K x (fun y_1 => GV mX8_readLimit 97 [some (.ref b0), some (.int l1), some (.int l2), none] [] K y_1 Q)) : GV mX8_readLimit 91 [some (.ref b0), some (.int l1), some (.int l2), none] [] K x Q := by
  show mGM mX8_readLimit 91 [some (.ref b0), some (.int l1), some (.int l2), none] [] (hp K x) (PV K Q)
  refine r_aload_n (pc := 91) dX8_readLimit_91 rfl ?_
  refine r_ldcS (pc := 92) (j := 13) dX8_readLimit_92 rfl ?_
  refine s_VV (pc := 94) mX8_passes (ci := 8) (a := b0) (As := [.ref (mSB + 13)]) dX8_readLimit_94 lk_X8_211 in_X8_passes mo_X8_passes ⟨by decide, rfl⟩ ⟨by decide, by decide⟩ (Nat.le_of_ble_eq_true rfl) k_b0 (mSV_mono K0 (fun y_1 K0 => ?_))
  exact r_le (L' := [some (.ref b0), some (.int l1), some (.int l2), none]) ⟨rfl, ⟨rfl, ⟨rfl, trivial⟩⟩⟩ K0
set_option maxHeartbeats 2000000 in
theorem v_X8_readLimit_97 {K : Sh} {x : Cn} {Q : Cn → Prop} {b0 : Nat} {l1 : Int32} {l2 : Int32}  (k_b0 : kk K b0 = some (8, 0)) (K0 : mSI mX8_number [.ref b0, .int 0, .int l2] K x (fun r_2 y_1 => GV mX8_readLimit 104 [some (.ref b0), some (.int l1), some (.int l2), some (.int r_2)] [] K y_1 Q)) : GV mX8_readLimit 97 [some (.ref b0), some (.int l1), some (.int l2), none] [] K x Q := by
  show mGM mX8_readLimit 97 [some (.ref b0), some (.int l1), some (.int l2), none] [] (hp K x) (PV K Q)
  refine r_aload_n (pc := 97) dX8_readLimit_97 rfl ?_
  refine r_iconst (pc := 98) (v := 0) dX8_readLimit_98 (by decide) ?_
  refine r_iload_n (pc := 99) dX8_readLimit_99 rfl ?_
  refine s_VI (pc := 100) mX8_number (ci := 8) (a := b0) (As := [.int 0, .int l2]) dX8_readLimit_100 lk_X8_218 in_X8_number mo_X8_number ⟨by decide, rfl⟩ ⟨by decide, by decide⟩ (Nat.le_of_ble_eq_true rfl) k_b0 (mSI_mono K0 (fun r_2 y_1 K0 => ?_))
  refine r_istore_n (pc := 103) dX8_readLimit_103 (by decide) ?_
  exact r_le (L' := [some (.ref b0), some (.int l1), some (.int l2), some (.int r_2)]) ⟨rfl, ⟨rfl, ⟨rfl, ⟨rfl, trivial⟩⟩⟩⟩ K0
set_option maxHeartbeats 2000000 in
theorem v_X8_readLimit_104 {K : Sh} {x : Cn} {Q : Cn → Prop} {b0 : Nat} {l1 : Int32} {l2 : Int32} {l3 : Int32} {b0_3 : Nat} {n_b0_3 : Nat} (k_b0 : kk K b0 = some (8, 0)) (g_b0_3 : gr x b0 3 = some b0_3) (k_b0_3 : kk K b0_3 = some (20, n_b0_3)) (K0 : ((gi x b0 11 = 0) → (vp_in (6 + (2 * l1)) n_b0_3 ∧ (vp_in ((6 + (2 * l1)) + 1) n_b0_3 ∧ (Q (ui (ui (ui x b0 13 ((gi x b0 13) ||| (1 <<< (l1 &&& 31)))) b0_3 ((6 + (2 * l1)) : Int32).toNatClampNeg l2) b0_3 (((6 + (2 * l1)) + 1) : Int32).toNatClampNeg l3))))) ∧ (¬ (gi x b0 11 = 0) → (Q x))) : GV mX8_readLimit 104 [some (.ref b0), some (.int l1), some (.int l2), some (.int l3)] [] K x Q := by
  show mGM mX8_readLimit 104 [some (.ref b0), some (.int l1), some (.int l2), some (.int l3)] [] (hp K x) (PV K Q)
  refine r_aload_n (pc := 104) dX8_readLimit_104 rfl ?_
  refine s_VI (pc := 105) mX8_good (ci := 8) (a := b0) (As := []) dX8_readLimit_105 lk_X8_104 in_X8_good mo_X8_good ⟨by decide, rfl⟩ ⟨by decide, by decide⟩ (Nat.le_of_ble_eq_true rfl) k_b0 (sp_X8_good k_b0 ?_)
  refine r_if_ne (pc := 108) (tgt := 112) dX8_readLimit_108 (by decide) (fun q => ?_) (fun q => ?_)
  · have q := b2i_nz q
    have K0 := K0.1 q
    refine r_aload_n (pc := 112) dX8_readLimit_112 rfl ?_
    refine r_dup (pc := 113) dX8_readLimit_113 rfl ?_
    refine s_getI (pc := 114) dX8_readLimit_114 fl_X8_215 rfl k_b0 ?_
    refine r_iconst (pc := 117) (v := 1) dX8_readLimit_117 (by decide) ?_
    refine r_iload_n (pc := 118) dX8_readLimit_118 rfl ?_
    refine r_ishl (pc := 119) dX8_readLimit_119 ?_
    refine r_ior (pc := 120) dX8_readLimit_120 ?_
    refine s_putI (pc := 121) dX8_readLimit_121 fl_X8_215 rfl rfl k_b0 ?_
    refine r_aload_n (pc := 124) dX8_readLimit_124 rfl ?_
    refine s_getR (pc := 125) dX8_readLimit_125 fl_X8_16 rfl k_b0 g_b0_3 ?_
    refine r_bipush (pc := 128) (v := 6) dX8_readLimit_128 (by decide) ?_
    refine r_iconst (pc := 130) (v := 2) dX8_readLimit_130 (by decide) ?_
    refine r_iload_n (pc := 131) dX8_readLimit_131 rfl ?_
    refine r_imul (pc := 132) dX8_readLimit_132 ?_
    refine r_iadd (pc := 133) dX8_readLimit_133 ?_
    refine r_iload_n (pc := 134) dX8_readLimit_134 rfl ?_
    obtain ⟨i_2, K0⟩ := K0
    refine s_iast (pc := 135) dX8_readLimit_135 k_b0_3 i_2 ?_
    refine r_aload_n (pc := 136) dX8_readLimit_136 rfl ?_
    refine s_getR (pc := 137) dX8_readLimit_137 fl_X8_16 rfl k_b0 g_b0_3 ?_
    refine r_bipush (pc := 140) (v := 6) dX8_readLimit_140 (by decide) ?_
    refine r_iconst (pc := 142) (v := 2) dX8_readLimit_142 (by decide) ?_
    refine r_iload_n (pc := 143) dX8_readLimit_143 rfl ?_
    refine r_imul (pc := 144) dX8_readLimit_144 ?_
    refine r_iadd (pc := 145) dX8_readLimit_145 ?_
    refine r_iconst (pc := 146) (v := 1) dX8_readLimit_146 (by decide) ?_
    refine r_iadd (pc := 147) dX8_readLimit_147 ?_
    refine r_iload_n (pc := 148) dX8_readLimit_148 rfl ?_
    obtain ⟨i_3, K0⟩ := K0
    refine s_iast (pc := 149) dX8_readLimit_149 k_b0_3 i_3 ?_
    exact s_ret rfl dX8_readLimit_150 K0
  · have q := (b2i_z _).mp q
    have K0 := K0.2 q
    exact s_ret rfl dX8_readLimit_111 K0
section
theorem lp_X8_readLimit_b {x : Cn} {Q : Cn → Prop} (h : Bd x) (M : MRf x 719) (k : Q x) : (∀ l1 l2 l3, GV mX8_readLimit 104 [some (.ref 717), some (.int l1), some (.int l2), some (.int l3)] [] KW x Q) ∧ (∀ l1 l2, GV mX8_readLimit 97 [some (.ref 717), some (.int l1), some (.int l2), none] [] KW x Q) ∧ (∀ l1 l2, GV mX8_readLimit 91 [some (.ref 717), some (.int l1), some (.int l2), none] [] KW x Q) ∧ (∀ l1, GV mX8_readLimit 83 [some (.ref 717), some (.int l1), none, none] [] KW x Q) ∧ GV mX8_readLimit 75 [some (.ref 717), none, none, none] [] KW x Q ∧ GV mX8_readLimit 22 [some (.ref 717), none, none, none] [] KW x Q ∧ GV mX8_readLimit 16 [some (.ref 717), none, none, none] [] KW x Q := by
  have a1 : ∀ l1 l2 l3, GV mX8_readLimit 104 [some (.ref 717), some (.int l1), some (.int l2), some (.int l3)] [] KW x Q := fun l1 l2 l3 => v_X8_readLimit_104 km M.2.2.1 km2 ⟨fun z => absurd z h, fun _ => k⟩
  have a2 : ∀ l1 l2, GV mX8_readLimit 97 [some (.ref 717), some (.int l1), some (.int l2), none] [] KW x Q := fun l1 l2 => v_X8_readLimit_97 km (sp_X8_number_b h (a1 _ _ _))
  have a3 : ∀ l1 l2, GV mX8_readLimit 91 [some (.ref 717), some (.int l1), some (.int l2), none] [] KW x Q := fun l1 l2 => v_X8_readLimit_91 km (sp_X8_passes_b (by omega) M.2.2.2.1 h (a2 _ _))
  have a4 : ∀ l1, GV mX8_readLimit 83 [some (.ref 717), some (.int l1), none, none] [] KW x Q := fun l1 => v_X8_readLimit_83 km (sp_X8_number_b h (a3 _ _))
  have a5 : GV mX8_readLimit 75 [some (.ref 717), none, none, none] [] KW x Q := v_X8_readLimit_75 km (sp_X8_number_b h (a4 _))
  have a6 : GV mX8_readLimit 22 [some (.ref 717), none, none, none] [] KW x Q := v_X8_readLimit_22 km ⟨fun _ => a5, fun z => absurd z h⟩
  exact ⟨a1, a2, a3, a4, a5, a6, v_X8_readLimit_16 km (sp_X8_passes_b (by omega) M.2.2.2.1 h a6)⟩
def okL1 (b : TT) (n p : Nat) (lim : Int32) (S : Nat) : Prop := S = 0 ∧ nb b n (nxt b n 1 p) 0 23 ∧ ¬ tb lim (tV b n (nxt b n 1 p)) = true ∧ nb b n (nxt b n 2 p) 0 9 ∧ iw b n (nxt b n 3 p) 12 ∧ nb b n (nxt b n 4 p) 0 (tV b n (nxt b n 2 p))
theorem sp_X8_readLimit {x : Cn} {Q : Cn → Prop} {b : TT} {n p : Nat} {T : TT} {lim : Int32} {W C S A : Nat} (c : RQ x b n p T lim W C S A) (o8 : iw b n p 8) (k1 : okL1 b n p lim S → ∀ y, QFr x y → RQ y b n (nxt b n 5 p) (lTT b n p T) (lmL b n p lim) W C S A → Q y) (k0 : ¬ okL1 b n p lim S → ∀ y, QFr x y → Bd y → Q y) : mSV mX8_readLimit [.ref 717] KW x Q := by
  have M := c.m
  refine v_X8_readLimit_0 km ?_
  rw [c.2.2.1, b2i_z]
  refine ⟨fun z => ?_, fun z => sp_X8_errs (by decide) (fun y f h => (lp_X8_readLimit_b h (M.tf f) (k0 (fun o => z (by have := o.1; omega)) y f.q h)).2.2.2.2.2.2)⟩
  have o0 : S = 0 := by omega
  refine v_X8_readLimit_16 km (sp_X8_passes wj_8 c.1 (fun _ y1 f1 g1 => ?_) (fun o => absurd o8 o))
  have c1 := c.t f1.t g1
  have F1 : QFr x y1 := f1.q
  have ek : gi y1 717 9 = 2 ↔ tK b n (tE b n p) = 2 := g1.2.1.k 2 (by omega)
  have go : (nb b n (nxt b n 1 p) 0 23 → ¬ tb lim (tV b n (nxt b n 1 p)) = true) → GV mX8_readLimit 75 [some (.ref 717), none, none, none] [] KW y1 Q := by
    intro o2
    refine v_X8_readLimit_75 km (sp_X8_number (lo := 0) (hi := 23) (by omega) (by omega) g1 (fun o1 y2 f2 g2 => ?_) (fun o1 y2 f2 h => (lp_X8_readLimit_b h (c1.m.tf f2) (k0 (fun o => o1 o.2.1) y2 (F1.tr f2.q) h)).2.2.2.1 _))
    have c2 := c1.t f2.t g2
    have F2 := F1.tr f2.q
    refine v_X8_readLimit_83 km (sp_X8_number (lo := 0) (hi := 9) (by omega) (by omega) g2 (fun o3 y3 f3 g3 => ?_) (fun o3 y3 f3 h => (lp_X8_readLimit_b h (c2.m.tf f3) (k0 (fun o => o3 o.2.2.2.1) y3 (F2.tr f3.q) h)).2.2.1 _ _))
    have c3 := c2.t f3.t g3
    have F3 := F2.tr f3.q
    have h9 : tV b n (nxt b n 2 p) ≤ 9 := o3.2.2
    refine v_X8_readLimit_91 km (sp_X8_passes wj_12 g3 (fun o4 y4 f4 g4 => ?_) (fun o4 y4 f4 h => (lp_X8_readLimit_b h (c3.m.tf f4) (k0 (fun o => o4 o.2.2.2.2.1) y4 (F3.tr f4.q) h)).2.1 _ _))
    have c4 := c3.t f4.t g4
    have F4 := F3.tr f4.q
    refine v_X8_readLimit_97 km (sp_X8_number (lo := 0) (hi := tV b n (nxt b n 2 p)) (by omega) (by omega) g4 (fun o5 y5 f5 g5 => ?_) (fun o5 y5 f5 h => (lp_X8_readLimit_b h (c4.m.tf f5) (k0 (fun o => o5 o.2.2.2.2.2) y5 (F4.tr f5.q) h)).1 _ _ _))
    have c5 := c4.t f5.t g5
    have F5 := F4.tr f5.q
    have h23 : tV b n (nxt b n 1 p) ≤ 23 := o1.2.2
    have i6 : (6 : Int32) + 2 * nI (tV b n (nxt b n 1 p)) = nI (6 + 2 * tV b n (nxt b n 1 p)) := by rw [show (6 : Int32) = nI 6 from rfl, show (2 : Int32) = nI 2 from rfl, pk_mul, nI_add]
    have i7 : nI (6 + 2 * tV b n (nxt b n 1 p)) + 1 = nI (7 + 2 * tV b n (nxt b n 1 p)) := by rw [← nI_succ]; congr 1; omega
    refine v_X8_readLimit_104 km c5.m.2.2.1 km2 ⟨fun _ => ?_, fun z => absurd g5.2.2.2 z⟩
    show vp_in ((6 : Int32) + 2 * nI (tV b n (nxt b n 1 p))) 518 ∧ vp_in (((6 : Int32) + 2 * nI (tV b n (nxt b n 1 p))) + 1) 518 ∧ Q (ui (ui (ui y5 717 13 (gi y5 717 13 ||| (1 <<< (nI (tV b n (nxt b n 1 p)) &&& 31)))) 719 ((6 : Int32) + 2 * nI (tV b n (nxt b n 1 p)) : Int32).toNatClampNeg (nI (tV b n (nxt b n 2 p)))) 719 (((6 : Int32) + 2 * nI (tV b n (nxt b n 1 p))) + 1 : Int32).toNatClampNeg (nI (tV b n (nxt b n 4 p))))
    rw [i6, i7, nI_clamp (by omega), nI_clamp (by omega)]
    refine ⟨vp_in_nI (by omega) (by decide), vp_in_nI (by omega) (by decide), k1 ⟨o0, o1, o2 o1, o3, o4, o5⟩ _ (((F5.u (by omega)).u (by omega)).u (by omega)) ⟨((g5.u (by omega)).u (by omega)).u (by omega), ?_, ?_, ?_, ?_⟩⟩
    · rw [gi_ui, if_neg (by omega), gi_ui, if_neg (by omega), gi_ui, if_pos ⟨rfl, rfl⟩, c5.2.1]; rfl
    · rw [gi_ui, if_neg (by omega), gi_ui, if_neg (by omega), gi_ui, if_neg (by omega)]; exact c5.2.2.1
    · rw [gi_719, gi_719, show gi (ui y5 717 13 (gi y5 717 13 ||| (1 <<< (nI (tV b n (nxt b n 1 p)) &&& 31)))) 719 = gi y5 719 from funext (fun i => by rw [gi_ui, if_neg (by omega)]), c5.2.2.2.1]; rfl
    · have e : ∀ i, i < 5 → lTT b n p T i = T i := fun i hi => by unfold lTT lmT; rw [uT_ne _ _ (by omega), uT_ne _ _ (by omega)]
      obtain ⟨h0, hw, h1, hc, h2, hs, h3, ha, h4⟩ := c5.2.2.2.2
      exact ⟨(e 0 (by omega)).trans h0, hw, (e 1 (by omega)).trans h1, hc, (e 2 (by omega)).trans h2, hs, (e 3 (by omega)).trans h3, ha, (e 4 (by omega)).trans h4⟩
  refine v_X8_readLimit_22 km ⟨fun z => absurd g1.2.2.2 z, fun _ => ?_⟩
  rw [ek]
  refine ⟨fun z => go (fun o => absurd o.1 z), fun z => ?_⟩
  have hv := g1.2.1.2.2.2.1 z
  have hm : min (tV b n (tE b n p)) 9999 ≤ 9999 := Nat.min_le_right _ _
  have ei : (0 ≤ gi y1 717 10 ∧ gi y1 717 10 ≤ 23) ↔ nb b n (nxt b n 1 p) 0 23 := by
    rw [hv]
    have e1 : (0 : Int32) ≤ nI (min (tV b n (tE b n p)) 9999) ↔ True := ⟨fun _ => trivial, fun _ => nI_pos' (by omega)⟩
    have e2 : nI (min (tV b n (tE b n p)) 9999) ≤ 23 ↔ min (tV b n (tE b n p)) 9999 ≤ 23 := nI_leI (a := min (tV b n (tE b n p)) 9999) (b := 23) (by omega) (by omega)
    rw [e1, e2]
    constructor
    · intro w
      have w2 := w.2
      exact ⟨z, Nat.zero_le _, show tV b n (tE b n p) ≤ 23 by omega⟩
    · intro w
      have w2 : tV b n (tE b n p) ≤ 23 := w.2.2
      exact ⟨trivial, by omega⟩
  rw [ei]
  refine ⟨fun o => go (fun w => absurd w o), fun o => ?_⟩
  have h23 : tV b n (tE b n p) ≤ 23 := o.2.2
  rw [hv, show min (tV b n (tE b n p)) 9999 = tV b n (tE b n p) by omega, c1.2.1, f_has_tb lim (show tV b n (tE b n p) < 32 by omega)]
  exact ⟨fun w => go (fun _ => w), fun w => sp_X8_errs (by decide) (fun y f h => (lp_X8_readLimit_b h (c1.m.tf f) (k0 (fun o' => o'.2.2.1 w) y (F1.tr f.q) h)).2.2.2.2.1)⟩
def okC1 (b : TT) (n p : Nat) (T : TT) (C : Nat) : Prop := C < 8 ∧ nmd b n (nxt b n 1 p) ∧ fnd T C (vnm b n (nxt b n 1 p)) = -1
end
set_option maxHeartbeats 2000000 in
theorem v_X8_readCarrier_0 {K : Sh} {x : Cn} {Q : Cn → Prop} {b0 : Nat} {b0_3 : Nat} {n_b0_3 : Nat} (k_b0 : kk K b0 = some (8, 0)) (g_b0_3 : gr x b0 3 = some b0_3) (k_b0_3 : kk K b0_3 = some (20, n_b0_3)) (K0 : vp_in 1 n_b0_3 ∧ ((¬ (gi x b0_3 1) = 8 → (GV mX8_readCarrier 20 [some (.ref b0), none] [] K x Q)) ∧ ((gi x b0_3 1) = 8 → (mSV mX8_errs [.ref b0, .int 5, .int (gi x b0 8)] K x (fun y_3 => GV mX8_readCarrier 20 [some (.ref b0), none] [] K y_3 Q))))) : mSV mX8_readCarrier [.ref b0] K x Q := by
  refine s_V (by decide) (by simp [Value.category]) (Nat.le_of_ble_eq_true rfl) ?_
  show mGM mX8_readCarrier 0 [some (.ref b0), none] [] (hp K x) (PV K Q)
  refine r_aload_n (pc := 0) dX8_readCarrier_0 rfl ?_
  refine s_getR (pc := 1) dX8_readCarrier_1 fl_X8_16 rfl k_b0 g_b0_3 ?_
  refine r_iconst (pc := 4) (v := 1) dX8_readCarrier_4 (by decide) ?_
  obtain ⟨i_1, K0⟩ := K0
  refine s_iald (pc := 5) dX8_readCarrier_5 k_b0_3 i_1 ?_
  refine r_bipush (pc := 6) (v := 8) dX8_readCarrier_6 (by decide) ?_
  refine r_icmp_ne (pc := 8) (tgt := 20) dX8_readCarrier_8 (by decide) (fun q => ?_) (fun q => ?_)
  · have K0 := K0.1 q
    exact r_le (L' := [some (.ref b0), none]) ⟨rfl, trivial⟩ K0
  · have K0 := K0.2 q
    refine r_aload_n (pc := 11) dX8_readCarrier_11 rfl ?_
    refine r_iconst (pc := 12) (v := 5) dX8_readCarrier_12 (by decide) ?_
    refine r_aload_n (pc := 13) dX8_readCarrier_13 rfl ?_
    refine s_getI (pc := 14) dX8_readCarrier_14 fl_X8_116 rfl k_b0 ?_
    refine s_VV (pc := 17) mX8_errs (ci := 8) (a := b0) (As := [.int 5, .int (gi x b0 8)]) dX8_readCarrier_17 lk_X8_157 in_X8_errs mo_X8_errs ⟨by decide, rfl⟩ ⟨by decide, by decide⟩ (Nat.le_of_ble_eq_true rfl) k_b0 (mSV_mono K0 (fun y_3 K0 => ?_))
    exact r_le (L' := [some (.ref b0), none]) ⟨rfl, trivial⟩ K0
set_option maxHeartbeats 2000000 in
theorem v_X8_readCarrier_20 {K : Sh} {x : Cn} {Q : Cn → Prop} {b0 : Nat}  (k_b0 : kk K b0 = some (8, 0)) (K0 : mSV mX8_passes [.ref b0, .ref (mSB + 14)] K x (fun y_1 => GV mX8_readCarrier 26 [some (.ref b0), none] [] K y_1 Q)) : GV mX8_readCarrier 20 [some (.ref b0), none] [] K x Q := by
  show mGM mX8_readCarrier 20 [some (.ref b0), none] [] (hp K x) (PV K Q)
  refine r_aload_n (pc := 20) dX8_readCarrier_20 rfl ?_
  refine r_ldcS (pc := 21) (j := 14) dX8_readCarrier_21 rfl ?_
  refine s_VV (pc := 23) mX8_passes (ci := 8) (a := b0) (As := [.ref (mSB + 14)]) dX8_readCarrier_23 lk_X8_211 in_X8_passes mo_X8_passes ⟨by decide, rfl⟩ ⟨by decide, by decide⟩ (Nat.le_of_ble_eq_true rfl) k_b0 (mSV_mono K0 (fun y_1 K0 => ?_))
  exact r_le (L' := [some (.ref b0), none]) ⟨rfl, trivial⟩ K0
set_option maxHeartbeats 2000000 in
theorem v_X8_readCarrier_26 {K : Sh} {x : Cn} {Q : Cn → Prop} {b0 : Nat}  (k_b0 : kk K b0 = some (8, 0)) (K0 : mSI mX8_nameHere [.ref b0] K x (fun r_2 y_1 => GV mX8_readCarrier 31 [some (.ref b0), some (.int r_2)] [] K y_1 Q)) : GV mX8_readCarrier 26 [some (.ref b0), none] [] K x Q := by
  show mGM mX8_readCarrier 26 [some (.ref b0), none] [] (hp K x) (PV K Q)
  refine r_aload_n (pc := 26) dX8_readCarrier_26 rfl ?_
  refine s_VI (pc := 27) mX8_nameHere (ci := 8) (a := b0) (As := []) dX8_readCarrier_27 lk_X8_221 in_X8_nameHere mo_X8_nameHere ⟨by decide, rfl⟩ ⟨by decide, by decide⟩ (Nat.le_of_ble_eq_true rfl) k_b0 (mSI_mono K0 (fun r_2 y_1 K0 => ?_))
  refine r_istore_n (pc := 30) dX8_readCarrier_30 (by decide) ?_
  exact r_le (L' := [some (.ref b0), some (.int r_2)]) ⟨rfl, ⟨rfl, trivial⟩⟩ K0
set_option maxHeartbeats 2000000 in
theorem v_X8_readCarrier_31 {K : Sh} {x : Cn} {Q : Cn → Prop} {b0 : Nat} {l1 : Int32}  (k_b0 : kk K b0 = some (8, 0)) (K0 : (¬ (gi x b0 11 = 0) → (GV mX8_readCarrier 56 [some (.ref b0), some (.int l1)] [] K x Q)) ∧ ((gi x b0 11 = 0) → (mSI mX8_findName [.ref b0, .int l1] K x (fun r_3 y_2 => (r_3 = (-1) → (GV mX8_readCarrier 56 [some (.ref b0), some (.int l1)] [] K y_2 Q)) ∧ (¬ r_3 = (-1) → (mSV mX8_errs [.ref b0, .int 3, .int (gi y_2 b0 8)] K y_2 (fun y_5 => GV mX8_readCarrier 56 [some (.ref b0), some (.int l1)] [] K y_5 Q))))))) : GV mX8_readCarrier 31 [some (.ref b0), some (.int l1)] [] K x Q := by
  show mGM mX8_readCarrier 31 [some (.ref b0), some (.int l1)] [] (hp K x) (PV K Q)
  refine r_aload_n (pc := 31) dX8_readCarrier_31 rfl ?_
  refine s_VI (pc := 32) mX8_good (ci := 8) (a := b0) (As := []) dX8_readCarrier_32 lk_X8_104 in_X8_good mo_X8_good ⟨by decide, rfl⟩ ⟨by decide, by decide⟩ (Nat.le_of_ble_eq_true rfl) k_b0 (sp_X8_good k_b0 ?_)
  refine r_if_eq (pc := 35) (tgt := 56) dX8_readCarrier_35 (by decide) (fun q => ?_) (fun q => ?_)
  · have q := (b2i_z _).mp q
    have K0 := K0.1 q
    exact r_le (L' := [some (.ref b0), some (.int l1)]) ⟨rfl, ⟨rfl, trivial⟩⟩ K0
  · have q := b2i_nz q
    have K0 := K0.2 q
    refine r_aload_n (pc := 38) dX8_readCarrier_38 rfl ?_
    refine r_iload_n (pc := 39) dX8_readCarrier_39 rfl ?_
    refine s_VI (pc := 40) mX8_findName (ci := 8) (a := b0) (As := [.int l1]) dX8_readCarrier_40 lk_X8_224 in_X8_findName mo_X8_findName ⟨by decide, rfl⟩ ⟨by decide, by decide⟩ (Nat.le_of_ble_eq_true rfl) k_b0 (mSI_mono K0 (fun r_3 y_2 K0 => ?_))
    refine r_iconst (pc := 43) (v := (-1)) dX8_readCarrier_43 (by decide) ?_
    refine r_icmp_eq (pc := 44) (tgt := 56) dX8_readCarrier_44 (by decide) (fun q => ?_) (fun q => ?_)
    · have K0 := K0.1 q
      exact r_le (L' := [some (.ref b0), some (.int l1)]) ⟨rfl, ⟨rfl, trivial⟩⟩ K0
    · have K0 := K0.2 q
      refine r_aload_n (pc := 47) dX8_readCarrier_47 rfl ?_
      refine r_iconst (pc := 48) (v := 3) dX8_readCarrier_48 (by decide) ?_
      refine r_aload_n (pc := 49) dX8_readCarrier_49 rfl ?_
      refine s_getI (pc := 50) dX8_readCarrier_50 fl_X8_116 rfl k_b0 ?_
      refine s_VV (pc := 53) mX8_errs (ci := 8) (a := b0) (As := [.int 3, .int (gi y_2 b0 8)]) dX8_readCarrier_53 lk_X8_157 in_X8_errs mo_X8_errs ⟨by decide, rfl⟩ ⟨by decide, by decide⟩ (Nat.le_of_ble_eq_true rfl) k_b0 (mSV_mono K0 (fun y_5 K0 => ?_))
      exact r_le (L' := [some (.ref b0), some (.int l1)]) ⟨rfl, ⟨rfl, trivial⟩⟩ K0
set_option maxHeartbeats 2000000 in
theorem v_X8_readCarrier_56 {K : Sh} {x : Cn} {Q : Cn → Prop} {b0 : Nat} {l1 : Int32} {b0_3 : Nat} {n_b0_3 : Nat} (k_b0 : kk K b0 = some (8, 0)) (g_b0_3 : gr x b0 3 = some b0_3) (k_b0_3 : kk K b0_3 = some (20, n_b0_3)) (K0 : ((gi x b0 11 = 0) → (vp_in 1 n_b0_3 ∧ (vp_in (54 + (gi x b0_3 1)) n_b0_3 ∧ (mSV mX8_advance [.ref b0] K (ui (ui x b0_3 ((54 + (gi x b0_3 1)) : Int32).toNatClampNeg l1) b0_3 1 ((gi (ui x b0_3 ((54 + (gi x b0_3 1)) : Int32).toNatClampNeg l1) b0_3 1) + 1)) (fun y_4 => GV mX8_readCarrier 93 [some (.ref b0), some (.int l1)] [] K y_4 Q))))) ∧ (¬ (gi x b0 11 = 0) → (Q x))) : GV mX8_readCarrier 56 [some (.ref b0), some (.int l1)] [] K x Q := by
  show mGM mX8_readCarrier 56 [some (.ref b0), some (.int l1)] [] (hp K x) (PV K Q)
  refine r_aload_n (pc := 56) dX8_readCarrier_56 rfl ?_
  refine s_VI (pc := 57) mX8_good (ci := 8) (a := b0) (As := []) dX8_readCarrier_57 lk_X8_104 in_X8_good mo_X8_good ⟨by decide, rfl⟩ ⟨by decide, by decide⟩ (Nat.le_of_ble_eq_true rfl) k_b0 (sp_X8_good k_b0 ?_)
  refine r_if_ne (pc := 60) (tgt := 64) dX8_readCarrier_60 (by decide) (fun q => ?_) (fun q => ?_)
  · have q := b2i_nz q
    have K0 := K0.1 q
    refine r_aload_n (pc := 64) dX8_readCarrier_64 rfl ?_
    refine s_getR (pc := 65) dX8_readCarrier_65 fl_X8_16 rfl k_b0 g_b0_3 ?_
    refine r_bipush (pc := 68) (v := 54) dX8_readCarrier_68 (by decide) ?_
    refine r_aload_n (pc := 70) dX8_readCarrier_70 rfl ?_
    refine s_getR (pc := 71) dX8_readCarrier_71 fl_X8_16 rfl k_b0 g_b0_3 ?_
    refine r_iconst (pc := 74) (v := 1) dX8_readCarrier_74 (by decide) ?_
    obtain ⟨i_2, K0⟩ := K0
    refine s_iald (pc := 75) dX8_readCarrier_75 k_b0_3 i_2 ?_
    refine r_iadd (pc := 76) dX8_readCarrier_76 ?_
    refine r_iload_n (pc := 77) dX8_readCarrier_77 rfl ?_
    obtain ⟨i_3, K0⟩ := K0
    refine s_iast (pc := 78) dX8_readCarrier_78 k_b0_3 i_3 ?_
    refine r_aload_n (pc := 79) dX8_readCarrier_79 rfl ?_
    refine s_getR (pc := 80) dX8_readCarrier_80 fl_X8_16 rfl k_b0 g_b0_3 ?_
    refine r_iconst (pc := 83) (v := 1) dX8_readCarrier_83 (by decide) ?_
    refine r_dup2 (pc := 84) dX8_readCarrier_84 rfl rfl ?_
    refine s_iald (pc := 85) dX8_readCarrier_85 k_b0_3 i_2 ?_
    refine r_iconst (pc := 86) (v := 1) dX8_readCarrier_86 (by decide) ?_
    refine r_iadd (pc := 87) dX8_readCarrier_87 ?_
    refine s_iast (pc := 88) dX8_readCarrier_88 k_b0_3 i_2 ?_
    refine r_aload_n (pc := 89) dX8_readCarrier_89 rfl ?_
    refine s_VV (pc := 90) mX8_advance (ci := 8) (a := b0) (As := []) dX8_readCarrier_90 lk_X8_151 in_X8_advance mo_X8_advance ⟨by decide, rfl⟩ ⟨by decide, by decide⟩ (Nat.le_of_ble_eq_true rfl) k_b0 (mSV_mono K0 (fun y_4 K0 => ?_))
    exact r_le (L' := [some (.ref b0), some (.int l1)]) ⟨rfl, ⟨rfl, trivial⟩⟩ K0
  · have q := (b2i_z _).mp q
    have K0 := K0.2 q
    exact s_ret rfl dX8_readCarrier_63 K0
set_option maxHeartbeats 2000000 in
theorem v_X8_readCarrier_93 {K : Sh} {x : Cn} {Q : Cn → Prop} {b0 : Nat} {l1 : Int32}   (K0 : Q x) : GV mX8_readCarrier 93 [some (.ref b0), some (.int l1)] [] K x Q := by
  show mGM mX8_readCarrier 93 [some (.ref b0), some (.int l1)] [] (hp K x) (PV K Q)
  exact s_ret rfl dX8_readCarrier_93 K0
section
theorem sp_X8_readCarrier {x : Cn} {Q : Cn → Prop} {b : TT} {n p : Nat} {T : TT} {lim : Int32} {W C S A : Nat} (c : RQ x b n p T lim W C S A) (o9 : iw b n p 9) (k1 : okC1 b n p T C → ∀ y, QFr x y → RQ y b n (nxt b n 2 p) (caT T C (vnm b n (nxt b n 1 p))) lim W (C + 1) S A → Q y) (k0 : ¬ okC1 b n p T C → ∀ y, QFr x y → Bd y → Q y) : mSV mX8_readCarrier [.ref 717] KW x Q := by
  have M := c.m
  obtain ⟨h0, hw, h1, hc, h2, hs, h3, ha, h4⟩ := id c.2.2.2.2
  have b56 : ∀ y l1, Bd y → MRf y 719 → Q y → GV mX8_readCarrier 56 [some (.ref 717), some (.int l1)] [] KW y Q := fun y l1 h M k => v_X8_readCarrier_56 km M.2.2.1 km2 ⟨fun z => absurd z h, fun _ => k⟩
  have b31 : ∀ y l1, Bd y → MRf y 719 → Q y → GV mX8_readCarrier 31 [some (.ref 717), some (.int l1)] [] KW y Q := fun y l1 h M k => v_X8_readCarrier_31 km ⟨fun _ => b56 y l1 h M k, fun z => absurd z h⟩
  have b20 : ∀ y, Bd y → MRf y 719 → Q y → GV mX8_readCarrier 20 [some (.ref 717), none] [] KW y Q := fun y h M k => v_X8_readCarrier_20 km (sp_X8_passes_b (by omega) M.2.2.2.1 h (v_X8_readCarrier_26 km (sp_X8_nameHere_b h (b31 y 0 h M k))))
  refine v_X8_readCarrier_0 km M.2.2.1 km2 ?_
  have e1 : gi x 719 1 = nI C := by rw [c.2.2.2.1]; exact h1
  have eC : nI C = 8 ↔ C = 8 := nI_eq (a := C) (b := 8) (by omega) (by omega)
  rw [e1, eC]
  refine ⟨iv0 1 518 rfl (by omega) (by decide), fun z => ?_, fun z => sp_X8_errs (by decide) (fun y f h => b20 y h (M.tf f) (k0 (fun o => by have := o.1; omega) y f.q h))⟩
  refine v_X8_readCarrier_20 km (sp_X8_passes wj_9 c.1 (fun _ y1 f1 g1 => ?_) (fun o => absurd o9 o))
  have c1 := c.t f1.t g1
  have F1 : QFr x y1 := f1.q
  have M1 := c1.m
  refine v_X8_readCarrier_26 km (sp_X8_nameHere g1 (fun o1 => ?_) (fun o1 y f h => b31 y 0 h (M1.tf f) (k0 (fun o => o1 o.2.1) y (F1.tr f.q) h)))
  refine v_X8_readCarrier_31 km ⟨fun z => absurd g1.2.2.2 z, fun _ => sp_X8_findName M1 km2 (C := C) (by rw [c1.2.2.2.1]; exact h1) hc ?_⟩
  rw [c1.2.2.2.1]
  refine ⟨fun o2 => ?_, fun o2 => sp_X8_errs (by decide) (fun y f h => b56 y _ h (M1.tf f) (k0 (fun o => o2 o.2.2) y (F1.tr f.q) h))⟩
  have y1C : gi y1 719 1 = nI C := by rw [c1.2.2.2.1]; exact h1
  refine v_X8_readCarrier_56 km M1.2.2.1 km2 ⟨fun _ => ?_, fun z => absurd g1.2.2.2 z⟩
  have i54 : (54 : Int32) + nI C = nI (54 + C) := by rw [show (54 : Int32) = nI 54 from rfl, nI_add]
  rw [y1C, i54, nI_clamp (by omega), gi_ui, if_neg (by omega), y1C, ← nI_succ]
  refine ⟨iv0 1 518 rfl (by omega) (by decide), vp_in_nI (by omega) (by decide), ?_⟩
  have g2 : RG (ui (ui y1 719 (54 + C) (nI (vnm b n (tE b n p)))) 719 1 (nI (C + 1))) b n (tE b n p) := (g1.u (by omega)).u (by omega)
  have c2 : RQ (ui (ui y1 719 (54 + C) (nI (vnm b n (tE b n p)))) 719 1 (nI (C + 1))) b n (tE b n p) (caT T C (vnm b n (tE b n p))) lim W (C + 1) S A := by
    refine ⟨g2, by rw [gi_ui, if_neg (by omega), gi_ui, if_neg (by omega)]; exact c1.2.1, by rw [gi_ui, if_neg (by omega), gi_ui, if_neg (by omega)]; exact c1.2.2.1, by rw [gi_719, gi_719, c1.2.2.2.1]; rfl, ?_⟩
    have e : ∀ i, i < 54 → i ≠ 1 → caT T C (vnm b n (tE b n p)) i = T i := fun i hi h => by unfold caT; rw [uT_ne _ _ h, uT_ne _ _ (by omega)]
    exact ⟨(e 0 (by omega) (by omega)).trans h0, hw, by unfold caT; rw [uT_at], by omega, (e 2 (by omega) (by omega)).trans h2, hs, (e 3 (by omega) (by omega)).trans h3, ha, (e 4 (by omega) (by omega)).trans h4⟩
  exact ad_r g2 (fun y3 f3 g3 => v_X8_readCarrier_93 (k1 ⟨by omega, o1, o2⟩ y3 (((F1.u (by omega)).u (by omega)).tr f3.q) (c2.t f3.t g3)))
/-! who, when, which weeks -/
end
set_option maxHeartbeats 2000000 in
theorem v_X8_readCommon_0 {K : Sh} {x : Cn} {Q : Cn → Prop} {b0 : Nat}  (k_b0 : kk K b0 = some (8, 0)) (K0 : mSI mX8_nameHere [.ref b0] K x (fun r_2 y_1 => mSI mX8_findName [.ref b0, .int r_2] K y_1 (fun r_4 y_3 => GV mX8_readCommon 9 [some (.ref b0), some (.int r_4), none] [] K y_3 Q))) : mSV mX8_readCommon [.ref b0] K x Q := by
  refine s_V (by decide) (by simp [Value.category]) (Nat.le_of_ble_eq_true rfl) ?_
  show mGM mX8_readCommon 0 [some (.ref b0), none, none] [] (hp K x) (PV K Q)
  refine r_aload_n (pc := 0) dX8_readCommon_0 rfl ?_
  refine r_aload_n (pc := 1) dX8_readCommon_1 rfl ?_
  refine s_VI (pc := 2) mX8_nameHere (ci := 8) (a := b0) (As := []) dX8_readCommon_2 lk_X8_221 in_X8_nameHere mo_X8_nameHere ⟨by decide, rfl⟩ ⟨by decide, by decide⟩ (Nat.le_of_ble_eq_true rfl) k_b0 (mSI_mono K0 (fun r_2 y_1 K0 => ?_))
  refine s_VI (pc := 5) mX8_findName (ci := 8) (a := b0) (As := [.int r_2]) dX8_readCommon_5 lk_X8_224 in_X8_findName mo_X8_findName ⟨by decide, rfl⟩ ⟨by decide, by decide⟩ (Nat.le_of_ble_eq_true rfl) k_b0 (mSI_mono K0 (fun r_4 y_3 K0 => ?_))
  refine r_istore_n (pc := 8) dX8_readCommon_8 (by decide) ?_
  exact r_le (L' := [some (.ref b0), some (.int r_4), none]) ⟨rfl, ⟨rfl, trivial⟩⟩ K0
set_option maxHeartbeats 2000000 in
theorem v_X8_readCommon_9 {K : Sh} {x : Cn} {Q : Cn → Prop} {b0 : Nat} {l1 : Int32}  (k_b0 : kk K b0 = some (8, 0)) (K0 : (¬ (gi x b0 11 = 0) → (GV mX8_readCommon 30 [some (.ref b0), some (.int l1), none] [] K x Q)) ∧ ((gi x b0 11 = 0) → ((¬ l1 = (-1) → (GV mX8_readCommon 30 [some (.ref b0), some (.int l1), none] [] K x Q)) ∧ (l1 = (-1) → (mSV mX8_errs [.ref b0, .int 4, .int (gi x b0 8)] K x (fun y_3 => GV mX8_readCommon 30 [some (.ref b0), some (.int l1), none] [] K y_3 Q)))))) : GV mX8_readCommon 9 [some (.ref b0), some (.int l1), none] [] K x Q := by
  show mGM mX8_readCommon 9 [some (.ref b0), some (.int l1), none] [] (hp K x) (PV K Q)
  refine r_aload_n (pc := 9) dX8_readCommon_9 rfl ?_
  refine s_VI (pc := 10) mX8_good (ci := 8) (a := b0) (As := []) dX8_readCommon_10 lk_X8_104 in_X8_good mo_X8_good ⟨by decide, rfl⟩ ⟨by decide, by decide⟩ (Nat.le_of_ble_eq_true rfl) k_b0 (sp_X8_good k_b0 ?_)
  refine r_if_eq (pc := 13) (tgt := 30) dX8_readCommon_13 (by decide) (fun q => ?_) (fun q => ?_)
  · have q := (b2i_z _).mp q
    have K0 := K0.1 q
    exact r_le (L' := [some (.ref b0), some (.int l1), none]) ⟨rfl, ⟨rfl, trivial⟩⟩ K0
  · have q := b2i_nz q
    have K0 := K0.2 q
    refine r_iload_n (pc := 16) dX8_readCommon_16 rfl ?_
    refine r_iconst (pc := 17) (v := (-1)) dX8_readCommon_17 (by decide) ?_
    refine r_icmp_ne (pc := 18) (tgt := 30) dX8_readCommon_18 (by decide) (fun q => ?_) (fun q => ?_)
    · have K0 := K0.1 q
      exact r_le (L' := [some (.ref b0), some (.int l1), none]) ⟨rfl, ⟨rfl, trivial⟩⟩ K0
    · have K0 := K0.2 q
      refine r_aload_n (pc := 21) dX8_readCommon_21 rfl ?_
      refine r_iconst (pc := 22) (v := 4) dX8_readCommon_22 (by decide) ?_
      refine r_aload_n (pc := 23) dX8_readCommon_23 rfl ?_
      refine s_getI (pc := 24) dX8_readCommon_24 fl_X8_116 rfl k_b0 ?_
      refine s_VV (pc := 27) mX8_errs (ci := 8) (a := b0) (As := [.int 4, .int (gi x b0 8)]) dX8_readCommon_27 lk_X8_157 in_X8_errs mo_X8_errs ⟨by decide, rfl⟩ ⟨by decide, by decide⟩ (Nat.le_of_ble_eq_true rfl) k_b0 (mSV_mono K0 (fun y_3 K0 => ?_))
      exact r_le (L' := [some (.ref b0), some (.int l1), none]) ⟨rfl, ⟨rfl, trivial⟩⟩ K0
set_option maxHeartbeats 2000000 in
theorem v_X8_readCommon_30 {K : Sh} {x : Cn} {Q : Cn → Prop} {b0 : Nat} {l1 : Int32}  (k_b0 : kk K b0 = some (8, 0)) (K0 : (¬ (gi x b0 11 = 0) → (GV mX8_readCommon 41 [some (.ref b0), some (.int l1), none] [] K x Q)) ∧ ((gi x b0 11 = 0) → (mSV mX8_advance [.ref b0] K x (fun y_2 => GV mX8_readCommon 41 [some (.ref b0), some (.int l1), none] [] K y_2 Q)))) : GV mX8_readCommon 30 [some (.ref b0), some (.int l1), none] [] K x Q := by
  show mGM mX8_readCommon 30 [some (.ref b0), some (.int l1), none] [] (hp K x) (PV K Q)
  refine r_aload_n (pc := 30) dX8_readCommon_30 rfl ?_
  refine s_VI (pc := 31) mX8_good (ci := 8) (a := b0) (As := []) dX8_readCommon_31 lk_X8_104 in_X8_good mo_X8_good ⟨by decide, rfl⟩ ⟨by decide, by decide⟩ (Nat.le_of_ble_eq_true rfl) k_b0 (sp_X8_good k_b0 ?_)
  refine r_if_eq (pc := 34) (tgt := 41) dX8_readCommon_34 (by decide) (fun q => ?_) (fun q => ?_)
  · have q := (b2i_z _).mp q
    have K0 := K0.1 q
    exact r_le (L' := [some (.ref b0), some (.int l1), none]) ⟨rfl, ⟨rfl, trivial⟩⟩ K0
  · have q := b2i_nz q
    have K0 := K0.2 q
    refine r_aload_n (pc := 37) dX8_readCommon_37 rfl ?_
    refine s_VV (pc := 38) mX8_advance (ci := 8) (a := b0) (As := []) dX8_readCommon_38 lk_X8_151 in_X8_advance mo_X8_advance ⟨by decide, rfl⟩ ⟨by decide, by decide⟩ (Nat.le_of_ble_eq_true rfl) k_b0 (mSV_mono K0 (fun y_2 K0 => ?_))
    exact r_le (L' := [some (.ref b0), some (.int l1), none]) ⟨rfl, ⟨rfl, trivial⟩⟩ K0
set_option maxHeartbeats 2000000 in
theorem v_X8_readCommon_41 {K : Sh} {x : Cn} {Q : Cn → Prop} {b0 : Nat} {l1 : Int32}  (k_b0 : kk K b0 = some (8, 0)) (K0 : mSI mX8_dayHere [.ref b0] K x (fun r_2 y_1 => GV mX8_readCommon 46 [some (.ref b0), some (.int l1), some (.int r_2)] [] K y_1 Q)) : GV mX8_readCommon 41 [some (.ref b0), some (.int l1), none] [] K x Q := by
  show mGM mX8_readCommon 41 [some (.ref b0), some (.int l1), none] [] (hp K x) (PV K Q)
  refine r_aload_n (pc := 41) dX8_readCommon_41 rfl ?_
  refine s_VI (pc := 42) mX8_dayHere (ci := 8) (a := b0) (As := []) dX8_readCommon_42 lk_X8_182 in_X8_dayHere mo_X8_dayHere ⟨by decide, rfl⟩ ⟨by decide, by decide⟩ (Nat.le_of_ble_eq_true rfl) k_b0 (mSI_mono K0 (fun r_2 y_1 K0 => ?_))
  refine r_istore_n (pc := 45) dX8_readCommon_45 (by decide) ?_
  exact r_le (L' := [some (.ref b0), some (.int l1), some (.int r_2)]) ⟨rfl, ⟨rfl, ⟨rfl, trivial⟩⟩⟩ K0
set_option maxHeartbeats 2000000 in
theorem v_X8_readCommon_46 {K : Sh} {x : Cn} {Q : Cn → Prop} {b0 : Nat} {l1 : Int32} {l2 : Int32}  (k_b0 : kk K b0 = some (8, 0)) (K0 : (¬ l2 = (-1) → (GV mX8_readCommon 60 [some (.ref b0), some (.int l1), some (.int l2)] [] K x Q)) ∧ (l2 = (-1) → (mSV mX8_errs [.ref b0, .int 1, .int (gi x b0 8)] K x (fun y_2 => GV mX8_readCommon 60 [some (.ref b0), some (.int l1), some (.int l2)] [] K y_2 Q)))) : GV mX8_readCommon 46 [some (.ref b0), some (.int l1), some (.int l2)] [] K x Q := by
  show mGM mX8_readCommon 46 [some (.ref b0), some (.int l1), some (.int l2)] [] (hp K x) (PV K Q)
  refine r_iload_n (pc := 46) dX8_readCommon_46 rfl ?_
  refine r_iconst (pc := 47) (v := (-1)) dX8_readCommon_47 (by decide) ?_
  refine r_icmp_ne (pc := 48) (tgt := 60) dX8_readCommon_48 (by decide) (fun q => ?_) (fun q => ?_)
  · have K0 := K0.1 q
    exact r_le (L' := [some (.ref b0), some (.int l1), some (.int l2)]) ⟨rfl, ⟨rfl, ⟨rfl, trivial⟩⟩⟩ K0
  · have K0 := K0.2 q
    refine r_aload_n (pc := 51) dX8_readCommon_51 rfl ?_
    refine r_iconst (pc := 52) (v := 1) dX8_readCommon_52 (by decide) ?_
    refine r_aload_n (pc := 53) dX8_readCommon_53 rfl ?_
    refine s_getI (pc := 54) dX8_readCommon_54 fl_X8_116 rfl k_b0 ?_
    refine s_VV (pc := 57) mX8_errs (ci := 8) (a := b0) (As := [.int 1, .int (gi x b0 8)]) dX8_readCommon_57 lk_X8_157 in_X8_errs mo_X8_errs ⟨by decide, rfl⟩ ⟨by decide, by decide⟩ (Nat.le_of_ble_eq_true rfl) k_b0 (mSV_mono K0 (fun y_2 K0 => ?_))
    exact r_le (L' := [some (.ref b0), some (.int l1), some (.int l2)]) ⟨rfl, ⟨rfl, ⟨rfl, trivial⟩⟩⟩ K0
set_option maxHeartbeats 2000000 in
theorem v_X8_readCommon_60 {K : Sh} {x : Cn} {Q : Cn → Prop} {b0 : Nat} {l1 : Int32} {l2 : Int32}  (k_b0 : kk K b0 = some (8, 0)) (K0 : (¬ (gi x b0 11 = 0) → (GV mX8_readCommon 71 [some (.ref b0), some (.int l1), some (.int l2)] [] K x Q)) ∧ ((gi x b0 11 = 0) → (mSV mX8_advance [.ref b0] K x (fun y_2 => GV mX8_readCommon 71 [some (.ref b0), some (.int l1), some (.int l2)] [] K y_2 Q)))) : GV mX8_readCommon 60 [some (.ref b0), some (.int l1), some (.int l2)] [] K x Q := by
  show mGM mX8_readCommon 60 [some (.ref b0), some (.int l1), some (.int l2)] [] (hp K x) (PV K Q)
  refine r_aload_n (pc := 60) dX8_readCommon_60 rfl ?_
  refine s_VI (pc := 61) mX8_good (ci := 8) (a := b0) (As := []) dX8_readCommon_61 lk_X8_104 in_X8_good mo_X8_good ⟨by decide, rfl⟩ ⟨by decide, by decide⟩ (Nat.le_of_ble_eq_true rfl) k_b0 (sp_X8_good k_b0 ?_)
  refine r_if_eq (pc := 64) (tgt := 71) dX8_readCommon_64 (by decide) (fun q => ?_) (fun q => ?_)
  · have q := (b2i_z _).mp q
    have K0 := K0.1 q
    exact r_le (L' := [some (.ref b0), some (.int l1), some (.int l2)]) ⟨rfl, ⟨rfl, ⟨rfl, trivial⟩⟩⟩ K0
  · have q := b2i_nz q
    have K0 := K0.2 q
    refine r_aload_n (pc := 67) dX8_readCommon_67 rfl ?_
    refine s_VV (pc := 68) mX8_advance (ci := 8) (a := b0) (As := []) dX8_readCommon_68 lk_X8_151 in_X8_advance mo_X8_advance ⟨by decide, rfl⟩ ⟨by decide, by decide⟩ (Nat.le_of_ble_eq_true rfl) k_b0 (mSV_mono K0 (fun y_2 K0 => ?_))
    exact r_le (L' := [some (.ref b0), some (.int l1), some (.int l2)]) ⟨rfl, ⟨rfl, ⟨rfl, trivial⟩⟩⟩ K0
set_option maxHeartbeats 2000000 in
theorem v_X8_readCommon_71 {K : Sh} {x : Cn} {Q : Cn → Prop} {b0 : Nat} {l1 : Int32} {l2 : Int32} {b0_15 : Nat} {n_b0_15 : Nat} (k_b0 : kk K b0 = some (8, 0)) (g_b0_15 : gr x b0 15 = some b0_15) (k_b0_15 : kk K b0_15 = some (20, n_b0_15)) (K0 : vp_in 0 n_b0_15 ∧ (vp_in 1 n_b0_15 ∧ (mSI mX8_number [.ref b0, .int 0, .int 23] K (ui (ui x b0_15 0 l1) b0_15 1 l2) (fun r_4 y_3 => vp_in 2 n_b0_15 ∧ (GV mX8_readCommon 98 [some (.ref b0), some (.int l1), some (.int l2)] [] K (ui y_3 b0_15 2 r_4) Q))))) : GV mX8_readCommon 71 [some (.ref b0), some (.int l1), some (.int l2)] [] K x Q := by
  show mGM mX8_readCommon 71 [some (.ref b0), some (.int l1), some (.int l2)] [] (hp K x) (PV K Q)
  refine r_aload_n (pc := 71) dX8_readCommon_71 rfl ?_
  refine s_getR (pc := 72) dX8_readCommon_72 fl_X8_27 rfl k_b0 g_b0_15 ?_
  refine r_iconst (pc := 75) (v := 0) dX8_readCommon_75 (by decide) ?_
  refine r_iload_n (pc := 76) dX8_readCommon_76 rfl ?_
  obtain ⟨i_1, K0⟩ := K0
  refine s_iast (pc := 77) dX8_readCommon_77 k_b0_15 i_1 ?_
  refine r_aload_n (pc := 78) dX8_readCommon_78 rfl ?_
  refine s_getR (pc := 79) dX8_readCommon_79 fl_X8_27 rfl k_b0 g_b0_15 ?_
  refine r_iconst (pc := 82) (v := 1) dX8_readCommon_82 (by decide) ?_
  refine r_iload_n (pc := 83) dX8_readCommon_83 rfl ?_
  obtain ⟨i_2, K0⟩ := K0
  refine s_iast (pc := 84) dX8_readCommon_84 k_b0_15 i_2 ?_
  refine r_aload_n (pc := 85) dX8_readCommon_85 rfl ?_
  refine s_getR (pc := 86) dX8_readCommon_86 fl_X8_27 rfl k_b0 g_b0_15 ?_
  refine r_iconst (pc := 89) (v := 2) dX8_readCommon_89 (by decide) ?_
  refine r_aload_n (pc := 90) dX8_readCommon_90 rfl ?_
  refine r_iconst (pc := 91) (v := 0) dX8_readCommon_91 (by decide) ?_
  refine r_bipush (pc := 92) (v := 23) dX8_readCommon_92 (by decide) ?_
  refine s_VI (pc := 94) mX8_number (ci := 8) (a := b0) (As := [.int 0, .int 23]) dX8_readCommon_94 lk_X8_218 in_X8_number mo_X8_number ⟨by decide, rfl⟩ ⟨by decide, by decide⟩ (Nat.le_of_ble_eq_true rfl) k_b0 (mSI_mono K0 (fun r_4 y_3 K0 => ?_))
  obtain ⟨i_5, K0⟩ := K0
  refine s_iast (pc := 97) dX8_readCommon_97 k_b0_15 i_5 ?_
  exact r_le (L' := [some (.ref b0), some (.int l1), some (.int l2)]) ⟨rfl, ⟨rfl, ⟨rfl, trivial⟩⟩⟩ K0
set_option maxHeartbeats 2000000 in
theorem v_X8_readCommon_98 {K : Sh} {x : Cn} {Q : Cn → Prop} {b0 : Nat} {l1 : Int32} {l2 : Int32}  (k_b0 : kk K b0 = some (8, 0)) (K0 : (¬ (gi x b0 11 = 0) → (GV mX8_readCommon 132 [some (.ref b0), some (.int l1), some (.int l2)] [] K x Q)) ∧ ((gi x b0 11 = 0) → (mSI mX8_isWord [.ref b0, .ref (mSB + 13)] K x (fun r_3 y_2 => (¬ r_3 = 0 → (GV mX8_readCommon 132 [some (.ref b0), some (.int l1), some (.int l2)] [] K y_2 Q)) ∧ (r_3 = 0 → (mSI mX8_isWord [.ref b0, .ref (mSB + 24)] K y_2 (fun r_6 y_5 => (¬ r_6 = 0 → (GV mX8_readCommon 132 [some (.ref b0), some (.int l1), some (.int l2)] [] K y_5 Q)) ∧ (r_6 = 0 → (mSV mX8_errs [.ref b0, .int 1, .int (gi y_5 b0 8)] K y_5 (fun y_8 => GV mX8_readCommon 132 [some (.ref b0), some (.int l1), some (.int l2)] [] K y_8 Q)))))))))) : GV mX8_readCommon 98 [some (.ref b0), some (.int l1), some (.int l2)] [] K x Q := by
  show mGM mX8_readCommon 98 [some (.ref b0), some (.int l1), some (.int l2)] [] (hp K x) (PV K Q)
  refine r_aload_n (pc := 98) dX8_readCommon_98 rfl ?_
  refine s_VI (pc := 99) mX8_good (ci := 8) (a := b0) (As := []) dX8_readCommon_99 lk_X8_104 in_X8_good mo_X8_good ⟨by decide, rfl⟩ ⟨by decide, by decide⟩ (Nat.le_of_ble_eq_true rfl) k_b0 (sp_X8_good k_b0 ?_)
  refine r_if_eq (pc := 102) (tgt := 132) dX8_readCommon_102 (by decide) (fun q => ?_) (fun q => ?_)
  · have q := (b2i_z _).mp q
    have K0 := K0.1 q
    exact r_le (L' := [some (.ref b0), some (.int l1), some (.int l2)]) ⟨rfl, ⟨rfl, ⟨rfl, trivial⟩⟩⟩ K0
  · have q := b2i_nz q
    have K0 := K0.2 q
    refine r_aload_n (pc := 105) dX8_readCommon_105 rfl ?_
    refine r_ldcS (pc := 106) (j := 13) dX8_readCommon_106 rfl ?_
    refine s_VI (pc := 108) mX8_isWord (ci := 8) (a := b0) (As := [.ref (mSB + 13)]) dX8_readCommon_108 lk_X8_147 in_X8_isWord mo_X8_isWord ⟨by decide, rfl⟩ ⟨by decide, by decide⟩ (Nat.le_of_ble_eq_true rfl) k_b0 (mSI_mono K0 (fun r_3 y_2 K0 => ?_))
    refine r_if_ne (pc := 111) (tgt := 132) dX8_readCommon_111 (by decide) (fun q => ?_) (fun q => ?_)
    · have K0 := K0.1 q
      exact r_le (L' := [some (.ref b0), some (.int l1), some (.int l2)]) ⟨rfl, ⟨rfl, ⟨rfl, trivial⟩⟩⟩ K0
    · have K0 := K0.2 q
      refine r_aload_n (pc := 114) dX8_readCommon_114 rfl ?_
      refine r_ldcS (pc := 115) (j := 24) dX8_readCommon_115 rfl ?_
      refine s_VI (pc := 117) mX8_isWord (ci := 8) (a := b0) (As := [.ref (mSB + 24)]) dX8_readCommon_117 lk_X8_147 in_X8_isWord mo_X8_isWord ⟨by decide, rfl⟩ ⟨by decide, by decide⟩ (Nat.le_of_ble_eq_true rfl) k_b0 (mSI_mono K0 (fun r_6 y_5 K0 => ?_))
      refine r_if_ne (pc := 120) (tgt := 132) dX8_readCommon_120 (by decide) (fun q => ?_) (fun q => ?_)
      · have K0 := K0.1 q
        exact r_le (L' := [some (.ref b0), some (.int l1), some (.int l2)]) ⟨rfl, ⟨rfl, ⟨rfl, trivial⟩⟩⟩ K0
      · have K0 := K0.2 q
        refine r_aload_n (pc := 123) dX8_readCommon_123 rfl ?_
        refine r_iconst (pc := 124) (v := 1) dX8_readCommon_124 (by decide) ?_
        refine r_aload_n (pc := 125) dX8_readCommon_125 rfl ?_
        refine s_getI (pc := 126) dX8_readCommon_126 fl_X8_116 rfl k_b0 ?_
        refine s_VV (pc := 129) mX8_errs (ci := 8) (a := b0) (As := [.int 1, .int (gi y_5 b0 8)]) dX8_readCommon_129 lk_X8_157 in_X8_errs mo_X8_errs ⟨by decide, rfl⟩ ⟨by decide, by decide⟩ (Nat.le_of_ble_eq_true rfl) k_b0 (mSV_mono K0 (fun y_8 K0 => ?_))
        exact r_le (L' := [some (.ref b0), some (.int l1), some (.int l2)]) ⟨rfl, ⟨rfl, ⟨rfl, trivial⟩⟩⟩ K0
set_option maxHeartbeats 2000000 in
theorem v_X8_readCommon_132 {K : Sh} {x : Cn} {Q : Cn → Prop} {b0 : Nat} {l1 : Int32} {l2 : Int32} {b0_15 : Nat} {n_b0_15 : Nat} (k_b0 : kk K b0 = some (8, 0)) (g_b0_15 : gr x b0 15 = some b0_15) (k_b0_15 : kk K b0_15 = some (20, n_b0_15)) (K0 : mSI mX8_isWord [.ref b0, .ref (mSB + 24)] K x (fun r_2 y_1 => (r_2 = 0 → (vp_in 3 n_b0_15 ∧ ((¬ (gi (ui y_1 b0_15 3 0) b0 11 = 0) → (GV mX8_readCommon 163 [some (.ref b0), some (.int l1), some (.int l2)] [] K (ui y_1 b0_15 3 0) Q)) ∧ ((gi (ui y_1 b0_15 3 0) b0 11 = 0) → (mSV mX8_advance [.ref b0] K (ui y_1 b0_15 3 0) (fun y_6 => GV mX8_readCommon 163 [some (.ref b0), some (.int l1), some (.int l2)] [] K y_6 Q)))))) ∧ (¬ r_2 = 0 → (vp_in 3 n_b0_15 ∧ ((¬ (gi (ui y_1 b0_15 3 1) b0 11 = 0) → (GV mX8_readCommon 163 [some (.ref b0), some (.int l1), some (.int l2)] [] K (ui y_1 b0_15 3 1) Q)) ∧ ((gi (ui y_1 b0_15 3 1) b0 11 = 0) → (mSV mX8_advance [.ref b0] K (ui y_1 b0_15 3 1) (fun y_9 => GV mX8_readCommon 163 [some (.ref b0), some (.int l1), some (.int l2)] [] K y_9 Q)))))))) : GV mX8_readCommon 132 [some (.ref b0), some (.int l1), some (.int l2)] [] K x Q := by
  show mGM mX8_readCommon 132 [some (.ref b0), some (.int l1), some (.int l2)] [] (hp K x) (PV K Q)
  refine r_aload_n (pc := 132) dX8_readCommon_132 rfl ?_
  refine s_getR (pc := 133) dX8_readCommon_133 fl_X8_27 rfl k_b0 g_b0_15 ?_
  refine r_iconst (pc := 136) (v := 3) dX8_readCommon_136 (by decide) ?_
  refine r_aload_n (pc := 137) dX8_readCommon_137 rfl ?_
  refine r_ldcS (pc := 138) (j := 24) dX8_readCommon_138 rfl ?_
  refine s_VI (pc := 140) mX8_isWord (ci := 8) (a := b0) (As := [.ref (mSB + 24)]) dX8_readCommon_140 lk_X8_147 in_X8_isWord mo_X8_isWord ⟨by decide, rfl⟩ ⟨by decide, by decide⟩ (Nat.le_of_ble_eq_true rfl) k_b0 (mSI_mono K0 (fun r_2 y_1 K0 => ?_))
  refine r_if_eq (pc := 143) (tgt := 150) dX8_readCommon_143 (by decide) (fun q => ?_) (fun q => ?_)
  · have K0 := K0.1 q
    refine r_iconst (pc := 150) (v := 0) dX8_readCommon_150 (by decide) ?_
    obtain ⟨i_4, K0⟩ := K0
    refine s_iast (pc := 151) dX8_readCommon_151 k_b0_15 i_4 ?_
    refine r_aload_n (pc := 152) dX8_readCommon_152 rfl ?_
    refine s_VI (pc := 153) mX8_good (ci := 8) (a := b0) (As := []) dX8_readCommon_153 lk_X8_104 in_X8_good mo_X8_good ⟨by decide, rfl⟩ ⟨by decide, by decide⟩ (Nat.le_of_ble_eq_true rfl) k_b0 (sp_X8_good k_b0 ?_)
    refine r_if_eq (pc := 156) (tgt := 163) dX8_readCommon_156 (by decide) (fun q => ?_) (fun q => ?_)
    · have q := (b2i_z _).mp q
      have K0 := K0.1 q
      exact r_le (L' := [some (.ref b0), some (.int l1), some (.int l2)]) ⟨rfl, ⟨rfl, ⟨rfl, trivial⟩⟩⟩ K0
    · have q := b2i_nz q
      have K0 := K0.2 q
      refine r_aload_n (pc := 159) dX8_readCommon_159 rfl ?_
      refine s_VV (pc := 160) mX8_advance (ci := 8) (a := b0) (As := []) dX8_readCommon_160 lk_X8_151 in_X8_advance mo_X8_advance ⟨by decide, rfl⟩ ⟨by decide, by decide⟩ (Nat.le_of_ble_eq_true rfl) k_b0 (mSV_mono K0 (fun y_6 K0 => ?_))
      exact r_le (L' := [some (.ref b0), some (.int l1), some (.int l2)]) ⟨rfl, ⟨rfl, ⟨rfl, trivial⟩⟩⟩ K0
  · have K0 := K0.2 q
    refine r_iconst (pc := 146) (v := 1) dX8_readCommon_146 (by decide) ?_
    refine r_goto (pc := 147) (tgt := 151) dX8_readCommon_147 (by decide) ?_
    obtain ⟨i_7, K0⟩ := K0
    refine s_iast (pc := 151) dX8_readCommon_151 k_b0_15 i_7 ?_
    refine r_aload_n (pc := 152) dX8_readCommon_152 rfl ?_
    refine s_VI (pc := 153) mX8_good (ci := 8) (a := b0) (As := []) dX8_readCommon_153 lk_X8_104 in_X8_good mo_X8_good ⟨by decide, rfl⟩ ⟨by decide, by decide⟩ (Nat.le_of_ble_eq_true rfl) k_b0 (sp_X8_good k_b0 ?_)
    refine r_if_eq (pc := 156) (tgt := 163) dX8_readCommon_156 (by decide) (fun q => ?_) (fun q => ?_)
    · have q := (b2i_z _).mp q
      have K0 := K0.1 q
      exact r_le (L' := [some (.ref b0), some (.int l1), some (.int l2)]) ⟨rfl, ⟨rfl, ⟨rfl, trivial⟩⟩⟩ K0
    · have q := b2i_nz q
      have K0 := K0.2 q
      refine r_aload_n (pc := 159) dX8_readCommon_159 rfl ?_
      refine s_VV (pc := 160) mX8_advance (ci := 8) (a := b0) (As := []) dX8_readCommon_160 lk_X8_151 in_X8_advance mo_X8_advance ⟨by decide, rfl⟩ ⟨by decide, by decide⟩ (Nat.le_of_ble_eq_true rfl) k_b0 (mSV_mono K0 (fun y_9 K0 => ?_))
      exact r_le (L' := [some (.ref b0), some (.int l1), some (.int l2)]) ⟨rfl, ⟨rfl, ⟨rfl, trivial⟩⟩⟩ K0
set_option maxHeartbeats 2000000 in
theorem v_X8_readCommon_163 {K : Sh} {x : Cn} {Q : Cn → Prop} {b0 : Nat} {l1 : Int32} {l2 : Int32} {b0_15 : Nat} {b0_3 : Nat} {n_b0_3 : Nat} {n_b0_15 : Nat} (k_b0 : kk K b0 = some (8, 0)) (g_b0_15 : gr x b0 15 = some b0_15) (g_b0_3 : gr x b0 3 = some b0_3) (k_b0_3 : kk K b0_3 = some (20, n_b0_3)) (k_b0_15 : kk K b0_15 = some (20, n_b0_15)) (K0 : vp_in 0 n_b0_3 ∧ (mSI mX8_number [.ref b0, .int 0, .int ((gi x b0_3 0) - 1)] K x (fun r_3 y_2 => vp_in 4 n_b0_15 ∧ (GV mX8_readCommon 182 [some (.ref b0), some (.int l1), some (.int l2)] [] K (ui y_2 b0_15 4 r_3) Q)))) : GV mX8_readCommon 163 [some (.ref b0), some (.int l1), some (.int l2)] [] K x Q := by
  show mGM mX8_readCommon 163 [some (.ref b0), some (.int l1), some (.int l2)] [] (hp K x) (PV K Q)
  refine r_aload_n (pc := 163) dX8_readCommon_163 rfl ?_
  refine s_getR (pc := 164) dX8_readCommon_164 fl_X8_27 rfl k_b0 g_b0_15 ?_
  refine r_iconst (pc := 167) (v := 4) dX8_readCommon_167 (by decide) ?_
  refine r_aload_n (pc := 168) dX8_readCommon_168 rfl ?_
  refine r_iconst (pc := 169) (v := 0) dX8_readCommon_169 (by decide) ?_
  refine r_aload_n (pc := 170) dX8_readCommon_170 rfl ?_
  refine s_getR (pc := 171) dX8_readCommon_171 fl_X8_16 rfl k_b0 g_b0_3 ?_
  refine r_iconst (pc := 174) (v := 0) dX8_readCommon_174 (by decide) ?_
  obtain ⟨i_1, K0⟩ := K0
  refine s_iald (pc := 175) dX8_readCommon_175 k_b0_3 i_1 ?_
  refine r_iconst (pc := 176) (v := 1) dX8_readCommon_176 (by decide) ?_
  refine r_isub (pc := 177) dX8_readCommon_177 ?_
  refine s_VI (pc := 178) mX8_number (ci := 8) (a := b0) (As := [.int 0, .int ((gi x b0_3 0) - 1)]) dX8_readCommon_178 lk_X8_218 in_X8_number mo_X8_number ⟨by decide, rfl⟩ ⟨by decide, by decide⟩ (Nat.le_of_ble_eq_true rfl) k_b0 (mSI_mono K0 (fun r_3 y_2 K0 => ?_))
  obtain ⟨i_4, K0⟩ := K0
  refine s_iast (pc := 181) dX8_readCommon_181 k_b0_15 i_4 ?_
  exact r_le (L' := [some (.ref b0), some (.int l1), some (.int l2)]) ⟨rfl, ⟨rfl, ⟨rfl, trivial⟩⟩⟩ K0
set_option maxHeartbeats 2000000 in
theorem v_X8_readCommon_182 {K : Sh} {x : Cn} {Q : Cn → Prop} {b0 : Nat} {l1 : Int32} {l2 : Int32}  (k_b0 : kk K b0 = some (8, 0)) (K0 : mSV mX8_passesByte [.ref b0, .int 45] K x (fun y_1 => GV mX8_readCommon 188 [some (.ref b0), some (.int l1), some (.int l2)] [] K y_1 Q)) : GV mX8_readCommon 182 [some (.ref b0), some (.int l1), some (.int l2)] [] K x Q := by
  show mGM mX8_readCommon 182 [some (.ref b0), some (.int l1), some (.int l2)] [] (hp K x) (PV K Q)
  refine r_aload_n (pc := 182) dX8_readCommon_182 rfl ?_
  refine r_bipush (pc := 183) (v := 45) dX8_readCommon_183 (by decide) ?_
  refine s_VV (pc := 185) mX8_passesByte (ci := 8) (a := b0) (As := [.int 45]) dX8_readCommon_185 lk_X8_227 in_X8_passesByte mo_X8_passesByte ⟨by decide, rfl⟩ ⟨by decide, by decide⟩ (Nat.le_of_ble_eq_true rfl) k_b0 (mSV_mono K0 (fun y_1 K0 => ?_))
  exact r_le (L' := [some (.ref b0), some (.int l1), some (.int l2)]) ⟨rfl, ⟨rfl, ⟨rfl, trivial⟩⟩⟩ K0
set_option maxHeartbeats 2000000 in
theorem v_X8_readCommon_188 {K : Sh} {x : Cn} {Q : Cn → Prop} {b0 : Nat} {l1 : Int32} {l2 : Int32} {b0_15 : Nat} {n_b0_15 : Nat} {b0_3 : Nat} {n_b0_3 : Nat} (k_b0 : kk K b0 = some (8, 0)) (g_b0_15 : gr x b0 15 = some b0_15) (k_b0_15 : kk K b0_15 = some (20, n_b0_15)) (g_b0_3 : gr x b0 3 = some b0_3) (k_b0_3 : kk K b0_3 = some (20, n_b0_3)) (K0 : vp_in 4 n_b0_15 ∧ (vp_in 0 n_b0_3 ∧ (mSI mX8_number [.ref b0, .int ((gi x b0_15 4) + 4), .int ((gi x b0_3 0) - 1)] K x (fun r_4 y_3 => vp_in 5 n_b0_15 ∧ (GV mX8_readCommon 214 [some (.ref b0), some (.int l1), some (.int l2)] [] K (ui y_3 b0_15 5 r_4) Q))))) : GV mX8_readCommon 188 [some (.ref b0), some (.int l1), some (.int l2)] [] K x Q := by
  show mGM mX8_readCommon 188 [some (.ref b0), some (.int l1), some (.int l2)] [] (hp K x) (PV K Q)
  refine r_aload_n (pc := 188) dX8_readCommon_188 rfl ?_
  refine s_getR (pc := 189) dX8_readCommon_189 fl_X8_27 rfl k_b0 g_b0_15 ?_
  refine r_iconst (pc := 192) (v := 5) dX8_readCommon_192 (by decide) ?_
  refine r_aload_n (pc := 193) dX8_readCommon_193 rfl ?_
  refine r_aload_n (pc := 194) dX8_readCommon_194 rfl ?_
  refine s_getR (pc := 195) dX8_readCommon_195 fl_X8_27 rfl k_b0 g_b0_15 ?_
  refine r_iconst (pc := 198) (v := 4) dX8_readCommon_198 (by decide) ?_
  obtain ⟨i_1, K0⟩ := K0
  refine s_iald (pc := 199) dX8_readCommon_199 k_b0_15 i_1 ?_
  refine r_iconst (pc := 200) (v := 4) dX8_readCommon_200 (by decide) ?_
  refine r_iadd (pc := 201) dX8_readCommon_201 ?_
  refine r_aload_n (pc := 202) dX8_readCommon_202 rfl ?_
  refine s_getR (pc := 203) dX8_readCommon_203 fl_X8_16 rfl k_b0 g_b0_3 ?_
  refine r_iconst (pc := 206) (v := 0) dX8_readCommon_206 (by decide) ?_
  obtain ⟨i_2, K0⟩ := K0
  refine s_iald (pc := 207) dX8_readCommon_207 k_b0_3 i_2 ?_
  refine r_iconst (pc := 208) (v := 1) dX8_readCommon_208 (by decide) ?_
  refine r_isub (pc := 209) dX8_readCommon_209 ?_
  refine s_VI (pc := 210) mX8_number (ci := 8) (a := b0) (As := [.int ((gi x b0_15 4) + 4), .int ((gi x b0_3 0) - 1)]) dX8_readCommon_210 lk_X8_218 in_X8_number mo_X8_number ⟨by decide, rfl⟩ ⟨by decide, by decide⟩ (Nat.le_of_ble_eq_true rfl) k_b0 (mSI_mono K0 (fun r_4 y_3 K0 => ?_))
  obtain ⟨i_5, K0⟩ := K0
  refine s_iast (pc := 213) dX8_readCommon_213 k_b0_15 i_5 ?_
  exact r_le (L' := [some (.ref b0), some (.int l1), some (.int l2)]) ⟨rfl, ⟨rfl, ⟨rfl, trivial⟩⟩⟩ K0
set_option maxHeartbeats 2000000 in
theorem v_X8_readCommon_214 {K : Sh} {x : Cn} {Q : Cn → Prop} {b0 : Nat} {l1 : Int32} {l2 : Int32}   (K0 : Q x) : GV mX8_readCommon 214 [some (.ref b0), some (.int l1), some (.int l2)] [] K x Q := by
  show mGM mX8_readCommon 214 [some (.ref b0), some (.int l1), some (.int l2)] [] (hp K x) (PV K Q)
  exact s_ret rfl dX8_readCommon_214 K0
section
theorem lp_X8_readCommon_b {x : Cn} {Q : Cn → Prop} (h : Bd x) (M : MRf x 719) (k : ∀ y, EQx x y 721 → Q y) : (∀ y l1 l2, EQx x y 721 → GV mX8_readCommon 214 [some (.ref 717), some (.int l1), some (.int l2)] [] KW y Q) ∧ (∀ y l1 l2, EQx x y 721 → GV mX8_readCommon 188 [some (.ref 717), some (.int l1), some (.int l2)] [] KW y Q) ∧ (∀ y l1 l2, EQx x y 721 → GV mX8_readCommon 182 [some (.ref 717), some (.int l1), some (.int l2)] [] KW y Q) ∧ (∀ y l1 l2, EQx x y 721 → GV mX8_readCommon 163 [some (.ref 717), some (.int l1), some (.int l2)] [] KW y Q) ∧ (∀ y l1 l2, EQx x y 721 → GV mX8_readCommon 132 [some (.ref 717), some (.int l1), some (.int l2)] [] KW y Q) ∧ (∀ y l1 l2, EQx x y 721 → GV mX8_readCommon 98 [some (.ref 717), some (.int l1), some (.int l2)] [] KW y Q) ∧ (∀ y l1 l2, EQx x y 721 → GV mX8_readCommon 71 [some (.ref 717), some (.int l1), some (.int l2)] [] KW y Q) ∧ (∀ y l1 l2, EQx x y 721 → GV mX8_readCommon 60 [some (.ref 717), some (.int l1), some (.int l2)] [] KW y Q) ∧ (∀ y l1, EQx x y 721 → GV mX8_readCommon 30 [some (.ref 717), some (.int l1), none] [] KW y Q) ∧ (∀ y l1, EQx x y 721 → GV mX8_readCommon 9 [some (.ref 717), some (.int l1), none] [] KW y Q) := by
  have hb : ∀ y, EQx x y 721 → Bd y := fun y f => by unfold Bd; rw [f.2 717 11 (by omega)]; exact h
  have hM : ∀ y, EQx x y 721 → MRf y 719 := fun y f => M.keep f.1
  have i7 : ∀ k : Nat, k < 7 → vp_in (nI k) 7 := fun k hk => vp_in_nI hk (by decide)
  have a214 : ∀ y l1 l2, EQx x y 721 → GV mX8_readCommon 214 [some (.ref 717), some (.int l1), some (.int l2)] [] KW y Q := fun y l1 l2 f => v_X8_readCommon_214 (k y f)
  have a188 : ∀ y l1 l2, EQx x y 721 → GV mX8_readCommon 188 [some (.ref 717), some (.int l1), some (.int l2)] [] KW y Q := fun y l1 l2 f => v_X8_readCommon_188 km (hM y f).2.2.2.2.1 km721 (hM y f).2.2.1 km2 ⟨i7 4 (by omega), iv0 0 518 rfl (by omega) (by decide), sp_X8_number_b (hb y f) ⟨i7 5 (by omega), a214 _ _ _ f.ui⟩⟩
  have a182 : ∀ y l1 l2, EQx x y 721 → GV mX8_readCommon 182 [some (.ref 717), some (.int l1), some (.int l2)] [] KW y Q := fun y l1 l2 f => v_X8_readCommon_182 km (sp_X8_passesByte_b (hb y f) (a188 _ _ _ f))
  have a163 : ∀ y l1 l2, EQx x y 721 → GV mX8_readCommon 163 [some (.ref 717), some (.int l1), some (.int l2)] [] KW y Q := fun y l1 l2 f => v_X8_readCommon_163 km (hM y f).2.2.2.2.1 (hM y f).2.2.1 km2 km721 ⟨iv0 0 518 rfl (by omega) (by decide), sp_X8_number_b (hb y f) ⟨i7 4 (by omega), a182 _ _ _ f.ui⟩⟩
  have a132 : ∀ y l1 l2, EQx x y 721 → GV mX8_readCommon 132 [some (.ref 717), some (.int l1), some (.int l2)] [] KW y Q := fun y l1 l2 f => v_X8_readCommon_132 km (hM y f).2.2.2.2.1 km721 (sp_X8_isWord_b (by omega) (hM y f).2.2.2.1 (hb y f) ⟨fun _ => ⟨i7 3 (by omega), fun _ => a163 _ _ _ f.ui, fun z => absurd z (hb _ f.ui)⟩, fun z => absurd rfl z⟩)
  have a98 : ∀ y l1 l2, EQx x y 721 → GV mX8_readCommon 98 [some (.ref 717), some (.int l1), some (.int l2)] [] KW y Q := fun y l1 l2 f => v_X8_readCommon_98 km ⟨fun _ => a132 _ _ _ f, fun z => absurd z (hb y f)⟩
  have a71 : ∀ y l1 l2, EQx x y 721 → GV mX8_readCommon 71 [some (.ref 717), some (.int l1), some (.int l2)] [] KW y Q := fun y l1 l2 f => v_X8_readCommon_71 km (hM y f).2.2.2.2.1 km721 ⟨i7 0 (by omega), i7 1 (by omega), sp_X8_number_b (hb _ f.ui.ui) ⟨i7 2 (by omega), a98 _ _ _ f.ui.ui.ui⟩⟩
  have a60 : ∀ y l1 l2, EQx x y 721 → GV mX8_readCommon 60 [some (.ref 717), some (.int l1), some (.int l2)] [] KW y Q := fun y l1 l2 f => v_X8_readCommon_60 km ⟨fun _ => a71 _ _ _ f, fun z => absurd z (hb y f)⟩
  have a46 : ∀ y l1 l2, EQx x y 721 → GV mX8_readCommon 46 [some (.ref 717), some (.int l1), some (.int l2)] [] KW y Q := fun y l1 l2 f => v_X8_readCommon_46 km ⟨fun _ => a60 _ _ _ f, fun _ => sp_X8_errs_b (hb y f) (a60 _ _ _ f)⟩
  have a30 : ∀ y l1, EQx x y 721 → GV mX8_readCommon 30 [some (.ref 717), some (.int l1), none] [] KW y Q := fun y l1 f => v_X8_readCommon_30 km ⟨fun _ => v_X8_readCommon_41 km (sp_X8_dayHere_b (hM y f).2.2.2.1 (hb y f) (a46 _ _ _ f)), fun z => absurd z (hb y f)⟩
  exact ⟨a214, a188, a182, a163, a132, a98, a71, a60, a30, fun y l1 f => v_X8_readCommon_9 km ⟨fun _ => a30 _ _ f, fun z => absurd z (hb y f)⟩⟩
def ROc (y : Cn) (b : TT) (n q : Nat) (T : TT) (C : Nat) : Prop := gi y 721 0 = fnd T C (vnm b n q) ∧ gi y 721 1 = wnp b n (nxt b n 1 q) ∧ gi y 721 2 = nI (tV b n (nxt b n 2 q)) ∧ gi y 721 3 = wyo b n (nxt b n 3 q) ∧ gi y 721 4 = nI (tV b n (nxt b n 4 q)) ∧ gi y 721 5 = nI (tV b n (nxt b n 6 q))
theorem RQ.u1 {x : Cn} {b : TT} {n p k : Nat} {v : Int32} {T : TT} {lim : Int32} {W C S A : Nat} (c : RQ x b n p T lim W C S A) : RQ (ui x 721 k v) b n p T lim W C S A := ⟨c.1.u (by omega), by rw [gi_ui, if_neg (by omega)]; exact c.2.1, by rw [gi_ui, if_neg (by omega)]; exact c.2.2.1, (funext fun i => by rw [gi_ui, if_neg (by omega)]).trans c.2.2.2.1, c.2.2.2.2⟩
theorem EQx.q1 {x y : Cn} (h : EQx x y 721) : QFr x y := ⟨h.1, fun a k hk => h.2 a k (by omega)⟩
theorem EQx.bd {x y : Cn} (h : EQx x y 721) (b : Bd x) : Bd y := by
  unfold Bd
  rw [h.2 717 11 (by omega)]
  exact b
theorem sp_X8_readCommon_b {x : Cn} {Q : Cn → Prop} {C : Nat} (h : Bd x) (M : MRf x 719) (h1 : gi x 719 1 = nI C) (hC : C ≤ 8) (k : ∀ y, EQx x y 721 → Q y) : mSV mX8_readCommon [.ref 717] KW x Q :=
  v_X8_readCommon_0 km (sp_X8_nameHere_b h (sp_X8_findName (v := 0) M km2 h1 hC ((lp_X8_readCommon_b h M k).2.2.2.2.2.2.2.2.2 x _ (EQx.rf x 721))))
theorem sp_X8_readCommon {x : Cn} {Q : Cn → Prop} {b : TT} {n q : Nat} {T : TT} {lim : Int32} {W C S A : Nat} (c : RQ x b n q T lim W C S A) (k1 : okP b n q T C → okN b n (nxt b n 4 q) W → ∀ y, QFr x y → RQ y b n (nxt b n 7 q) T lim W C S A → ROc y b n q T C → Q y) (k0 : ¬ (okP b n q T C ∧ okN b n (nxt b n 4 q) W) → ∀ y, QFr x y → Bd y → Q y) : mSV mX8_readCommon [.ref 717] KW x Q := by
  have M := c.m
  obtain ⟨h0, hw, h1, hc, h2, hs, h3, ha, h4⟩ := id c.2.2.2.2
  have i7 : ∀ k : Nat, k < 7 → vp_in (nI k) 7 := fun k hk => vp_in_nI hk (by decide)
  have kb : ¬ (okP b n q T C ∧ okN b n (nxt b n 4 q) W) → ∀ u, QFr x u → Bd u → ∀ y, EQx u y 721 → Q y := fun o u F h y f => k0 o y (F.tr f.q1) (f.bd h)
  refine v_X8_readCommon_0 km (sp_X8_nameHere c.1 (fun o1 => ?_) (fun o1 u f h => ?_))
  rotate_left
  · refine sp_X8_findName (v := 0) (M.tf f) km2 (C := C) (by rw [f.2 719 1 (by omega), c.2.2.2.1]; exact h1) hc ?_
    exact (lp_X8_readCommon_b h (M.tf f) (kb (fun o => o1 o.1.1) u f.q h)).2.2.2.2.2.2.2.2.2 u _ (EQx.rf u 721)
  refine sp_X8_findName M km2 (C := C) (by rw [c.2.2.2.1]; exact h1) hc ?_
  rw [c.2.2.2.1]
  refine v_X8_readCommon_9 km ⟨fun z => absurd c.1.2.2.2 z, fun _ => ⟨fun o2 => ?_, fun o2 => sp_X8_errs (by decide) (fun u f h => (lp_X8_readCommon_b h (M.tf f) (kb (fun o => o.1.2.1 o2) u f.q h)).2.2.2.2.2.2.2.2.1 u _ (EQx.rf u 721))⟩⟩
  refine v_X8_readCommon_30 km ⟨fun z => absurd c.1.2.2.2 z, fun _ => ad_r c.1 (fun y1 f1 g1 => ?_)⟩
  have c1 := c.t f1.t g1
  have F1 : QFr x y1 := f1.q
  refine v_X8_readCommon_41 km (sp_X8_dayHere g1 (fun d hd o3 => ?_) (fun o3 => ?_))
  rotate_left
  · refine v_X8_readCommon_46 km ⟨fun z => absurd rfl z, fun _ => sp_X8_errs (by decide) (fun u f h => (lp_X8_readCommon_b h (c1.m.tf f) (kb (fun o => by obtain ⟨d, hd, w⟩ := o.1.2.2.1; exact o3 d hd w) u (F1.tr f.q) h)).2.2.2.2.2.2.2.1 u _ _ (EQx.rf u 721))⟩
  have ed : nI d = wnp b n (nxt b n 1 q) := o3.2.symm
  have o3' : ∃ d, d < 7 ∧ iw b n (nxt b n 1 q) d := ⟨d, hd, o3⟩
  refine v_X8_readCommon_46 km ⟨fun _ => ?_, fun z => absurd (show (-1 : Int32) < 0 by decide) (by rw [← z]; exact nI_pos (by omega))⟩
  refine v_X8_readCommon_60 km ⟨fun z => absurd g1.2.2.2 z, fun _ => ad_r g1 (fun y2 f2 g2 => ?_)⟩
  have c2 := c1.t f2.t g2
  have F2 := F1.tr f2.q
  refine v_X8_readCommon_71 km c2.m.2.2.2.2.1 km721 ⟨i7 0 (by omega), i7 1 (by omega), ?_⟩
  have c2' := (c2.u1 (k := 0) (v := fnd T C (vnm b n q))).u1 (k := 1) (v := nI d)
  have F2' : QFr x (ui (ui y2 721 0 (fnd T C (vnm b n q))) 721 1 (nI d)) := (F2.u (by omega)).u (by omega)
  have r2 : gi (ui (ui y2 721 0 (fnd T C (vnm b n q))) 721 1 (nI d)) 721 0 = fnd T C (vnm b n q) ∧ gi (ui (ui y2 721 0 (fnd T C (vnm b n q))) 721 1 (nI d)) 721 1 = wnp b n (nxt b n 1 q) := ⟨by rw [gi_ui, if_neg (by omega), gi_ui, if_pos ⟨rfl, rfl⟩], by rw [gi_ui, if_pos ⟨rfl, rfl⟩]; exact ed⟩
  generalize ui (ui y2 721 0 (fnd T C (vnm b n q))) 721 1 (nI d) = u2 at c2' F2' r2
  refine sp_X8_number (lo := 0) (hi := 23) (by omega) (by omega) c2'.1 (fun o4 y3 f3 g3 => ⟨i7 2 (by omega), ?_⟩) (fun o4 u f h => ⟨i7 2 (by omega), (lp_X8_readCommon_b h (c2'.m.tf f) (kb (fun o => o4 o.1.2.2.2.1) u (F2'.tr f.q) h)).2.2.2.2.2.1 _ _ _ (EQx.rf u 721).ui⟩)
  have c3 := (c2'.t f3.t g3).u1 (k := 2) (v := nI (tV b n (nxt b n 2 q)))
  have F3 : QFr x (ui y3 721 2 (nI (tV b n (nxt b n 2 q)))) := (F2'.tr f3.q).u (by omega)
  have r3 : gi (ui y3 721 2 (nI (tV b n (nxt b n 2 q)))) 721 0 = fnd T C (vnm b n q) ∧ gi (ui y3 721 2 (nI (tV b n (nxt b n 2 q)))) 721 1 = wnp b n (nxt b n 1 q) ∧ gi (ui y3 721 2 (nI (tV b n (nxt b n 2 q)))) 721 2 = nI (tV b n (nxt b n 2 q)) := ⟨by rw [gi_ui, if_neg (by omega)]; exact (f3.2 721 0 (by omega)).trans r2.1, by rw [gi_ui, if_neg (by omega)]; exact (f3.2 721 1 (by omega)).trans r2.2, by rw [gi_ui, if_pos ⟨rfl, rfl⟩]⟩
  show GV mX8_readCommon 98 [some (.ref 717), some (.int (fnd T C (vnm b n q))), some (.int (nI d))] [] KW (ui y3 721 2 (nI (tV b n (nxt b n 2 q)))) Q
  generalize ui y3 721 2 (nI (tV b n (nxt b n 2 q))) = u3 at c3 F3 r3
  have c3 : RQ u3 b n (nxt b n 3 q) T lim W C S A := c3
  have go : (iw b n (nxt b n 3 q) 12 ∨ iw b n (nxt b n 3 q) 13) → GV mX8_readCommon 132 [some (.ref 717), some (.int (fnd T C (vnm b n q))), some (.int (nI d))] [] KW u3 Q := by
    intro o5
    have okp : okP b n q T C := ⟨o1, o2, o3', o4, o5⟩
    have go2 : ∀ v, v = wyo b n (nxt b n 3 q) → (¬ gi (ui u3 721 3 v) 717 11 = 0 → GV mX8_readCommon 163 [some (.ref 717), some (.int (fnd T C (vnm b n q))), some (.int (nI d))] [] KW (ui u3 721 3 v) Q) ∧ (gi (ui u3 721 3 v) 717 11 = 0 → mSV mX8_advance [.ref 717] KW (ui u3 721 3 v) (fun y => GV mX8_readCommon 163 [some (.ref 717), some (.int (fnd T C (vnm b n q))), some (.int (nI d))] [] KW y Q)) := by
      intro v hv
      have c4 := c3.u1 (k := 3) (v := v)
      have F4 : QFr x (ui u3 721 3 v) := F3.u (by omega)
      have r4 : gi (ui u3 721 3 v) 721 0 = fnd T C (vnm b n q) ∧ gi (ui u3 721 3 v) 721 1 = wnp b n (nxt b n 1 q) ∧ gi (ui u3 721 3 v) 721 2 = nI (tV b n (nxt b n 2 q)) ∧ gi (ui u3 721 3 v) 721 3 = wyo b n (nxt b n 3 q) := ⟨by rw [gi_ui, if_neg (by omega)]; exact r3.1, by rw [gi_ui, if_neg (by omega)]; exact r3.2.1, by rw [gi_ui, if_neg (by omega)]; exact r3.2.2, by rw [gi_ui, if_pos ⟨rfl, rfl⟩]; exact hv⟩
      generalize ui u3 721 3 v = u4 at c4 F4 r4
      refine ⟨fun z => absurd c4.1.2.2.2 z, fun _ => ad_r c4.1 (fun y5 f5 g5 => ?_)⟩
      have g5 : RG y5 b n (nxt b n 4 q) := g5
      have c5 := c4.t f5.t g5
      have F5 := F4.tr f5.q
      have e0 : gi y5 719 0 = nI W := by rw [c5.2.2.2.1]; exact h0
      refine v_X8_readCommon_163 km c5.m.2.2.2.2.1 c5.m.2.2.1 km2 km721 ⟨iv0 0 518 rfl (by omega) (by decide), ?_⟩
      rw [e0, show nI W - 1 = nI (W - 1) from pk_sub (b := 1) (by omega)]
      refine sp_X8_number (lo := 0) (by omega) (by omega) g5 (fun o6 y6 f6 g6 => ⟨i7 4 (by omega), ?_⟩) (fun o6 u f h => ⟨i7 4 (by omega), (lp_X8_readCommon_b h (c5.m.tf f) (kb (fun o => o6 ⟨o.2.1, Nat.zero_le _, ?_⟩) u (F5.tr f.q) h)).2.2.1 _ _ _ (EQx.rf u 721).ui⟩)
      rotate_left
      · have n1 := o.2.2.2.2.1
        have n2 := o.2.2.2.2.2
        omega
      have g6 : RG y6 b n (nxt b n 5 q) := g6
      have c6 := (c5.t f6.t g6).u1 (k := 4) (v := nI (tV b n (nxt b n 4 q)))
      have F6 : QFr x (ui y6 721 4 (nI (tV b n (nxt b n 4 q)))) := (F5.tr f6.q).u (by omega)
      have s6 : ∀ k, k < 4 → gi (ui y6 721 4 (nI (tV b n (nxt b n 4 q)))) 721 k = gi u4 721 k := fun k hk => by rw [gi_ui, if_neg (by omega), f6.2 721 k (by omega), f5.2 721 k (by omega)]
      have s64 : gi (ui y6 721 4 (nI (tV b n (nxt b n 4 q)))) 721 4 = nI (tV b n (nxt b n 4 q)) := by rw [gi_ui, if_pos ⟨rfl, rfl⟩]
      generalize ui y6 721 4 (nI (tV b n (nxt b n 4 q))) = u6 at c6 F6 s6 s64
      refine v_X8_readCommon_182 km (sp_X8_passesByte (Or.inr rfl) c6.1 (fun o7 y7 f7 g7 => ?_) (fun o7 u f h => (lp_X8_readCommon_b h (c6.m.tf f) (kb (fun o => o7 (by have w := o.2.2.1; rw [nxt_n] at w; exact w)) u (F6.tr f.q) h)).2.1 _ _ _ (EQx.rf u 721)))
      have g7 : RG y7 b n (nxt b n 6 q) := g7
      have c7 := c6.t f7.t g7
      have F7 := F6.tr f7.q
      have e70 : gi y7 719 0 = nI W := by rw [c7.2.2.2.1]; exact h0
      have e74 : gi y7 721 4 = nI (tV b n (nxt b n 4 q)) := (f7.2 721 4 (by omega)).trans s64
      have hf : tV b n (nxt b n 4 q) ≤ W - 1 := o6.2.2
      refine v_X8_readCommon_188 km c7.m.2.2.2.2.1 km721 c7.m.2.2.1 km2 ⟨i7 4 (by omega), iv0 0 518 rfl (by omega) (by decide), ?_⟩
      rw [e70, e74, show nI W - 1 = nI (W - 1) from pk_sub (b := 1) (by omega), show nI (tV b n (nxt b n 4 q)) + 4 = nI (tV b n (nxt b n 4 q) + 4) from nI_add _ 4]
      refine sp_X8_number (by omega) (by omega) g7 (fun o8 y8 f8 g8 => ⟨i7 5 (by omega), ?_⟩) (fun o8 u f h => ⟨i7 5 (by omega), (lp_X8_readCommon_b h (c7.m.tf f) (kb (fun o => o8 (by have w := o.2.2.2; rw [nxt_n] at w; exact w)) u (F7.tr f.q) h)).1 _ _ _ (EQx.rf u 721).ui⟩)
      have g8 : RG y8 b n (nxt b n 7 q) := g8
      have c8 := (c7.t f8.t g8).u1 (k := 5) (v := nI (tV b n (nxt b n 6 q)))
      have okn : okN b n (nxt b n 4 q) W := ⟨o6.1, by rw [nxt_n]; exact o7, by rw [nxt_n]; exact o8⟩
      have s8 : ∀ k, k < 5 → gi (ui y8 721 5 (nI (tV b n (nxt b n 6 q)))) 721 k = gi u6 721 k := fun k hk => by rw [gi_ui, if_neg (by omega), f8.2 721 k (by omega), f7.2 721 k (by omega)]
      refine v_X8_readCommon_214 (k1 okp okn _ ((F7.tr f8.q).u (by omega)) c8 ⟨?_, ?_, ?_, ?_, ?_, ?_⟩)
      · exact (s8 0 (by omega)).trans ((s6 0 (by omega)).trans r4.1)
      · exact (s8 1 (by omega)).trans ((s6 1 (by omega)).trans r4.2.1)
      · exact (s8 2 (by omega)).trans ((s6 2 (by omega)).trans r4.2.2.1)
      · exact (s8 3 (by omega)).trans ((s6 3 (by omega)).trans r4.2.2.2)
      · exact (s8 4 (by omega)).trans s64
      · rw [gi_ui, if_pos ⟨rfl, rfl⟩]
    refine v_X8_readCommon_132 km c3.m.2.2.2.2.1 km721 (sp_X8_isWord wj_13 c3.1 (fun o => ⟨fun z => absurd z (by decide), fun _ => ⟨i7 3 (by omega), go2 1 ?_⟩⟩) (fun o => ⟨fun _ => ⟨i7 3 (by omega), go2 0 ?_⟩, fun z => absurd rfl z⟩))
    · unfold wyo
      rw [if_pos (show wnp b n (nxt b n 3 q) = 13 from o.2)]
    · unfold wyo
      rw [if_neg (show ¬ wnp b n (nxt b n 3 q) = 13 from fun z => o ⟨(o5.elim (fun w => w.1) (fun w => w.1)), z⟩)]
  refine v_X8_readCommon_98 km ⟨fun z => absurd c3.1.2.2.2 z, fun _ => sp_X8_isWord wj_12 c3.1 (fun o => ⟨fun _ => go (Or.inl o), fun z => absurd z (by decide)⟩) (fun n12 => ⟨fun z => absurd rfl z, fun _ => sp_X8_isWord wj_13 c3.1 (fun o => ⟨fun _ => go (Or.inr o), fun z => absurd z (by decide)⟩) (fun n13 => ⟨fun z => absurd rfl z, fun _ => sp_X8_errs (by decide) (fun u f h => (lp_X8_readCommon_b h (c3.m.tf f) (kb (fun o => o.1.2.2.2.2.elim n12 n13) u (F3.tr f.q) h)).2.2.2.2.1 u _ _ (EQx.rf u 721))⟩)⟩)⟩

end
end
/-! 74.read7.lean.txt -/
section
/-! series, asks, all lines: the reference -/
theorem adT_cg {T : TT} {S : Nat} {f g : Nat → Int32} (h : ∀ k, k < 12 → f k = g k) : adT T S f = adT T S g := by
  funext i
  unfold adT
  by_cases c : i = 2
  · rw [if_pos c, if_pos c]
  · rw [if_neg c, if_neg c]
    by_cases d : 62 + 12 * S ≤ i ∧ i < 74 + 12 * S
    · rw [if_pos d, if_pos d]; exact h _ (by omega)
    · rw [if_neg d, if_neg d]
theorem RG.s {x : Cn} {b : TT} {n p : Nat} (g : RG x b n p) : (gi x 717 11 = 0 ∧ gi x 717 9 = 3 ∧ gi x 717 10 = 59) ↔ sg b n p 59 := by
  have ek : gi x 717 9 = 3 ↔ tK b n p = 3 := g.2.1.k 3 (by omega)
  unfold sg
  rw [ek]
  have key : tK b n p = 3 → (gi x 717 10 = 59 ↔ b (tS b n p) = 59) := by
    intro z
    have hlt : tS b n p < n := by
      have h1 := tK_0 (b := b) g.2.2.1
      have h2 := tS_b (b := b) g.2.2.1
      omega
    rw [g.2.1.2.2.2.2 z]
    exact (FB_of (g.1.2.2.2.1 _ hlt)).2.2.2.2.1
  constructor
  · intro h; exact ⟨h.2.1, (key h.2.1).mp h.2.2⟩
  · intro h; exact ⟨g.2.2.2, h.1, (key h.1).mpr h.2⟩
set_option maxHeartbeats 2000000 in
theorem v_X8_readSeries_0 {K : Sh} {x : Cn} {Q : Cn → Prop} {b0 : Nat} {b0_3 : Nat} {n_b0_3 : Nat} (k_b0 : kk K b0 = some (8, 0)) (g_b0_3 : gr x b0 3 = some b0_3) (k_b0_3 : kk K b0_3 = some (20, n_b0_3)) (K0 : vp_in 2 n_b0_3 ∧ ((¬ (gi x b0_3 2) = 24 → (GV mX8_readSeries 20 [some (.ref b0), none, none] [] K x Q)) ∧ ((gi x b0_3 2) = 24 → (mSV mX8_errs [.ref b0, .int 5, .int (gi x b0 8)] K x (fun y_3 => GV mX8_readSeries 20 [some (.ref b0), none, none] [] K y_3 Q))))) : mSV mX8_readSeries [.ref b0] K x Q := by
  refine s_V (by decide) (by simp [Value.category]) (Nat.le_of_ble_eq_true rfl) ?_
  show mGM mX8_readSeries 0 [some (.ref b0), none, none] [] (hp K x) (PV K Q)
  refine r_aload_n (pc := 0) dX8_readSeries_0 rfl ?_
  refine s_getR (pc := 1) dX8_readSeries_1 fl_X8_16 rfl k_b0 g_b0_3 ?_
  refine r_iconst (pc := 4) (v := 2) dX8_readSeries_4 (by decide) ?_
  obtain ⟨i_1, K0⟩ := K0
  refine s_iald (pc := 5) dX8_readSeries_5 k_b0_3 i_1 ?_
  refine r_bipush (pc := 6) (v := 24) dX8_readSeries_6 (by decide) ?_
  refine r_icmp_ne (pc := 8) (tgt := 20) dX8_readSeries_8 (by decide) (fun q => ?_) (fun q => ?_)
  · have K0 := K0.1 q
    exact r_le (L' := [some (.ref b0), none, none]) ⟨rfl, trivial⟩ K0
  · have K0 := K0.2 q
    refine r_aload_n (pc := 11) dX8_readSeries_11 rfl ?_
    refine r_iconst (pc := 12) (v := 5) dX8_readSeries_12 (by decide) ?_
    refine r_aload_n (pc := 13) dX8_readSeries_13 rfl ?_
    refine s_getI (pc := 14) dX8_readSeries_14 fl_X8_116 rfl k_b0 ?_
    refine s_VV (pc := 17) mX8_errs (ci := 8) (a := b0) (As := [.int 5, .int (gi x b0 8)]) dX8_readSeries_17 lk_X8_157 in_X8_errs mo_X8_errs ⟨by decide, rfl⟩ ⟨by decide, by decide⟩ (Nat.le_of_ble_eq_true rfl) k_b0 (mSV_mono K0 (fun y_3 K0 => ?_))
    exact r_le (L' := [some (.ref b0), none, none]) ⟨rfl, trivial⟩ K0
set_option maxHeartbeats 2000000 in
theorem v_X8_readSeries_20 {K : Sh} {x : Cn} {Q : Cn → Prop} {b0 : Nat}  (k_b0 : kk K b0 = some (8, 0)) (K0 : mSV mX8_passes [.ref b0, .ref (mSB + 22)] K x (fun y_1 => GV mX8_readSeries 26 [some (.ref b0), none, none] [] K y_1 Q)) : GV mX8_readSeries 20 [some (.ref b0), none, none] [] K x Q := by
  show mGM mX8_readSeries 20 [some (.ref b0), none, none] [] (hp K x) (PV K Q)
  refine r_aload_n (pc := 20) dX8_readSeries_20 rfl ?_
  refine r_ldcS (pc := 21) (j := 22) dX8_readSeries_21 rfl ?_
  refine s_VV (pc := 23) mX8_passes (ci := 8) (a := b0) (As := [.ref (mSB + 22)]) dX8_readSeries_23 lk_X8_211 in_X8_passes mo_X8_passes ⟨by decide, rfl⟩ ⟨by decide, by decide⟩ (Nat.le_of_ble_eq_true rfl) k_b0 (mSV_mono K0 (fun y_1 K0 => ?_))
  exact r_le (L' := [some (.ref b0), none, none]) ⟨rfl, trivial⟩ K0
set_option maxHeartbeats 2000000 in
theorem v_X8_readSeries_26 {K : Sh} {x : Cn} {Q : Cn → Prop} {b0 : Nat}  (k_b0 : kk K b0 = some (8, 0)) (K0 : mSV mX8_readCommon [.ref b0] K x (fun y_1 => GV mX8_readSeries 30 [some (.ref b0), none, none] [] K y_1 Q)) : GV mX8_readSeries 26 [some (.ref b0), none, none] [] K x Q := by
  show mGM mX8_readSeries 26 [some (.ref b0), none, none] [] (hp K x) (PV K Q)
  refine r_aload_n (pc := 26) dX8_readSeries_26 rfl ?_
  refine s_VV (pc := 27) mX8_readCommon (ci := 8) (a := b0) (As := []) dX8_readSeries_27 lk_X8_234 in_X8_readCommon mo_X8_readCommon ⟨by decide, rfl⟩ ⟨by decide, by decide⟩ (Nat.le_of_ble_eq_true rfl) k_b0 (mSV_mono K0 (fun y_1 K0 => ?_))
  exact r_le (L' := [some (.ref b0), none, none]) ⟨rfl, trivial⟩ K0
set_option maxHeartbeats 2000000 in
theorem v_X8_readSeries_30 {K : Sh} {x : Cn} {Q : Cn → Prop} {b0 : Nat}  (k_b0 : kk K b0 = some (8, 0)) (K0 : mSI mX8_eats [.ref b0, .ref (mSB + 25)] K x (fun r_2 y_1 => GV mX8_readSeries 37 [some (.ref b0), some (.int r_2), none] [] K y_1 Q)) : GV mX8_readSeries 30 [some (.ref b0), none, none] [] K x Q := by
  show mGM mX8_readSeries 30 [some (.ref b0), none, none] [] (hp K x) (PV K Q)
  refine r_aload_n (pc := 30) dX8_readSeries_30 rfl ?_
  refine r_ldcS (pc := 31) (j := 25) dX8_readSeries_31 rfl ?_
  refine s_VI (pc := 33) mX8_eats (ci := 8) (a := b0) (As := [.ref (mSB + 25)]) dX8_readSeries_33 lk_X8_154 in_X8_eats mo_X8_eats ⟨by decide, rfl⟩ ⟨by decide, by decide⟩ (Nat.le_of_ble_eq_true rfl) k_b0 (mSI_mono K0 (fun r_2 y_1 K0 => ?_))
  refine r_istore_n (pc := 36) dX8_readSeries_36 (by decide) ?_
  exact r_le (L' := [some (.ref b0), some (.int r_2), none]) ⟨rfl, ⟨rfl, trivial⟩⟩ K0
set_option maxHeartbeats 2000000 in
theorem v_X8_readSeries_37 {K : Sh} {x : Cn} {Q : Cn → Prop} {b0 : Nat} {l1 : Int32}  (k_b0 : kk K b0 = some (8, 0)) (K0 : (¬ (gi x b0 11 = 0) → (GV mX8_readSeries 62 [some (.ref b0), some (.int l1), none] [] K x Q)) ∧ ((gi x b0 11 = 0) → (((gi x b0 11 = 0 ∧ gi x b0 9 = 3 ∧ gi x b0 10 = 59) → (GV mX8_readSeries 62 [some (.ref b0), some (.int l1), none] [] K x Q)) ∧ (¬ (gi x b0 11 = 0 ∧ gi x b0 9 = 3 ∧ gi x b0 10 = 59) → (mSV mX8_errs [.ref b0, .int 1, .int (gi x b0 8)] K x (fun y_3 => GV mX8_readSeries 62 [some (.ref b0), some (.int l1), none] [] K y_3 Q)))))) : GV mX8_readSeries 37 [some (.ref b0), some (.int l1), none] [] K x Q := by
  show mGM mX8_readSeries 37 [some (.ref b0), some (.int l1), none] [] (hp K x) (PV K Q)
  refine r_aload_n (pc := 37) dX8_readSeries_37 rfl ?_
  refine s_VI (pc := 38) mX8_good (ci := 8) (a := b0) (As := []) dX8_readSeries_38 lk_X8_104 in_X8_good mo_X8_good ⟨by decide, rfl⟩ ⟨by decide, by decide⟩ (Nat.le_of_ble_eq_true rfl) k_b0 (sp_X8_good k_b0 ?_)
  refine r_if_eq (pc := 41) (tgt := 62) dX8_readSeries_41 (by decide) (fun q => ?_) (fun q => ?_)
  · have q := (b2i_z _).mp q
    have K0 := K0.1 q
    exact r_le (L' := [some (.ref b0), some (.int l1), none]) ⟨rfl, ⟨rfl, trivial⟩⟩ K0
  · have q := b2i_nz q
    have K0 := K0.2 q
    refine r_aload_n (pc := 44) dX8_readSeries_44 rfl ?_
    refine r_bipush (pc := 45) (v := 59) dX8_readSeries_45 (by decide) ?_
    refine s_VI (pc := 47) mX8_isByte (ci := 8) (a := b0) (As := [.int 59]) dX8_readSeries_47 lk_X8_161 in_X8_isByte mo_X8_isByte ⟨by decide, rfl⟩ ⟨by decide, by decide⟩ (Nat.le_of_ble_eq_true rfl) k_b0 (sp_X8_isByte k_b0 ?_)
    refine r_if_ne (pc := 50) (tgt := 62) dX8_readSeries_50 (by decide) (fun q => ?_) (fun q => ?_)
    · have q := b2i_nz q
      have K0 := K0.1 q
      exact r_le (L' := [some (.ref b0), some (.int l1), none]) ⟨rfl, ⟨rfl, trivial⟩⟩ K0
    · have q := (b2i_z _).mp q
      have K0 := K0.2 q
      refine r_aload_n (pc := 53) dX8_readSeries_53 rfl ?_
      refine r_iconst (pc := 54) (v := 1) dX8_readSeries_54 (by decide) ?_
      refine r_aload_n (pc := 55) dX8_readSeries_55 rfl ?_
      refine s_getI (pc := 56) dX8_readSeries_56 fl_X8_116 rfl k_b0 ?_
      refine s_VV (pc := 59) mX8_errs (ci := 8) (a := b0) (As := [.int 1, .int (gi x b0 8)]) dX8_readSeries_59 lk_X8_157 in_X8_errs mo_X8_errs ⟨by decide, rfl⟩ ⟨by decide, by decide⟩ (Nat.le_of_ble_eq_true rfl) k_b0 (mSV_mono K0 (fun y_3 K0 => ?_))
      exact r_le (L' := [some (.ref b0), some (.int l1), none]) ⟨rfl, ⟨rfl, trivial⟩⟩ K0
set_option maxHeartbeats 2000000 in
theorem v_X8_readSeries_62 {K : Sh} {x : Cn} {Q : Cn → Prop} {b0 : Nat} {l1 : Int32} {b0_15 : Nat} {n_b0_15 : Nat} (k_b0 : kk K b0 = some (8, 0)) (g_b0_15 : gr x b0 15 = some b0_15) (k_b0_15 : kk K b0_15 = some (20, n_b0_15)) (K0 : vp_in 4 n_b0_15 ∧ (vp_in 5 n_b0_15 ∧ (GV mX8_readSeries 78 [some (.ref b0), some (.int l1), some (.int (f_span (gi x b0_15 4) (gi x b0_15 5)))] [] K x Q))) : GV mX8_readSeries 62 [some (.ref b0), some (.int l1), none] [] K x Q := by
  show mGM mX8_readSeries 62 [some (.ref b0), some (.int l1), none] [] (hp K x) (PV K Q)
  refine r_aload_n (pc := 62) dX8_readSeries_62 rfl ?_
  refine s_getR (pc := 63) dX8_readSeries_63 fl_X8_27 rfl k_b0 g_b0_15 ?_
  refine r_iconst (pc := 66) (v := 4) dX8_readSeries_66 (by decide) ?_
  obtain ⟨i_1, K0⟩ := K0
  refine s_iald (pc := 67) dX8_readSeries_67 k_b0_15 i_1 ?_
  refine r_aload_n (pc := 68) dX8_readSeries_68 rfl ?_
  refine s_getR (pc := 69) dX8_readSeries_69 fl_X8_27 rfl k_b0 g_b0_15 ?_
  refine r_iconst (pc := 72) (v := 5) dX8_readSeries_72 (by decide) ?_
  obtain ⟨i_2, K0⟩ := K0
  refine s_iald (pc := 73) dX8_readSeries_73 k_b0_15 i_2 ?_
  refine s_SI (pc := 74) mX8_span (As := [.int (gi x b0_15 4), .int (gi x b0_15 5)]) dX8_readSeries_74 lk_X8_79 st_X8_span mo_X8_span ⟨by decide, by decide⟩ (Nat.le_of_ble_eq_true rfl) (sp_X8_span  ?_)
  refine r_istore_n (pc := 77) dX8_readSeries_77 (by decide) ?_
  exact r_le (L' := [some (.ref b0), some (.int l1), some (.int (f_span (gi x b0_15 4) (gi x b0_15 5)))]) ⟨rfl, ⟨rfl, ⟨rfl, trivial⟩⟩⟩ K0
set_option maxHeartbeats 2000000 in
theorem v_X8_readSeries_78 {K : Sh} {x : Cn} {Q : Cn → Prop} {b0 : Nat} {l1 : Int32} {l2 : Int32} {b0_15 : Nat} {n_b0_15 : Nat} (k_b0 : kk K b0 = some (8, 0)) (g_b0_15 : gr x b0 15 = some b0_15) (k_b0_15 : kk K b0_15 = some (20, n_b0_15)) (K0 : (¬ (gi x b0 11 = 0) → (GV mX8_readSeries 122 [some (.ref b0), some (.int l1), some (.int l2)] [] K x Q)) ∧ ((gi x b0 11 = 0) → (vp_in 1 n_b0_15 ∧ (vp_in 2 n_b0_15 ∧ (vp_in 3 n_b0_15 ∧ (mSI mX8_canBe [.ref b0, .int l2, .int (gi x b0_15 1), .int (gi x b0_15 2), .int (gi x b0_15 3), .int (-1)] K x (fun r_6 y_5 => (¬ r_6 = 0 → (GV mX8_readSeries 122 [some (.ref b0), some (.int l1), some (.int l2)] [] K y_5 Q)) ∧ (r_6 = 0 → (mSV mX8_errs [.ref b0, .int 6, .int (gi y_5 b0 8)] K y_5 (fun y_8 => GV mX8_readSeries 122 [some (.ref b0), some (.int l1), some (.int l2)] [] K y_8 Q)))))))))) : GV mX8_readSeries 78 [some (.ref b0), some (.int l1), some (.int l2)] [] K x Q := by
  show mGM mX8_readSeries 78 [some (.ref b0), some (.int l1), some (.int l2)] [] (hp K x) (PV K Q)
  refine r_aload_n (pc := 78) dX8_readSeries_78 rfl ?_
  refine s_VI (pc := 79) mX8_good (ci := 8) (a := b0) (As := []) dX8_readSeries_79 lk_X8_104 in_X8_good mo_X8_good ⟨by decide, rfl⟩ ⟨by decide, by decide⟩ (Nat.le_of_ble_eq_true rfl) k_b0 (sp_X8_good k_b0 ?_)
  refine r_if_eq (pc := 82) (tgt := 122) dX8_readSeries_82 (by decide) (fun q => ?_) (fun q => ?_)
  · have q := (b2i_z _).mp q
    have K0 := K0.1 q
    exact r_le (L' := [some (.ref b0), some (.int l1), some (.int l2)]) ⟨rfl, ⟨rfl, ⟨rfl, trivial⟩⟩⟩ K0
  · have q := b2i_nz q
    have K0 := K0.2 q
    refine r_aload_n (pc := 85) dX8_readSeries_85 rfl ?_
    refine r_iload_n (pc := 86) dX8_readSeries_86 rfl ?_
    refine r_aload_n (pc := 87) dX8_readSeries_87 rfl ?_
    refine s_getR (pc := 88) dX8_readSeries_88 fl_X8_27 rfl k_b0 g_b0_15 ?_
    refine r_iconst (pc := 91) (v := 1) dX8_readSeries_91 (by decide) ?_
    obtain ⟨i_2, K0⟩ := K0
    refine s_iald (pc := 92) dX8_readSeries_92 k_b0_15 i_2 ?_
    refine r_aload_n (pc := 93) dX8_readSeries_93 rfl ?_
    refine s_getR (pc := 94) dX8_readSeries_94 fl_X8_27 rfl k_b0 g_b0_15 ?_
    refine r_iconst (pc := 97) (v := 2) dX8_readSeries_97 (by decide) ?_
    obtain ⟨i_3, K0⟩ := K0
    refine s_iald (pc := 98) dX8_readSeries_98 k_b0_15 i_3 ?_
    refine r_aload_n (pc := 99) dX8_readSeries_99 rfl ?_
    refine s_getR (pc := 100) dX8_readSeries_100 fl_X8_27 rfl k_b0 g_b0_15 ?_
    refine r_iconst (pc := 103) (v := 3) dX8_readSeries_103 (by decide) ?_
    obtain ⟨i_4, K0⟩ := K0
    refine s_iald (pc := 104) dX8_readSeries_104 k_b0_15 i_4 ?_
    refine r_iconst (pc := 105) (v := (-1)) dX8_readSeries_105 (by decide) ?_
    refine s_VI (pc := 106) mX8_canBe (ci := 8) (a := b0) (As := [.int l2, .int (gi x b0_15 1), .int (gi x b0_15 2), .int (gi x b0_15 3), .int (-1)]) dX8_readSeries_106 lk_X8_90 in_X8_canBe mo_X8_canBe ⟨by decide, rfl⟩ ⟨by decide, by decide⟩ (Nat.le_of_ble_eq_true rfl) k_b0 (mSI_mono K0 (fun r_6 y_5 K0 => ?_))
    refine r_if_ne (pc := 109) (tgt := 122) dX8_readSeries_109 (by decide) (fun q => ?_) (fun q => ?_)
    · have K0 := K0.1 q
      exact r_le (L' := [some (.ref b0), some (.int l1), some (.int l2)]) ⟨rfl, ⟨rfl, ⟨rfl, trivial⟩⟩⟩ K0
    · have K0 := K0.2 q
      refine r_aload_n (pc := 112) dX8_readSeries_112 rfl ?_
      refine r_bipush (pc := 113) (v := 6) dX8_readSeries_113 (by decide) ?_
      refine r_aload_n (pc := 115) dX8_readSeries_115 rfl ?_
      refine s_getI (pc := 116) dX8_readSeries_116 fl_X8_116 rfl k_b0 ?_
      refine s_VV (pc := 119) mX8_errs (ci := 8) (a := b0) (As := [.int 6, .int (gi y_5 b0 8)]) dX8_readSeries_119 lk_X8_157 in_X8_errs mo_X8_errs ⟨by decide, rfl⟩ ⟨by decide, by decide⟩ (Nat.le_of_ble_eq_true rfl) k_b0 (mSV_mono K0 (fun y_8 K0 => ?_))
      exact r_le (L' := [some (.ref b0), some (.int l1), some (.int l2)]) ⟨rfl, ⟨rfl, ⟨rfl, trivial⟩⟩⟩ K0
set_option maxHeartbeats 2000000 in
theorem v_X8_readSeries_122 {K : Sh} {x : Cn} {Q : Cn → Prop} {b0 : Nat} {l1 : Int32} {l2 : Int32} {b0_15 : Nat} {n_b0_15 : Nat} (k_b0 : kk K b0 = some (8, 0)) (g_b0_15 : gr x b0 15 = some b0_15) (k_b0_15 : kk K b0_15 = some (20, n_b0_15)) (K0 : ((gi x b0 11 = 0) → (vp_in 2 n_b0_15 ∧ (vp_in 4 n_b0_15 ∧ (mSV mX8_addsSeries [.ref b0, .int (gi x b0_15 2), .int l2, .int (gi x b0_15 4), .int l1] K x (fun y_4 => GV mX8_readSeries 148 [some (.ref b0), some (.int l1), some (.int l2)] [] K y_4 Q))))) ∧ (¬ (gi x b0 11 = 0) → (Q x))) : GV mX8_readSeries 122 [some (.ref b0), some (.int l1), some (.int l2)] [] K x Q := by
  show mGM mX8_readSeries 122 [some (.ref b0), some (.int l1), some (.int l2)] [] (hp K x) (PV K Q)
  refine r_aload_n (pc := 122) dX8_readSeries_122 rfl ?_
  refine s_VI (pc := 123) mX8_good (ci := 8) (a := b0) (As := []) dX8_readSeries_123 lk_X8_104 in_X8_good mo_X8_good ⟨by decide, rfl⟩ ⟨by decide, by decide⟩ (Nat.le_of_ble_eq_true rfl) k_b0 (sp_X8_good k_b0 ?_)
  refine r_if_ne (pc := 126) (tgt := 130) dX8_readSeries_126 (by decide) (fun q => ?_) (fun q => ?_)
  · have q := b2i_nz q
    have K0 := K0.1 q
    refine r_aload_n (pc := 130) dX8_readSeries_130 rfl ?_
    refine r_aload_n (pc := 131) dX8_readSeries_131 rfl ?_
    refine s_getR (pc := 132) dX8_readSeries_132 fl_X8_27 rfl k_b0 g_b0_15 ?_
    refine r_iconst (pc := 135) (v := 2) dX8_readSeries_135 (by decide) ?_
    obtain ⟨i_2, K0⟩ := K0
    refine s_iald (pc := 136) dX8_readSeries_136 k_b0_15 i_2 ?_
    refine r_iload_n (pc := 137) dX8_readSeries_137 rfl ?_
    refine r_aload_n (pc := 138) dX8_readSeries_138 rfl ?_
    refine s_getR (pc := 139) dX8_readSeries_139 fl_X8_27 rfl k_b0 g_b0_15 ?_
    refine r_iconst (pc := 142) (v := 4) dX8_readSeries_142 (by decide) ?_
    obtain ⟨i_3, K0⟩ := K0
    refine s_iald (pc := 143) dX8_readSeries_143 k_b0_15 i_3 ?_
    refine r_iload_n (pc := 144) dX8_readSeries_144 rfl ?_
    refine s_VV (pc := 145) mX8_addsSeries (ci := 8) (a := b0) (As := [.int (gi x b0_15 2), .int l2, .int (gi x b0_15 4), .int l1]) dX8_readSeries_145 lk_X8_237 in_X8_addsSeries mo_X8_addsSeries ⟨by decide, rfl⟩ ⟨by decide, by decide⟩ (Nat.le_of_ble_eq_true rfl) k_b0 (mSV_mono K0 (fun y_4 K0 => ?_))
    exact r_le (L' := [some (.ref b0), some (.int l1), some (.int l2)]) ⟨rfl, ⟨rfl, ⟨rfl, trivial⟩⟩⟩ K0
  · have q := (b2i_z _).mp q
    have K0 := K0.2 q
    exact s_ret rfl dX8_readSeries_129 K0
set_option maxHeartbeats 2000000 in
theorem v_X8_readSeries_148 {K : Sh} {x : Cn} {Q : Cn → Prop} {b0 : Nat} {l1 : Int32} {l2 : Int32}  (k_b0 : kk K b0 = some (8, 0)) (K0 : Q (ui x b0 14 1)) : GV mX8_readSeries 148 [some (.ref b0), some (.int l1), some (.int l2)] [] K x Q := by
  show mGM mX8_readSeries 148 [some (.ref b0), some (.int l1), some (.int l2)] [] (hp K x) (PV K Q)
  refine r_aload_n (pc := 148) dX8_readSeries_148 rfl ?_
  refine r_iconst (pc := 149) (v := 1) dX8_readSeries_149 (by decide) ?_
  refine s_putZ (pc := 150) dX8_readSeries_150 fl_X8_207 rfl rfl k_b0 (by decide) ?_
  exact s_ret rfl dX8_readSeries_153 K0
section
theorem lp_X8_readSeries_b {x : Cn} {Q : Cn → Prop} (h : Bd x) (M : MRf x 719) (k : ∀ y, EQx x y 721 → Q y) : (∀ y l1 l2, EQx x y 721 → GV mX8_readSeries 122 [some (.ref 717), some (.int l1), some (.int l2)] [] KW y Q) ∧ (∀ y l1, EQx x y 721 → GV mX8_readSeries 62 [some (.ref 717), some (.int l1), none] [] KW y Q) ∧ (∀ y, EQx x y 721 → GV mX8_readSeries 30 [some (.ref 717), none, none] [] KW y Q) := by
  have hb : ∀ y, EQx x y 721 → Bd y := fun y f => f.bd h
  have hM : ∀ y, EQx x y 721 → MRf y 719 := fun y f => M.keep f.1
  have i7 : ∀ k : Nat, k < 7 → vp_in (nI k) 7 := fun k hk => vp_in_nI hk (by decide)
  have a122 : ∀ y l1 l2, EQx x y 721 → GV mX8_readSeries 122 [some (.ref 717), some (.int l1), some (.int l2)] [] KW y Q := fun y l1 l2 f => v_X8_readSeries_122 km (hM y f).2.2.2.2.1 km721 ⟨fun z => absurd z (hb y f), fun _ => k y f⟩
  have a62 : ∀ y l1, EQx x y 721 → GV mX8_readSeries 62 [some (.ref 717), some (.int l1), none] [] KW y Q := fun y l1 f => v_X8_readSeries_62 km (hM y f).2.2.2.2.1 km721 ⟨i7 4 (by omega), i7 5 (by omega), v_X8_readSeries_78 km (hM y f).2.2.2.2.1 km721 ⟨fun _ => a122 _ _ _ f, fun z => absurd z (hb y f)⟩⟩
  exact ⟨a122, a62, fun y f => v_X8_readSeries_30 km (sp_X8_eats_b (by omega) (hM y f).2.2.2.1 (hb y f) (v_X8_readSeries_37 km ⟨fun _ => a62 _ _ f, fun z => absurd z (hb y f)⟩))⟩
theorem sp_X8_readSeries {x : Cn} {Q : Cn → Prop} {b : TT} {n p : Nat} {T : TT} {lim : Int32} {W C S A : Nat} (c : RQ x b n p T lim W C S A) (o10 : iw b n p 10) (k1 : okS b n (tE b n p) T W C S → ∀ y, QFr x y → RQ y b n (nwp b n (nxt b n 7 (tE b n p))) (adT T S (srF b n (tE b n p) T C)) lim W C (S + 1) A → Q y) (k0 : ¬ okS b n (tE b n p) T W C S → ∀ y, QFr x y → Bd y → Q y) : mSV mX8_readSeries [.ref 717] KW x Q := by
  have M := c.m
  obtain ⟨h0, hw, h1, hc, h2, hs, h3, ha, h4⟩ := id c.2.2.2.2
  have i7 : ∀ k : Nat, k < 7 → vp_in (nI k) 7 := fun k hk => vp_in_nI hk (by decide)
  have kb : ¬ okS b n (tE b n p) T W C S → ∀ u, QFr x u → Bd u → ∀ y, EQx u y 721 → Q y := fun o u F h y f => k0 o y (F.tr f.q1) (f.bd h)
  refine v_X8_readSeries_0 km M.2.2.1 km2 ?_
  have e2 : gi x 719 2 = nI S := by rw [c.2.2.2.1]; exact h2
  have eS : nI S = 24 ↔ S = 24 := nI_eq (a := S) (b := 24) (by omega) (by omega)
  rw [e2, eS]
  refine ⟨iv0 2 518 rfl (by omega) (by decide), fun z => ?_, fun z => sp_X8_errs (by decide) (fun y f h => ?_)⟩
  rotate_left
  · refine v_X8_readSeries_20 km (sp_X8_passes_b (by omega) (M.tf f).2.2.2.1 h (v_X8_readSeries_26 km (sp_X8_readCommon_b (C := C) h (M.tf f) (by rw [f.2 719 1 (by omega), c.2.2.2.1]; exact h1) hc (fun u fu => ?_))))
    exact (lp_X8_readSeries_b h (M.tf f) (kb (fun o => by have := o.1; omega) y f.q h)).2.2 u fu
  have hS : S < 24 := by omega
  refine v_X8_readSeries_20 km (sp_X8_passes wj_10 c.1 (fun _ y1 f1 g1 => ?_) (fun o => absurd o10 o))
  have c1 := c.t f1.t g1
  have F1 : QFr x y1 := f1.q
  generalize tE b n p = q at c1 g1 k1 k0 kb
  refine v_X8_readSeries_26 km (sp_X8_readCommon c1 (fun o1 o2 y2 F2 c2 r2 => ?_) (fun o1 u F h => (lp_X8_readSeries_b h (c1.m.keep F.1) (kb (fun o => o1 ⟨o.2.1, o.2.2.1⟩) u (F1.tr F) h)).2.2 u (EQx.rf u 721)))
  have F2 := F1.tr F2
  obtain ⟨⟨cc, hcc, ec⟩, ⟨d, hd, ed⟩, hh, f1', f2'⟩ := cm_ok hw.1 o1 o2
  have go : ∀ (u : Cn) (l1 : Int32), QFr x u → RQ u b n (nwp b n (nxt b n 7 q)) T lim W C S A → (∀ k, k < 6 → gi u 721 k = gi y2 721 k) → l1 = nwv b n (nxt b n 7 q) → GV mX8_readSeries 37 [some (.ref 717), some (.int l1), none] [] KW u Q := by
    intro u l1 F cu ru hl
    have ro : ROc u b n q T C := ⟨(ru 0 (by omega)).trans r2.1, (ru 1 (by omega)).trans r2.2.1, (ru 2 (by omega)).trans r2.2.2.1, (ru 3 (by omega)).trans r2.2.2.2.1, (ru 4 (by omega)).trans r2.2.2.2.2.1, (ru 5 (by omega)).trans r2.2.2.2.2.2⟩
    refine v_X8_readSeries_37 km ⟨fun z => absurd cu.1.2.2.2 z, fun _ => ?_⟩
    rw [cu.1.s]
    refine ⟨fun o3 => ?_, fun o3 => sp_X8_errs (by decide) (fun v f h => (lp_X8_readSeries_b h (cu.m.tf f) (kb (fun o => o3 o.2.2.2.1) v (F.tr f.q) h)).2.1 v _ (EQx.rf v 721))⟩
    refine v_X8_readSeries_62 km cu.m.2.2.2.2.1 km721 ⟨i7 4 (by omega), i7 5 (by omega), ?_⟩
    rw [ro.2.2.2.2.1, ro.2.2.2.2.2]
    show GV mX8_readSeries 78 [some (.ref 717), some (.int l1), some (.int (spw b n q))] [] KW u Q
    refine v_X8_readSeries_78 km cu.m.2.2.2.2.1 km721 ⟨fun z => absurd cu.1.2.2.2 z, fun _ => ⟨i7 1 (by omega), i7 2 (by omega), i7 3 (by omega), ?_⟩⟩
    rw [ro.2.1, ro.2.2.1, ro.2.2.2.1]
    have hT := cu.2.2.2.1
    refine sn_X8_canBe (W := W) (S := S) (N := 0) (wo := 0) cu.m km2 (by rw [hT]; exact h0) hw.2 (by rw [hT]; exact h2) hs (by rw [hT]; exact h4) (by omega) hh (wyo_01 _ _ _) (fun i hi h1 _ => ?_) (fun s hs => ?_) ?_
    · have h1 : tb (f_span (nI (tV b n (nxt b n 4 q))) (nI (tV b n (nxt b n 6 q)))) i = true := h1
      rw [tb_span0 _ (by omega) _ (by omega) i hi] at h1
      have := of_decide_eq_true h1
      omega
    · rw [tb_0]
      constructor
      · intro z; cases z
      · intro z; exact absurd (show (-1 : Int32) < 0 by decide) (by rw [← z]; exact nI_pos (by omega))
    rw [hT]
    have fin : fitC T S 0 (wnp b n (nxt b n 1 q)) (tV b n (nxt b n 2 q)) (wyo b n (nxt b n 3 q)) (spw b n q) 0 → GV mX8_readSeries 122 [some (.ref 717), some (.int l1), some (.int (spw b n q))] [] KW u Q := by
      intro o4
      refine v_X8_readSeries_122 km cu.m.2.2.2.2.1 km721 ⟨fun _ => ⟨i7 2 (by omega), i7 4 (by omega), ?_⟩, fun z => absurd cu.1.2.2.2 z⟩
      refine sp_X8_addsSeries cu.m km2 (by decide) (S := S) (by rw [hT]; exact h2) hS (fun v w1 w2 w3 => v_X8_readSeries_148 km ?_)
      have eT : gi v 719 = adT T S (srF b n q T C) := by
        rw [w3, hT]
        refine adT_cg (fun k hk => ?_)
        unfold adf srF
        rcases lt12 hk with rfl | rfl | rfl | rfl | rfl | rfl | rfl | rfl | rfl | rfl | rfl | rfl
        · exact ro.1
        · exact ro.2.1
        · exact ro.2.2.1
        · exact ro.2.2.2.1
        · show (if l1 = 0 then (0 : Int32) else 1) = nwv b n (nxt b n 7 q)
          rw [hl]
          rcases b2i_01 (tK b n (nxt b n 7 q) = 1 ∧ wnp b n (nxt b n 7 q) = 14) with z | z
          · have z : nwv b n (nxt b n 7 q) = 0 := z
            rw [z]; rfl
          · have z : nwv b n (nxt b n 7 q) = 1 := z
            rw [z]; rfl
        · exact ro.2.2.2.2.1
        · exact ro.2.2.2.2.2
        · rfl
        · rfl
        · rfl
        · rfl
        · rfl
      have Fv : QFr x v := F.tr ⟨w1, fun a k h => w2 a k (by omega)⟩
      have gv : RG v b n (nwp b n (nxt b n 7 q)) := ⟨cu.1.1.q ⟨w1, fun a k h => w2 a k (by omega)⟩, cu.1.2.1.mv (fun k _ _ => w2 717 k (by omega)), cu.1.2.2.1, (w2 717 11 (by omega)).trans cu.1.2.2.2⟩
      refine k1 ⟨hS, o1, o2, o3, o4⟩ _ (Fv.u (by omega)) ⟨gv.u (by omega), ?_, ?_, ?_, ?_⟩
      · rw [gi_ui, if_neg (by omega)]; exact (w2 717 13 (by omega)).trans cu.2.1
      · rw [gi_ui, if_pos ⟨rfl, rfl⟩, b2i_t (by omega)]
      · exact (funext fun i => by rw [gi_ui, if_neg (by omega)]).trans eT
      · exact ⟨(adT_off (by omega) (by omega)).trans h0, hw, (adT_off (by omega) (by omega)).trans h1, hc, if_pos rfl, by omega, (adT_off (by omega) (by omega)).trans h3, ha, (adT_off (by omega) (by omega)).trans h4⟩
    refine ⟨fun z => fin (Classical.byContradiction (fun w => z (bP_f w))), fun z => sp_X8_errs (by decide) (fun v f h => (lp_X8_readSeries_b h (cu.m.tf f) (kb (fun o => absurd z (by rw [bP_t o.2.2.2.2]; decide)) v (F.tr f.q) h)).1 v _ _ (EQx.rf v 721))⟩
  refine v_X8_readSeries_30 km (sp_X8_eats wj_14 c2.1 (fun o y3 f3 g3 => ?_) (fun o => ?_))
  · have er : nwp b n (nxt b n 7 q) = tE b n (nxt b n 7 q) := by unfold nwp; rw [if_pos (show tK b n (nxt b n 7 q) = 1 ∧ wnp b n (nxt b n 7 q) = 14 from o)]
    have ev : (1 : Int32) = nwv b n (nxt b n 7 q) := (b2i_t (show tK b n (nxt b n 7 q) = 1 ∧ wnp b n (nxt b n 7 q) = 14 from o)).symm
    rw [← er] at g3
    exact go y3 1 (F2.tr f3.q) (c2.t f3.t g3) (fun k hk => f3.2 721 k (by omega)) ev
  · have er : nwp b n (nxt b n 7 q) = nxt b n 7 q := by unfold nwp; rw [if_neg (show ¬ (tK b n (nxt b n 7 q) = 1 ∧ wnp b n (nxt b n 7 q) = 14) from o)]
    have ev : (0 : Int32) = nwv b n (nxt b n 7 q) := (b2i_f (show ¬ (tK b n (nxt b n 7 q) = 1 ∧ wnp b n (nxt b n 7 q) = 14) from o)).symm
    rw [← er] at c2
    exact go y2 0 F2 c2 (fun k hk => rfl) ev
def okQ1 (b : TT) (n q : Nat) (T : TT) (W C A : Nat) : Prop := A < 24 ∧ okP b n q T C ∧ okN b n (nxt b n 4 q) W ∧ (isBy b n (nxt b n 7 q) → nb b n (nxt b n 8 q) 0 9)
end
set_option maxHeartbeats 2000000 in
theorem v_X8_readAsk_0 {K : Sh} {x : Cn} {Q : Cn → Prop} {b0 : Nat} {b0_3 : Nat} {n_b0_3 : Nat} (k_b0 : kk K b0 = some (8, 0)) (g_b0_3 : gr x b0 3 = some b0_3) (k_b0_3 : kk K b0_3 = some (20, n_b0_3)) (K0 : vp_in 3 n_b0_3 ∧ ((¬ (gi x b0_3 3) = 24 → (GV mX8_readAsk 20 [some (.ref b0)] [] K x Q)) ∧ ((gi x b0_3 3) = 24 → (mSV mX8_errs [.ref b0, .int 5, .int (gi x b0 8)] K x (fun y_3 => GV mX8_readAsk 20 [some (.ref b0)] [] K y_3 Q))))) : mSV mX8_readAsk [.ref b0] K x Q := by
  refine s_V (by decide) (by simp [Value.category]) (Nat.le_of_ble_eq_true rfl) ?_
  show mGM mX8_readAsk 0 [some (.ref b0)] [] (hp K x) (PV K Q)
  refine r_aload_n (pc := 0) dX8_readAsk_0 rfl ?_
  refine s_getR (pc := 1) dX8_readAsk_1 fl_X8_16 rfl k_b0 g_b0_3 ?_
  refine r_iconst (pc := 4) (v := 3) dX8_readAsk_4 (by decide) ?_
  obtain ⟨i_1, K0⟩ := K0
  refine s_iald (pc := 5) dX8_readAsk_5 k_b0_3 i_1 ?_
  refine r_bipush (pc := 6) (v := 24) dX8_readAsk_6 (by decide) ?_
  refine r_icmp_ne (pc := 8) (tgt := 20) dX8_readAsk_8 (by decide) (fun q => ?_) (fun q => ?_)
  · have K0 := K0.1 q
    exact r_le (L' := [some (.ref b0)]) ⟨rfl, trivial⟩ K0
  · have K0 := K0.2 q
    refine r_aload_n (pc := 11) dX8_readAsk_11 rfl ?_
    refine r_iconst (pc := 12) (v := 5) dX8_readAsk_12 (by decide) ?_
    refine r_aload_n (pc := 13) dX8_readAsk_13 rfl ?_
    refine s_getI (pc := 14) dX8_readAsk_14 fl_X8_116 rfl k_b0 ?_
    refine s_VV (pc := 17) mX8_errs (ci := 8) (a := b0) (As := [.int 5, .int (gi x b0 8)]) dX8_readAsk_17 lk_X8_157 in_X8_errs mo_X8_errs ⟨by decide, rfl⟩ ⟨by decide, by decide⟩ (Nat.le_of_ble_eq_true rfl) k_b0 (mSV_mono K0 (fun y_3 K0 => ?_))
    exact r_le (L' := [some (.ref b0)]) ⟨rfl, trivial⟩ K0
set_option maxHeartbeats 2000000 in
theorem v_X8_readAsk_20 {K : Sh} {x : Cn} {Q : Cn → Prop} {b0 : Nat}  (k_b0 : kk K b0 = some (8, 0)) (K0 : mSV mX8_passes [.ref b0, .ref (mSB + 23)] K x (fun y_1 => GV mX8_readAsk 26 [some (.ref b0)] [] K y_1 Q)) : GV mX8_readAsk 20 [some (.ref b0)] [] K x Q := by
  show mGM mX8_readAsk 20 [some (.ref b0)] [] (hp K x) (PV K Q)
  refine r_aload_n (pc := 20) dX8_readAsk_20 rfl ?_
  refine r_ldcS (pc := 21) (j := 23) dX8_readAsk_21 rfl ?_
  refine s_VV (pc := 23) mX8_passes (ci := 8) (a := b0) (As := [.ref (mSB + 23)]) dX8_readAsk_23 lk_X8_211 in_X8_passes mo_X8_passes ⟨by decide, rfl⟩ ⟨by decide, by decide⟩ (Nat.le_of_ble_eq_true rfl) k_b0 (mSV_mono K0 (fun y_1 K0 => ?_))
  exact r_le (L' := [some (.ref b0)]) ⟨rfl, trivial⟩ K0
set_option maxHeartbeats 2000000 in
theorem v_X8_readAsk_26 {K : Sh} {x : Cn} {Q : Cn → Prop} {b0 : Nat}  (k_b0 : kk K b0 = some (8, 0)) (K0 : mSV mX8_readCommon [.ref b0] K x (fun y_1 => GV mX8_readAsk 30 [some (.ref b0)] [] K y_1 Q)) : GV mX8_readAsk 26 [some (.ref b0)] [] K x Q := by
  show mGM mX8_readAsk 26 [some (.ref b0)] [] (hp K x) (PV K Q)
  refine r_aload_n (pc := 26) dX8_readAsk_26 rfl ?_
  refine s_VV (pc := 27) mX8_readCommon (ci := 8) (a := b0) (As := []) dX8_readAsk_27 lk_X8_234 in_X8_readCommon mo_X8_readCommon ⟨by decide, rfl⟩ ⟨by decide, by decide⟩ (Nat.le_of_ble_eq_true rfl) k_b0 (mSV_mono K0 (fun y_1 K0 => ?_))
  exact r_le (L' := [some (.ref b0)]) ⟨rfl, trivial⟩ K0
set_option maxHeartbeats 2000000 in
theorem v_X8_readAsk_30 {K : Sh} {x : Cn} {Q : Cn → Prop} {b0 : Nat} {b0_15 : Nat} {n_b0_15 : Nat} (k_b0 : kk K b0 = some (8, 0)) (g_b0_15 : gr x b0 15 = some b0_15) (k_b0_15 : kk K b0_15 = some (20, n_b0_15)) (K0 : mSI mX8_eats [.ref b0, .ref (mSB + 26)] K x (fun r_2 y_1 => (r_2 = 0 → (vp_in 6 n_b0_15 ∧ ((¬ (gi (ui y_1 b0_15 6 0) b0 11 = 0) → (GV mX8_readAsk 68 [some (.ref b0)] [] K (ui y_1 b0_15 6 0) Q)) ∧ ((gi (ui y_1 b0_15 6 0) b0 11 = 0) → (mSV mX8_addsAsk [.ref b0] K (ui y_1 b0_15 6 0) (fun y_6 => GV mX8_readAsk 68 [some (.ref b0)] [] K y_6 Q)))))) ∧ (¬ r_2 = 0 → (mSI mX8_number [.ref b0, .int 0, .int 9] K y_1 (fun r_8 y_7 => vp_in 6 n_b0_15 ∧ ((¬ (gi (ui y_7 b0_15 6 r_8) b0 11 = 0) → (GV mX8_readAsk 68 [some (.ref b0)] [] K (ui y_7 b0_15 6 r_8) Q)) ∧ ((gi (ui y_7 b0_15 6 r_8) b0 11 = 0) → (mSV mX8_addsAsk [.ref b0] K (ui y_7 b0_15 6 r_8) (fun y_11 => GV mX8_readAsk 68 [some (.ref b0)] [] K y_11 Q))))))))) : GV mX8_readAsk 30 [some (.ref b0)] [] K x Q := by
  show mGM mX8_readAsk 30 [some (.ref b0)] [] (hp K x) (PV K Q)
  refine r_aload_n (pc := 30) dX8_readAsk_30 rfl ?_
  refine s_getR (pc := 31) dX8_readAsk_31 fl_X8_27 rfl k_b0 g_b0_15 ?_
  refine r_bipush (pc := 34) (v := 6) dX8_readAsk_34 (by decide) ?_
  refine r_aload_n (pc := 36) dX8_readAsk_36 rfl ?_
  refine r_ldcS (pc := 37) (j := 26) dX8_readAsk_37 rfl ?_
  refine s_VI (pc := 39) mX8_eats (ci := 8) (a := b0) (As := [.ref (mSB + 26)]) dX8_readAsk_39 lk_X8_154 in_X8_eats mo_X8_eats ⟨by decide, rfl⟩ ⟨by decide, by decide⟩ (Nat.le_of_ble_eq_true rfl) k_b0 (mSI_mono K0 (fun r_2 y_1 K0 => ?_))
  refine r_if_eq (pc := 42) (tgt := 55) dX8_readAsk_42 (by decide) (fun q => ?_) (fun q => ?_)
  · have K0 := K0.1 q
    refine r_iconst (pc := 55) (v := 0) dX8_readAsk_55 (by decide) ?_
    obtain ⟨i_4, K0⟩ := K0
    refine s_iast (pc := 56) dX8_readAsk_56 k_b0_15 i_4 ?_
    refine r_aload_n (pc := 57) dX8_readAsk_57 rfl ?_
    refine s_VI (pc := 58) mX8_good (ci := 8) (a := b0) (As := []) dX8_readAsk_58 lk_X8_104 in_X8_good mo_X8_good ⟨by decide, rfl⟩ ⟨by decide, by decide⟩ (Nat.le_of_ble_eq_true rfl) k_b0 (sp_X8_good k_b0 ?_)
    refine r_if_eq (pc := 61) (tgt := 68) dX8_readAsk_61 (by decide) (fun q => ?_) (fun q => ?_)
    · have q := (b2i_z _).mp q
      have K0 := K0.1 q
      exact r_le (L' := [some (.ref b0)]) ⟨rfl, trivial⟩ K0
    · have q := b2i_nz q
      have K0 := K0.2 q
      refine r_aload_n (pc := 64) dX8_readAsk_64 rfl ?_
      refine s_VV (pc := 65) mX8_addsAsk (ci := 8) (a := b0) (As := []) dX8_readAsk_65 lk_X8_241 in_X8_addsAsk mo_X8_addsAsk ⟨by decide, rfl⟩ ⟨by decide, by decide⟩ (Nat.le_of_ble_eq_true rfl) k_b0 (mSV_mono K0 (fun y_6 K0 => ?_))
      exact r_le (L' := [some (.ref b0)]) ⟨rfl, trivial⟩ K0
  · have K0 := K0.2 q
    refine r_aload_n (pc := 45) dX8_readAsk_45 rfl ?_
    refine r_iconst (pc := 46) (v := 0) dX8_readAsk_46 (by decide) ?_
    refine r_bipush (pc := 47) (v := 9) dX8_readAsk_47 (by decide) ?_
    refine s_VI (pc := 49) mX8_number (ci := 8) (a := b0) (As := [.int 0, .int 9]) dX8_readAsk_49 lk_X8_218 in_X8_number mo_X8_number ⟨by decide, rfl⟩ ⟨by decide, by decide⟩ (Nat.le_of_ble_eq_true rfl) k_b0 (mSI_mono K0 (fun r_8 y_7 K0 => ?_))
    refine r_goto (pc := 52) (tgt := 56) dX8_readAsk_52 (by decide) ?_
    obtain ⟨i_9, K0⟩ := K0
    refine s_iast (pc := 56) dX8_readAsk_56 k_b0_15 i_9 ?_
    refine r_aload_n (pc := 57) dX8_readAsk_57 rfl ?_
    refine s_VI (pc := 58) mX8_good (ci := 8) (a := b0) (As := []) dX8_readAsk_58 lk_X8_104 in_X8_good mo_X8_good ⟨by decide, rfl⟩ ⟨by decide, by decide⟩ (Nat.le_of_ble_eq_true rfl) k_b0 (sp_X8_good k_b0 ?_)
    refine r_if_eq (pc := 61) (tgt := 68) dX8_readAsk_61 (by decide) (fun q => ?_) (fun q => ?_)
    · have q := (b2i_z _).mp q
      have K0 := K0.1 q
      exact r_le (L' := [some (.ref b0)]) ⟨rfl, trivial⟩ K0
    · have q := b2i_nz q
      have K0 := K0.2 q
      refine r_aload_n (pc := 64) dX8_readAsk_64 rfl ?_
      refine s_VV (pc := 65) mX8_addsAsk (ci := 8) (a := b0) (As := []) dX8_readAsk_65 lk_X8_241 in_X8_addsAsk mo_X8_addsAsk ⟨by decide, rfl⟩ ⟨by decide, by decide⟩ (Nat.le_of_ble_eq_true rfl) k_b0 (mSV_mono K0 (fun y_11 K0 => ?_))
      exact r_le (L' := [some (.ref b0)]) ⟨rfl, trivial⟩ K0
set_option maxHeartbeats 2000000 in
theorem v_X8_readAsk_68 {K : Sh} {x : Cn} {Q : Cn → Prop} {b0 : Nat}   (K0 : Q x) : GV mX8_readAsk 68 [some (.ref b0)] [] K x Q := by
  show mGM mX8_readAsk 68 [some (.ref b0)] [] (hp K x) (PV K Q)
  exact s_ret rfl dX8_readAsk_68 K0
section
theorem sp_X8_readAsk {x : Cn} {Q : Cn → Prop} {b : TT} {n p : Nat} {T : TT} {lim : Int32} {W C S A : Nat} (c : RQ x b n p T lim W C S A) (o11 : iw b n p 11) (k1 : okQ1 b n (tE b n p) T W C A → ∀ y, QFr x y → RQ y b n (byp b n (nxt b n 7 (tE b n p))) (askT T A (akF b n (tE b n p) T C)) lim W C S (A + 1) → Q y) (k0 : ¬ okQ1 b n (tE b n p) T W C A → ∀ y, QFr x y → Bd y → Q y) : mSV mX8_readAsk [.ref 717] KW x Q := by
  have M := c.m
  obtain ⟨h0, hw, h1, hc, h2, hs, h3, ha, h4⟩ := id c.2.2.2.2
  have i7 : ∀ k : Nat, k < 7 → vp_in (nI k) 7 := fun k hk => vp_in_nI hk (by decide)
  have b30 : ¬ okQ1 b n (tE b n p) T W C A → ∀ u, QFr x u → Bd u → MRf u 719 → GV mX8_readAsk 30 [some (.ref 717)] [] KW u Q := fun o u F h Mu => v_X8_readAsk_30 km Mu.2.2.2.2.1 km721 (sp_X8_eats_b (by omega) Mu.2.2.2.1 h ⟨fun _ => ⟨i7 6 (by omega), fun _ => v_X8_readAsk_68 (k0 o _ (F.u (by omega)) (h.u (by omega))), fun z => absurd z (h.u (by omega))⟩, fun z => absurd rfl z⟩)
  refine v_X8_readAsk_0 km M.2.2.1 km2 ?_
  have e3 : gi x 719 3 = nI A := by rw [c.2.2.2.1]; exact h3
  have eA : nI A = 24 ↔ A = 24 := nI_eq (a := A) (b := 24) (by omega) (by omega)
  rw [e3, eA]
  refine ⟨iv0 3 518 rfl (by omega) (by decide), fun z => ?_, fun z => sp_X8_errs (by decide) (fun y f h => ?_)⟩
  rotate_left
  · exact v_X8_readAsk_20 km (sp_X8_passes_b (by omega) (M.tf f).2.2.2.1 h (v_X8_readAsk_26 km (sp_X8_readCommon_b (C := C) h (M.tf f) (by rw [f.2 719 1 (by omega), c.2.2.2.1]; exact h1) hc (fun u fu => b30 (fun o => by have := o.1; omega) u (f.q.tr fu.q1) (fu.bd h) ((M.tf f).keep fu.1)))))
  have hA : A < 24 := by omega
  refine v_X8_readAsk_20 km (sp_X8_passes wj_11 c.1 (fun _ y1 f1 g1 => ?_) (fun o => absurd o11 o))
  have c1 := c.t f1.t g1
  have F1 : QFr x y1 := f1.q
  generalize tE b n p = q at c1 g1 k1 k0 b30
  refine v_X8_readAsk_26 km (sp_X8_readCommon c1 (fun o1 o2 y2 F2 c2 r2 => ?_) (fun o1 u F h => b30 (fun o => o1 ⟨o.2.1, o.2.2.1⟩) u (F1.tr F) h (c1.m.keep F.1)))
  have F2 := F1.tr F2
  have fin : ∀ (u : Cn) (v : Int32), QFr x u → RQ u b n (byp b n (nxt b n 7 q)) T lim W C S A → (∀ k, k < 6 → gi u 721 k = gi y2 721 k) → v = nI (byv b n (nxt b n 7 q)) → (isBy b n (nxt b n 7 q) → nb b n (nxt b n 8 q) 0 9) → (¬ gi (ui u 721 6 v) 717 11 = 0 → GV mX8_readAsk 68 [some (.ref 717)] [] KW (ui u 721 6 v) Q) ∧ (gi (ui u 721 6 v) 717 11 = 0 → mSV mX8_addsAsk [.ref 717] KW (ui u 721 6 v) (fun y => GV mX8_readAsk 68 [some (.ref 717)] [] KW y Q)) := by
    intro u v F cu ru hv o3
    have cu' := cu.u1 (k := 6) (v := v)
    refine ⟨fun z => absurd cu'.1.2.2.2 z, fun _ => sp_X8_addsAsk (f := akF b n q T C) (A := A) cu'.m km2 (by decide) (by rw [cu'.2.2.2.1]; exact h3) hA (fun k hk => ?_) (fun w w1 w2 w3 => v_X8_readAsk_68 ?_)⟩
    · unfold akF
      rcases lt7 hk with rfl | rfl | rfl | rfl | rfl | rfl | rfl
      · rw [gi_ui, if_neg (by omega)]; exact (ru 0 (by omega)).trans r2.1
      · rw [gi_ui, if_neg (by omega)]; exact (ru 1 (by omega)).trans r2.2.1
      · rw [gi_ui, if_neg (by omega)]; exact (ru 2 (by omega)).trans r2.2.2.1
      · rw [gi_ui, if_neg (by omega)]; exact (ru 3 (by omega)).trans r2.2.2.2.1
      · rw [gi_ui, if_neg (by omega)]; exact (ru 4 (by omega)).trans r2.2.2.2.2.1
      · rw [gi_ui, if_neg (by omega)]; exact (ru 5 (by omega)).trans r2.2.2.2.2.2
      · rw [gi_ui, if_pos ⟨rfl, rfl⟩]; exact hv
    · have Fw : QFr x w := (F.u (a := 721) (k := 6) (v := v) (by omega)).tr ⟨w1, fun a k h => w2 a k (by omega)⟩
      have gw : RG w b n (byp b n (nxt b n 7 q)) := ⟨cu'.1.1.q ⟨w1, fun a k h => w2 a k (by omega)⟩, cu'.1.2.1.mv (fun k _ _ => w2 717 k (by omega)), cu'.1.2.2.1, (w2 717 11 (by omega)).trans cu'.1.2.2.2⟩
      refine k1 ⟨hA, o1, o2, o3⟩ w Fw ⟨gw, (w2 717 13 (by omega)).trans cu'.2.1, (w2 717 14 (by omega)).trans cu'.2.2.1, by rw [w3, cu'.2.2.2.1], ?_⟩
      exact ⟨(askT_off (by omega) (by omega)).trans h0, hw, (askT_off (by omega) (by omega)).trans h1, hc, (askT_off (by omega) (by omega)).trans h2, hs, if_pos rfl, by omega, (askT_off (by omega) (by omega)).trans h4⟩
  refine v_X8_readAsk_30 km c2.m.2.2.2.2.1 km721 (sp_X8_eats wj_15 c2.1 (fun o y3 f3 g3 => ⟨fun z => absurd z (by decide), fun _ => ?_⟩) (fun o => ⟨fun _ => ⟨i7 6 (by omega), ?_⟩, fun z => absurd rfl z⟩))
  · have o' : tK b n (nxt b n 7 q) = 1 ∧ wnp b n (nxt b n 7 q) = 15 := o
    have g3 : RG y3 b n (nxt b n 8 q) := g3
    have c3 := c2.t f3.t g3
    have F3 := F2.tr f3.q
    refine sp_X8_number (lo := 0) (hi := 9) (by omega) (by omega) g3 (fun o3 y4 f4 g4 => ⟨i7 6 (by omega), ?_⟩) (fun o3 y4 f4 h => ⟨i7 6 (by omega), fun _ => v_X8_readAsk_68 (k0 (fun w => o3 (w.2.2.2 o)) _ ((F3.tr f4.q).u (by omega)) (h.u (by omega))), fun z => absurd z (h.u (by omega))⟩)
    have er : byp b n (nxt b n 7 q) = nxt b n 9 q := by unfold byp; rw [if_pos o', nxt_n]
    have ev : nI (tV b n (nxt b n 8 q)) = nI (byv b n (nxt b n 7 q)) := by unfold byv; rw [if_pos o', nxt_n]
    have g4 : RG y4 b n (nxt b n 9 q) := g4
    rw [← er] at g4
    exact fin y4 _ (F3.tr f4.q) (c3.t f4.t g4) (fun k hk => (f4.2 721 k (by omega)).trans (f3.2 721 k (by omega))) ev (fun _ => o3)
  · have o' : ¬ (tK b n (nxt b n 7 q) = 1 ∧ wnp b n (nxt b n 7 q) = 15) := o
    have er : byp b n (nxt b n 7 q) = nxt b n 7 q := by unfold byp; rw [if_neg o']
    have ev : (0 : Int32) = nI (byv b n (nxt b n 7 q)) := by unfold byv; rw [if_neg o']; rfl
    rw [← er] at c2
    exact fin y2 0 F2 c2 (fun k hk => rfl) ev (fun w => absurd w o)
def RQs (y : Cn) (b : TT) (n W : Nat) (s : PSt) : Prop := RQ y b n s.1 s.2.1 s.2.2.1 W s.2.2.2.1 s.2.2.2.2.1 s.2.2.2.2.2
end
set_option maxHeartbeats 2000000 in
theorem v_X8_readLine_0 {K : Sh} {x : Cn} {Q : Cn → Prop} {b0 : Nat}  (k_b0 : kk K b0 = some (8, 0)) (K0 : mSI mX8_isWord [.ref b0, .ref (mSB + 12)] K x (fun r_2 y_1 => (r_2 = 0 → (mSI mX8_isWord [.ref b0, .ref (mSB + 14)] K y_1 (fun r_5 y_4 => (r_5 = 0 → (mSI mX8_isWord [.ref b0, .ref (mSB + 22)] K y_4 (fun r_8 y_7 => (r_8 = 0 → (mSI mX8_isWord [.ref b0, .ref (mSB + 23)] K y_7 (fun r_11 y_10 => (r_11 = 0 → (mSV mX8_errs [.ref b0, .int 1, .int (gi y_10 b0 8)] K y_10 (fun y_13 => GV mX8_readLine 73 [some (.ref b0)] [] K y_13 Q))) ∧ (¬ r_11 = 0 → (mSV mX8_readAsk [.ref b0] K y_10 (fun y_14 => GV mX8_readLine 61 [some (.ref b0)] [] K y_14 Q)))))) ∧ (¬ r_8 = 0 → (mSV mX8_readSeries [.ref b0] K y_7 (fun y_15 => GV mX8_readLine 45 [some (.ref b0)] [] K y_15 Q)))))) ∧ (¬ r_5 = 0 → (mSV mX8_readCarrier [.ref b0] K y_4 (fun y_16 => GV mX8_readLine 29 [some (.ref b0)] [] K y_16 Q)))))) ∧ (¬ r_2 = 0 → (mSV mX8_readLimit [.ref b0] K y_1 (fun y_17 => GV mX8_readLine 13 [some (.ref b0)] [] K y_17 Q))))) : mSV mX8_readLine [.ref b0] K x Q := by
  refine s_V (by decide) (by simp [Value.category]) (Nat.le_of_ble_eq_true rfl) ?_
  show mGM mX8_readLine 0 [some (.ref b0)] [] (hp K x) (PV K Q)
  refine r_aload_n (pc := 0) dX8_readLine_0 rfl ?_
  refine r_ldcS (pc := 1) (j := 12) dX8_readLine_1 rfl ?_
  refine s_VI (pc := 3) mX8_isWord (ci := 8) (a := b0) (As := [.ref (mSB + 12)]) dX8_readLine_3 lk_X8_147 in_X8_isWord mo_X8_isWord ⟨by decide, rfl⟩ ⟨by decide, by decide⟩ (Nat.le_of_ble_eq_true rfl) k_b0 (mSI_mono K0 (fun r_2 y_1 K0 => ?_))
  refine r_if_eq (pc := 6) (tgt := 16) dX8_readLine_6 (by decide) (fun q => ?_) (fun q => ?_)
  · have K0 := K0.1 q
    refine r_aload_n (pc := 16) dX8_readLine_16 rfl ?_
    refine r_ldcS (pc := 17) (j := 14) dX8_readLine_17 rfl ?_
    refine s_VI (pc := 19) mX8_isWord (ci := 8) (a := b0) (As := [.ref (mSB + 14)]) dX8_readLine_19 lk_X8_147 in_X8_isWord mo_X8_isWord ⟨by decide, rfl⟩ ⟨by decide, by decide⟩ (Nat.le_of_ble_eq_true rfl) k_b0 (mSI_mono K0 (fun r_5 y_4 K0 => ?_))
    refine r_if_eq (pc := 22) (tgt := 32) dX8_readLine_22 (by decide) (fun q => ?_) (fun q => ?_)
    · have K0 := K0.1 q
      refine r_aload_n (pc := 32) dX8_readLine_32 rfl ?_
      refine r_ldcS (pc := 33) (j := 22) dX8_readLine_33 rfl ?_
      refine s_VI (pc := 35) mX8_isWord (ci := 8) (a := b0) (As := [.ref (mSB + 22)]) dX8_readLine_35 lk_X8_147 in_X8_isWord mo_X8_isWord ⟨by decide, rfl⟩ ⟨by decide, by decide⟩ (Nat.le_of_ble_eq_true rfl) k_b0 (mSI_mono K0 (fun r_8 y_7 K0 => ?_))
      refine r_if_eq (pc := 38) (tgt := 48) dX8_readLine_38 (by decide) (fun q => ?_) (fun q => ?_)
      · have K0 := K0.1 q
        refine r_aload_n (pc := 48) dX8_readLine_48 rfl ?_
        refine r_ldcS (pc := 49) (j := 23) dX8_readLine_49 rfl ?_
        refine s_VI (pc := 51) mX8_isWord (ci := 8) (a := b0) (As := [.ref (mSB + 23)]) dX8_readLine_51 lk_X8_147 in_X8_isWord mo_X8_isWord ⟨by decide, rfl⟩ ⟨by decide, by decide⟩ (Nat.le_of_ble_eq_true rfl) k_b0 (mSI_mono K0 (fun r_11 y_10 K0 => ?_))
        refine r_if_eq (pc := 54) (tgt := 64) dX8_readLine_54 (by decide) (fun q => ?_) (fun q => ?_)
        · have K0 := K0.1 q
          refine r_aload_n (pc := 64) dX8_readLine_64 rfl ?_
          refine r_iconst (pc := 65) (v := 1) dX8_readLine_65 (by decide) ?_
          refine r_aload_n (pc := 66) dX8_readLine_66 rfl ?_
          refine s_getI (pc := 67) dX8_readLine_67 fl_X8_116 rfl k_b0 ?_
          refine s_VV (pc := 70) mX8_errs (ci := 8) (a := b0) (As := [.int 1, .int (gi y_10 b0 8)]) dX8_readLine_70 lk_X8_157 in_X8_errs mo_X8_errs ⟨by decide, rfl⟩ ⟨by decide, by decide⟩ (Nat.le_of_ble_eq_true rfl) k_b0 (mSV_mono K0 (fun y_13 K0 => ?_))
          exact r_le (L' := [some (.ref b0)]) ⟨rfl, trivial⟩ K0
        · have K0 := K0.2 q
          refine r_aload_n (pc := 57) dX8_readLine_57 rfl ?_
          refine s_VV (pc := 58) mX8_readAsk (ci := 8) (a := b0) (As := []) dX8_readLine_58 lk_X8_253 in_X8_readAsk mo_X8_readAsk ⟨by decide, rfl⟩ ⟨by decide, by decide⟩ (Nat.le_of_ble_eq_true rfl) k_b0 (mSV_mono K0 (fun y_14 K0 => ?_))
          exact r_le (L' := [some (.ref b0)]) ⟨rfl, trivial⟩ K0
      · have K0 := K0.2 q
        refine r_aload_n (pc := 41) dX8_readLine_41 rfl ?_
        refine s_VV (pc := 42) mX8_readSeries (ci := 8) (a := b0) (As := []) dX8_readLine_42 lk_X8_250 in_X8_readSeries mo_X8_readSeries ⟨by decide, rfl⟩ ⟨by decide, by decide⟩ (Nat.le_of_ble_eq_true rfl) k_b0 (mSV_mono K0 (fun y_15 K0 => ?_))
        exact r_le (L' := [some (.ref b0)]) ⟨rfl, trivial⟩ K0
    · have K0 := K0.2 q
      refine r_aload_n (pc := 25) dX8_readLine_25 rfl ?_
      refine s_VV (pc := 26) mX8_readCarrier (ci := 8) (a := b0) (As := []) dX8_readLine_26 lk_X8_247 in_X8_readCarrier mo_X8_readCarrier ⟨by decide, rfl⟩ ⟨by decide, by decide⟩ (Nat.le_of_ble_eq_true rfl) k_b0 (mSV_mono K0 (fun y_16 K0 => ?_))
      exact r_le (L' := [some (.ref b0)]) ⟨rfl, trivial⟩ K0
  · have K0 := K0.2 q
    refine r_aload_n (pc := 9) dX8_readLine_9 rfl ?_
    refine s_VV (pc := 10) mX8_readLimit (ci := 8) (a := b0) (As := []) dX8_readLine_10 lk_X8_244 in_X8_readLimit mo_X8_readLimit ⟨by decide, rfl⟩ ⟨by decide, by decide⟩ (Nat.le_of_ble_eq_true rfl) k_b0 (mSV_mono K0 (fun y_17 K0 => ?_))
    exact r_le (L' := [some (.ref b0)]) ⟨rfl, trivial⟩ K0
set_option maxHeartbeats 2000000 in
theorem v_X8_readLine_13 {K : Sh} {x : Cn} {Q : Cn → Prop} {b0 : Nat}   (K0 : GV mX8_readLine 73 [some (.ref b0)] [] K x Q) : GV mX8_readLine 13 [some (.ref b0)] [] K x Q := by
  show mGM mX8_readLine 13 [some (.ref b0)] [] (hp K x) (PV K Q)
  refine r_goto (pc := 13) (tgt := 73) dX8_readLine_13 (by decide) ?_
  exact r_le (L' := [some (.ref b0)]) ⟨rfl, trivial⟩ K0
set_option maxHeartbeats 2000000 in
theorem v_X8_readLine_29 {K : Sh} {x : Cn} {Q : Cn → Prop} {b0 : Nat}   (K0 : GV mX8_readLine 73 [some (.ref b0)] [] K x Q) : GV mX8_readLine 29 [some (.ref b0)] [] K x Q := by
  show mGM mX8_readLine 29 [some (.ref b0)] [] (hp K x) (PV K Q)
  refine r_goto (pc := 29) (tgt := 73) dX8_readLine_29 (by decide) ?_
  exact r_le (L' := [some (.ref b0)]) ⟨rfl, trivial⟩ K0
set_option maxHeartbeats 2000000 in
theorem v_X8_readLine_45 {K : Sh} {x : Cn} {Q : Cn → Prop} {b0 : Nat}   (K0 : GV mX8_readLine 73 [some (.ref b0)] [] K x Q) : GV mX8_readLine 45 [some (.ref b0)] [] K x Q := by
  show mGM mX8_readLine 45 [some (.ref b0)] [] (hp K x) (PV K Q)
  refine r_goto (pc := 45) (tgt := 73) dX8_readLine_45 (by decide) ?_
  exact r_le (L' := [some (.ref b0)]) ⟨rfl, trivial⟩ K0
set_option maxHeartbeats 2000000 in
theorem v_X8_readLine_61 {K : Sh} {x : Cn} {Q : Cn → Prop} {b0 : Nat}   (K0 : GV mX8_readLine 73 [some (.ref b0)] [] K x Q) : GV mX8_readLine 61 [some (.ref b0)] [] K x Q := by
  show mGM mX8_readLine 61 [some (.ref b0)] [] (hp K x) (PV K Q)
  refine r_goto (pc := 61) (tgt := 73) dX8_readLine_61 (by decide) ?_
  exact r_le (L' := [some (.ref b0)]) ⟨rfl, trivial⟩ K0
set_option maxHeartbeats 2000000 in
theorem v_X8_readLine_73 {K : Sh} {x : Cn} {Q : Cn → Prop} {b0 : Nat}  (k_b0 : kk K b0 = some (8, 0)) (K0 : mSV mX8_passesByte [.ref b0, .int 59] K x (fun y_1 => GV mX8_readLine 79 [some (.ref b0)] [] K y_1 Q)) : GV mX8_readLine 73 [some (.ref b0)] [] K x Q := by
  show mGM mX8_readLine 73 [some (.ref b0)] [] (hp K x) (PV K Q)
  refine r_aload_n (pc := 73) dX8_readLine_73 rfl ?_
  refine r_bipush (pc := 74) (v := 59) dX8_readLine_74 (by decide) ?_
  refine s_VV (pc := 76) mX8_passesByte (ci := 8) (a := b0) (As := [.int 59]) dX8_readLine_76 lk_X8_227 in_X8_passesByte mo_X8_passesByte ⟨by decide, rfl⟩ ⟨by decide, by decide⟩ (Nat.le_of_ble_eq_true rfl) k_b0 (mSV_mono K0 (fun y_1 K0 => ?_))
  exact r_le (L' := [some (.ref b0)]) ⟨rfl, trivial⟩ K0
set_option maxHeartbeats 2000000 in
theorem v_X8_readLine_79 {K : Sh} {x : Cn} {Q : Cn → Prop} {b0 : Nat}   (K0 : Q x) : GV mX8_readLine 79 [some (.ref b0)] [] K x Q := by
  show mGM mX8_readLine 79 [some (.ref b0)] [] (hp K x) (PV K Q)
  exact s_ret rfl dX8_readLine_79 K0
section
theorem sp_X8_readLine {x : Cn} {Q : Cn → Prop} {b : TT} {n W : Nat} {s : PSt} (c : RQs x b n W s) (k1 : ok1 b n W s → ∀ y, QFr x y → RQs y b n W (nx1 b n s) → Q y) (k0 : ¬ ok1 b n W s → ∀ y, QFr x y → Bd y → Q y) : mSV mX8_readLine [.ref 717] KW x Q := by
  have c : RQ x b n s.1 s.2.1 s.2.2.1 W s.2.2.2.1 s.2.2.2.2.1 s.2.2.2.2.2 := c
  have ne : ∀ i j, i < 16 → j < 16 → i ≠ j → iw b n s.1 i → ¬ iw b n s.1 j := fun i j hi hj hij h1 h2 => hij ((nI_eq (by omega) (by omega)).mp (h1.2.symm.trans h2.2))
  have b73 : ¬ ok1 b n W s → ∀ u, QFr x u → Bd u → GV mX8_readLine 73 [some (.ref 717)] [] KW u Q := fun o u F h => v_X8_readLine_73 km (sp_X8_passesByte_b h (v_X8_readLine_79 (k0 o u F h)))
  refine v_X8_readLine_0 km ?_
  refine sp_X8_isWord wj_8 c.1 (fun o8 => ⟨fun z => absurd z (by decide), fun _ => ?_⟩) (fun n8 => ⟨fun _ => ?_, fun z => absurd rfl z⟩)
  · rw [nx1_8 o8] at k1
    refine sp_X8_readLimit c o8 (fun o y F cy => v_X8_readLine_13 (v_X8_readLine_73 km (sp_X8_passesByte (Or.inl rfl) cy.1 (fun w z f g => v_X8_readLine_79 (k1 (Or.inl ⟨o8, o.1, o.2.1, o.2.2.1, o.2.2.2.1, o.2.2.2.2.1, o.2.2.2.2.2, w⟩) z (F.tr f.q) (cy.t f.t g))) (fun w z f h => v_X8_readLine_79 (k0 (fun v => ?_) z (F.tr f.q) h))))) (fun o y F h => v_X8_readLine_13 (b73 (fun v => ?_) y F h))
    · rcases v with v | v | v | v
      · exact w v.2.2.2.2.2.2.2
      · exact ne 8 9 (by omega) (by omega) (by omega) o8 v.1
      · exact ne 8 10 (by omega) (by omega) (by omega) o8 v.1
      · exact ne 8 11 (by omega) (by omega) (by omega) o8 v.1
    · rcases v with v | v | v | v
      · exact o ⟨v.2.1, v.2.2.1, v.2.2.2.1, v.2.2.2.2.1, v.2.2.2.2.2.1, v.2.2.2.2.2.2.1⟩
      · exact ne 8 9 (by omega) (by omega) (by omega) o8 v.1
      · exact ne 8 10 (by omega) (by omega) (by omega) o8 v.1
      · exact ne 8 11 (by omega) (by omega) (by omega) o8 v.1
  refine sp_X8_isWord wj_9 c.1 (fun o9 => ⟨fun z => absurd z (by decide), fun _ => ?_⟩) (fun n9 => ⟨fun _ => ?_, fun z => absurd rfl z⟩)
  · rw [nx1_9 o9] at k1
    refine sp_X8_readCarrier c o9 (fun o y F cy => v_X8_readLine_29 (v_X8_readLine_73 km (sp_X8_passesByte (Or.inl rfl) cy.1 (fun w z f g => v_X8_readLine_79 (k1 (Or.inr (Or.inl ⟨o9, o.1, o.2.1, o.2.2, w⟩)) z (F.tr f.q) (cy.t f.t g))) (fun w z f h => v_X8_readLine_79 (k0 (fun v => ?_) z (F.tr f.q) h))))) (fun o y F h => v_X8_readLine_29 (b73 (fun v => ?_) y F h))
    · rcases v with v | v | v | v
      · exact n8 v.1
      · exact w v.2.2.2.2
      · exact ne 9 10 (by omega) (by omega) (by omega) o9 v.1
      · exact ne 9 11 (by omega) (by omega) (by omega) o9 v.1
    · rcases v with v | v | v | v
      · exact n8 v.1
      · exact o ⟨v.2.1, v.2.2.1, v.2.2.2.1⟩
      · exact ne 9 10 (by omega) (by omega) (by omega) o9 v.1
      · exact ne 9 11 (by omega) (by omega) (by omega) o9 v.1
  refine sp_X8_isWord wj_10 c.1 (fun o10 => ⟨fun z => absurd z (by decide), fun _ => ?_⟩) (fun n10 => ⟨fun _ => ?_, fun z => absurd rfl z⟩)
  · rw [nx1_10 o10] at k1
    refine sp_X8_readSeries c o10 (fun o y F cy => v_X8_readLine_45 (v_X8_readLine_73 km (sp_X8_passesByte (Or.inl rfl) cy.1 (fun w z f g => v_X8_readLine_79 (k1 (Or.inr (Or.inr (Or.inl ⟨o10, o⟩))) z (F.tr f.q) (cy.t f.t g))) (fun w z f h => absurd o.2.2.2.1 w)))) (fun o y F h => v_X8_readLine_45 (b73 (fun v => ?_) y F h))
    rcases v with v | v | v | v
    · exact n8 v.1
    · exact n9 v.1
    · exact o v.2
    · exact ne 10 11 (by omega) (by omega) (by omega) o10 v.1
  refine sp_X8_isWord wj_11 c.1 (fun o11 => ⟨fun z => absurd z (by decide), fun _ => ?_⟩) (fun n11 => ⟨fun _ => ?_, fun z => absurd rfl z⟩)
  · rw [nx1_11 o11] at k1
    refine sp_X8_readAsk c o11 (fun o y F cy => v_X8_readLine_61 (v_X8_readLine_73 km (sp_X8_passesByte (Or.inl rfl) cy.1 (fun w z f g => v_X8_readLine_79 (k1 (Or.inr (Or.inr (Or.inr ⟨o11, o.1, o.2.1, o.2.2.1, o.2.2.2, w⟩))) z (F.tr f.q) (cy.t f.t g))) (fun w z f h => v_X8_readLine_79 (k0 (fun v => ?_) z (F.tr f.q) h))))) (fun o y F h => v_X8_readLine_61 (b73 (fun v => ?_) y F h))
    · rcases v with v | v | v | v
      · exact n8 v.1
      · exact n9 v.1
      · exact n10 v.1
      · exact w v.2.2.2.2.2
    · rcases v with v | v | v | v
      · exact n8 v.1
      · exact n9 v.1
      · exact n10 v.1
      · exact o ⟨v.2.1, v.2.2.1, v.2.2.2.1, v.2.2.2.2.1⟩
  · refine sp_X8_errs (by decide) (fun u f h => b73 (fun v => ?_) u f.q h)
    rcases v with v | v | v | v
    · exact n8 v.1
    · exact n9 v.1
    · exact n10 v.1
    · exact n11 v.1
end
set_option maxHeartbeats 2000000 in
theorem v_X8_readAll_0 {K : Sh} {x : Cn} {Q : Int32 → Cn → Prop} {b0 : Nat}   (K0 : GI mX8_readAll 2 [some (.ref b0), some (.int 0)] [] K x Q) : mSI mX8_readAll [.ref b0] K x Q := by
  refine s_I (by decide) (by simp [Value.category]) (Nat.le_of_ble_eq_true rfl) ?_
  show mGM mX8_readAll 0 [some (.ref b0), none] [] (hp K x) (PI K Q)
  refine r_iconst (pc := 0) (v := 0) dX8_readAll_0 (by decide) ?_
  refine r_istore_n (pc := 1) dX8_readAll_1 (by decide) ?_
  exact r_le (L' := [some (.ref b0), some (.int 0)]) ⟨rfl, ⟨rfl, trivial⟩⟩ K0
set_option maxHeartbeats 2000000 in
theorem v_X8_readAll_2 {K : Sh} {x : Cn} {Q : Int32 → Cn → Prop} {b0 : Nat} {l1 : Int32} {b0_3 : Nat} {n_b0_3 : Nat} (k_b0 : kk K b0 = some (8, 0)) (g_b0_3 : gr x b0 3 = some b0_3) (k_b0_3 : kk K b0_3 = some (20, n_b0_3)) (K0 : (518 ≤ l1 → (GI mX8_readAll 24 [some (.ref b0), some (.int 0)] [] K x Q)) ∧ (¬ 518 ≤ l1 → (vp_in l1 n_b0_3 ∧ (GI mX8_readAll 2 [some (.ref b0), some (.int (l1 + 1))] [] K (ui x b0_3 (l1 : Int32).toNatClampNeg 0) Q)))) : GI mX8_readAll 2 [some (.ref b0), some (.int l1)] [] K x Q := by
  show mGM mX8_readAll 2 [some (.ref b0), some (.int l1)] [] (hp K x) (PI K Q)
  refine r_iload_n (pc := 2) dX8_readAll_2 rfl ?_
  refine r_sipush (pc := 3) (v := 518) dX8_readAll_3 (by decide) ?_
  refine r_icmp_ge (pc := 6) (tgt := 22) dX8_readAll_6 (by decide) (fun q => ?_) (fun q => ?_)
  · have K0 := K0.1 q
    refine r_iconst (pc := 22) (v := 0) dX8_readAll_22 (by decide) ?_
    refine r_istore_n (pc := 23) dX8_readAll_23 (by decide) ?_
    exact r_le (L' := [some (.ref b0), some (.int 0)]) ⟨rfl, ⟨rfl, trivial⟩⟩ K0
  · have K0 := K0.2 q
    refine r_aload_n (pc := 9) dX8_readAll_9 rfl ?_
    refine s_getR (pc := 10) dX8_readAll_10 fl_X8_16 rfl k_b0 g_b0_3 ?_
    refine r_iload_n (pc := 13) dX8_readAll_13 rfl ?_
    refine r_iconst (pc := 14) (v := 0) dX8_readAll_14 (by decide) ?_
    obtain ⟨i_2, K0⟩ := K0
    refine s_iast (pc := 15) dX8_readAll_15 k_b0_3 i_2 ?_
    refine r_iinc (pc := 16) (v := l1 + 1) dX8_readAll_16 rfl rfl (by decide) ?_
    refine r_goto (pc := 19) (L := [some (.ref b0), some (.int (l1 + 1))]) (tgt := 2) dX8_readAll_19 (by decide) ?_
    exact r_le (L' := [some (.ref b0), some (.int (l1 + 1))]) ⟨rfl, ⟨rfl, trivial⟩⟩ K0
set_option maxHeartbeats 2000000 in
theorem v_X8_readAll_24 {K : Sh} {x : Cn} {Q : Int32 → Cn → Prop} {b0 : Nat} {l1 : Int32} {b0_3 : Nat} {n_b0_3 : Nat} (k_b0 : kk K b0 = some (8, 0)) (g_b0_3 : gr x b0 3 = some b0_3) (k_b0_3 : kk K b0_3 = some (20, n_b0_3)) (K0 : (48 ≤ l1 → (mSV mX8_advance [.ref b0] K (ui (ui x b0 13 0) b0 14 0) (fun y_2 => GI mX8_readAll 60 [some (.ref b0), some (.int l1)] [] K y_2 Q))) ∧ (¬ 48 ≤ l1 → (vp_in (6 + l1) n_b0_3 ∧ (GI mX8_readAll 24 [some (.ref b0), some (.int (l1 + 1))] [] K (ui x b0_3 ((6 + l1) : Int32).toNatClampNeg 4) Q)))) : GI mX8_readAll 24 [some (.ref b0), some (.int l1)] [] K x Q := by
  show mGM mX8_readAll 24 [some (.ref b0), some (.int l1)] [] (hp K x) (PI K Q)
  refine r_iload_n (pc := 24) dX8_readAll_24 rfl ?_
  refine r_bipush (pc := 25) (v := 48) dX8_readAll_25 (by decide) ?_
  refine r_icmp_ge (pc := 27) (tgt := 46) dX8_readAll_27 (by decide) (fun q => ?_) (fun q => ?_)
  · have K0 := K0.1 q
    refine r_aload_n (pc := 46) dX8_readAll_46 rfl ?_
    refine r_iconst (pc := 47) (v := 0) dX8_readAll_47 (by decide) ?_
    refine s_putI (pc := 48) dX8_readAll_48 fl_X8_215 rfl rfl k_b0 ?_
    refine r_aload_n (pc := 51) dX8_readAll_51 rfl ?_
    refine r_iconst (pc := 52) (v := 0) dX8_readAll_52 (by decide) ?_
    refine s_putZ (pc := 53) dX8_readAll_53 fl_X8_207 rfl rfl k_b0 (by decide) ?_
    refine r_aload_n (pc := 56) dX8_readAll_56 rfl ?_
    refine s_VV (pc := 57) mX8_advance (ci := 8) (a := b0) (As := []) dX8_readAll_57 lk_X8_151 in_X8_advance mo_X8_advance ⟨by decide, rfl⟩ ⟨by decide, by decide⟩ (Nat.le_of_ble_eq_true rfl) k_b0 (mSV_mono K0 (fun y_2 K0 => ?_))
    exact r_le (L' := [some (.ref b0), some (.int l1)]) ⟨rfl, ⟨rfl, trivial⟩⟩ K0
  · have K0 := K0.2 q
    refine r_aload_n (pc := 30) dX8_readAll_30 rfl ?_
    refine s_getR (pc := 31) dX8_readAll_31 fl_X8_16 rfl k_b0 g_b0_3 ?_
    refine r_bipush (pc := 34) (v := 6) dX8_readAll_34 (by decide) ?_
    refine r_iload_n (pc := 36) dX8_readAll_36 rfl ?_
    refine r_iadd (pc := 37) dX8_readAll_37 ?_
    refine r_iconst (pc := 38) (v := 4) dX8_readAll_38 (by decide) ?_
    obtain ⟨i_3, K0⟩ := K0
    refine s_iast (pc := 39) dX8_readAll_39 k_b0_3 i_3 ?_
    refine r_iinc (pc := 40) (v := l1 + 1) dX8_readAll_40 rfl rfl (by decide) ?_
    refine r_goto (pc := 43) (L := [some (.ref b0), some (.int (l1 + 1))]) (tgt := 24) dX8_readAll_43 (by decide) ?_
    exact r_le (L' := [some (.ref b0), some (.int (l1 + 1))]) ⟨rfl, ⟨rfl, trivial⟩⟩ K0
set_option maxHeartbeats 2000000 in
theorem v_X8_readAll_60 {K : Sh} {x : Cn} {Q : Int32 → Cn → Prop} {b0 : Nat} {l1 : Int32}  (k_b0 : kk K b0 = some (8, 0)) (K0 : mSV mX8_passes [.ref b0, .ref (mSB + 11)] K x (fun y_1 => GI mX8_readAll 66 [some (.ref b0), some (.int l1)] [] K y_1 Q)) : GI mX8_readAll 60 [some (.ref b0), some (.int l1)] [] K x Q := by
  show mGM mX8_readAll 60 [some (.ref b0), some (.int l1)] [] (hp K x) (PI K Q)
  refine r_aload_n (pc := 60) dX8_readAll_60 rfl ?_
  refine r_ldcS (pc := 61) (j := 11) dX8_readAll_61 rfl ?_
  refine s_VV (pc := 63) mX8_passes (ci := 8) (a := b0) (As := [.ref (mSB + 11)]) dX8_readAll_63 lk_X8_211 in_X8_passes mo_X8_passes ⟨by decide, rfl⟩ ⟨by decide, by decide⟩ (Nat.le_of_ble_eq_true rfl) k_b0 (mSV_mono K0 (fun y_1 K0 => ?_))
  exact r_le (L' := [some (.ref b0), some (.int l1)]) ⟨rfl, ⟨rfl, trivial⟩⟩ K0
set_option maxHeartbeats 2000000 in
theorem v_X8_readAll_66 {K : Sh} {x : Cn} {Q : Int32 → Cn → Prop} {b0 : Nat} {l1 : Int32} {b0_3 : Nat} {n_b0_3 : Nat} (k_b0 : kk K b0 = some (8, 0)) (g_b0_3 : gr x b0 3 = some b0_3) (k_b0_3 : kk K b0_3 = some (20, n_b0_3)) (K0 : mSI mX8_number [.ref b0, .int 5, .int 30] K x (fun r_2 y_1 => vp_in 0 n_b0_3 ∧ (GI mX8_readAll 79 [some (.ref b0), some (.int l1)] [] K (ui y_1 b0_3 0 r_2) Q))) : GI mX8_readAll 66 [some (.ref b0), some (.int l1)] [] K x Q := by
  show mGM mX8_readAll 66 [some (.ref b0), some (.int l1)] [] (hp K x) (PI K Q)
  refine r_aload_n (pc := 66) dX8_readAll_66 rfl ?_
  refine s_getR (pc := 67) dX8_readAll_67 fl_X8_16 rfl k_b0 g_b0_3 ?_
  refine r_iconst (pc := 70) (v := 0) dX8_readAll_70 (by decide) ?_
  refine r_aload_n (pc := 71) dX8_readAll_71 rfl ?_
  refine r_iconst (pc := 72) (v := 5) dX8_readAll_72 (by decide) ?_
  refine r_bipush (pc := 73) (v := 30) dX8_readAll_73 (by decide) ?_
  refine s_VI (pc := 75) mX8_number (ci := 8) (a := b0) (As := [.int 5, .int 30]) dX8_readAll_75 lk_X8_218 in_X8_number mo_X8_number ⟨by decide, rfl⟩ ⟨by decide, by decide⟩ (Nat.le_of_ble_eq_true rfl) k_b0 (mSI_mono K0 (fun r_2 y_1 K0 => ?_))
  obtain ⟨i_3, K0⟩ := K0
  refine s_iast (pc := 78) dX8_readAll_78 k_b0_3 i_3 ?_
  exact r_le (L' := [some (.ref b0), some (.int l1)]) ⟨rfl, ⟨rfl, trivial⟩⟩ K0
set_option maxHeartbeats 2000000 in
theorem v_X8_readAll_79 {K : Sh} {x : Cn} {Q : Int32 → Cn → Prop} {b0 : Nat} {l1 : Int32}  (k_b0 : kk K b0 = some (8, 0)) (K0 : mSV mX8_passesByte [.ref b0, .int 59] K x (fun y_1 => GI mX8_readAll 85 [some (.ref b0), some (.int l1)] [] K y_1 Q)) : GI mX8_readAll 79 [some (.ref b0), some (.int l1)] [] K x Q := by
  show mGM mX8_readAll 79 [some (.ref b0), some (.int l1)] [] (hp K x) (PI K Q)
  refine r_aload_n (pc := 79) dX8_readAll_79 rfl ?_
  refine r_bipush (pc := 80) (v := 59) dX8_readAll_80 (by decide) ?_
  refine s_VV (pc := 82) mX8_passesByte (ci := 8) (a := b0) (As := [.int 59]) dX8_readAll_82 lk_X8_227 in_X8_passesByte mo_X8_passesByte ⟨by decide, rfl⟩ ⟨by decide, by decide⟩ (Nat.le_of_ble_eq_true rfl) k_b0 (mSV_mono K0 (fun y_1 K0 => ?_))
  exact r_le (L' := [some (.ref b0), some (.int l1)]) ⟨rfl, ⟨rfl, trivial⟩⟩ K0
set_option maxHeartbeats 2000000 in
theorem v_X8_readAll_85 {K : Sh} {x : Cn} {Q : Int32 → Cn → Prop} {b0 : Nat} {l1 : Int32}   (K0 : GI mX8_readAll 87 [some (.ref b0), some (.int 1)] [] K x Q) : GI mX8_readAll 85 [some (.ref b0), some (.int l1)] [] K x Q := by
  show mGM mX8_readAll 85 [some (.ref b0), some (.int l1)] [] (hp K x) (PI K Q)
  refine r_iconst (pc := 85) (v := 1) dX8_readAll_85 (by decide) ?_
  refine r_istore_n (pc := 86) dX8_readAll_86 (by decide) ?_
  exact r_le (L' := [some (.ref b0), some (.int 1)]) ⟨rfl, ⟨rfl, trivial⟩⟩ K0
set_option maxHeartbeats 2000000 in
theorem v_X8_readAll_87 {K : Sh} {x : Cn} {Q : Int32 → Cn → Prop} {b0 : Nat} {l1 : Int32}  (k_b0 : kk K b0 = some (8, 0)) (K0 : (¬ (gi x b0 11 = 0) → (Q l1 x)) ∧ ((gi x b0 11 = 0) → (((gi x b0 9) = 0 → (Q l1 x)) ∧ (¬ (gi x b0 9) = 0 → (mSV mX8_readLine [.ref b0] K x (fun y_3 => GI mX8_readAll 105 [some (.ref b0), some (.int l1)] [] K y_3 Q)))))) : GI mX8_readAll 87 [some (.ref b0), some (.int l1)] [] K x Q := by
  show mGM mX8_readAll 87 [some (.ref b0), some (.int l1)] [] (hp K x) (PI K Q)
  refine r_aload_n (pc := 87) dX8_readAll_87 rfl ?_
  refine s_VI (pc := 88) mX8_good (ci := 8) (a := b0) (As := []) dX8_readAll_88 lk_X8_104 in_X8_good mo_X8_good ⟨by decide, rfl⟩ ⟨by decide, by decide⟩ (Nat.le_of_ble_eq_true rfl) k_b0 (sp_X8_good k_b0 ?_)
  refine r_if_eq (pc := 91) (tgt := 111) dX8_readAll_91 (by decide) (fun q => ?_) (fun q => ?_)
  · have q := (b2i_z _).mp q
    have K0 := K0.1 q
    refine r_iload_n (pc := 111) dX8_readAll_111 rfl ?_
    exact s_iret rfl dX8_readAll_112 K0
  · have q := b2i_nz q
    have K0 := K0.2 q
    refine r_aload_n (pc := 94) dX8_readAll_94 rfl ?_
    refine s_getI (pc := 95) dX8_readAll_95 fl_X8_119 rfl k_b0 ?_
    refine r_if_eq (pc := 98) (tgt := 111) dX8_readAll_98 (by decide) (fun q => ?_) (fun q => ?_)
    · have K0 := K0.1 q
      refine r_iload_n (pc := 111) dX8_readAll_111 rfl ?_
      exact s_iret rfl dX8_readAll_112 K0
    · have K0 := K0.2 q
      refine r_aload_n (pc := 101) dX8_readAll_101 rfl ?_
      refine s_VV (pc := 102) mX8_readLine (ci := 8) (a := b0) (As := []) dX8_readAll_102 lk_X8_256 in_X8_readLine mo_X8_readLine ⟨by decide, rfl⟩ ⟨by decide, by decide⟩ (Nat.le_of_ble_eq_true rfl) k_b0 (mSV_mono K0 (fun y_3 K0 => ?_))
      exact r_le (L' := [some (.ref b0), some (.int l1)]) ⟨rfl, ⟨rfl, trivial⟩⟩ K0
set_option maxHeartbeats 2000000 in
theorem v_X8_readAll_105 {K : Sh} {x : Cn} {Q : Int32 → Cn → Prop} {b0 : Nat} {l1 : Int32}   (K0 : GI mX8_readAll 87 [some (.ref b0), some (.int (l1 + 1))] [] K x Q) : GI mX8_readAll 105 [some (.ref b0), some (.int l1)] [] K x Q := by
  show mGM mX8_readAll 105 [some (.ref b0), some (.int l1)] [] (hp K x) (PI K Q)
  refine r_iinc (pc := 105) (v := l1 + 1) dX8_readAll_105 rfl rfl (by decide) ?_
  refine r_goto (pc := 108) (L := [some (.ref b0), some (.int (l1 + 1))]) (tgt := 87) dX8_readAll_108 (by decide) ?_
  exact r_le (L' := [some (.ref b0), some (.int (l1 + 1))]) ⟨rfl, ⟨rfl, trivial⟩⟩ K0
section
theorem lp_X8_readAll_87 {x : Cn} {Q : Int32 → Cn → Prop} {b : TT} {n W : Nat} : ∀ d s y L0, n < s.1 + d → QFr x y → RQs y b n W s → (∀ t L z, runs b n W d s t L → QFr x z → RQs z b n W t → Q (nI (L0 + L)) z) → (fails b n W d s → ∀ z r, QFr x z → Bd z → Q r z) → GI mX8_readAll 87 [some (.ref 717), some (.int (nI L0))] [] KW y Q := by
  intro d
  induction d with
  | zero =>
    intro s y L0 h1 f c k1 k0
    have : s.1 ≤ n := c.1.2.2.1
    omega
  | succ d ih =>
    intro s y L0 h1 f c k1 k0
    have hp : s.1 ≤ n := c.1.2.2.1
    have ek : gi y 717 9 = 0 ↔ tK b n s.1 = 0 := RTk.k (b := b) c.1.2.1 0 (by omega)
    refine v_X8_readAll_87 km ⟨fun z => absurd c.1.2.2.2 z, fun _ => ?_⟩
    rw [ek]
    refine ⟨fun z => k1 s 0 y (Or.inl ⟨z, rfl, rfl⟩) f c, fun z => ?_⟩
    have hg := nx1_gt (b := b) hp z
    refine sp_X8_readLine c (fun o w fw cw => v_X8_readAll_105 ?_) (fun o w fw h => v_X8_readAll_105 (v_X8_readAll_87 km ⟨fun _ => k0 ⟨z, Or.inl o⟩ w _ (f.tr fw) h, fun q => absurd q h⟩))
    rw [← nI_succ]
    exact ih (nx1 b n s) w (L0 + 1) (by omega) (f.tr fw) cw (fun t L z' r f' c' => by
      have := k1 t (L + 1) z' (Or.inr ⟨z, o, L, rfl, r⟩) f' c'
      rw [show L0 + (L + 1) = L0 + 1 + L by omega] at this
      exact this) (fun r z' v f' h => k0 ⟨z, Or.inr ⟨o, r⟩⟩ z' v f' h)
theorem lp_X8_readAll_2 {x : Cn} {Q : Int32 → Cn → Prop} (M : MRf x 719) (k : ∀ y, EQx x y 719 → gi y 719 = (fun i => if i < 518 then 0 else gi x 719 i) → GI mX8_readAll 24 [some (.ref 717), some (.int 0)] [] KW y Q) : ∀ d i y, i + d = 518 → EQx x y 719 → gi y 719 = (fun m => if m < i then 0 else gi x 719 m) → GI mX8_readAll 2 [some (.ref 717), some (.int (nI i))] [] KW y Q := by
  intro d
  induction d with
  | zero =>
    intro i y hi f hy
    obtain rfl : i = 518 := by omega
    exact v_X8_readAll_2 km (M.keep f.1).2.2.1 km2 ⟨fun _ => k y f hy, fun z => absurd (by decide) z⟩
  | succ d ih =>
    intro i y hi f hy
    refine v_X8_readAll_2 km (M.keep f.1).2.2.1 km2 ⟨fun z => absurd z (nI_ge (a := i) (b := 518) (by omega) (by omega)), fun _ => ⟨vp_in_nI (by omega) (by decide), ?_⟩⟩
    rw [nI_clamp (by omega), ← nI_succ]
    refine ih (i + 1) _ (by omega) f.ui ?_
    rw [gi_719, hy]
    funext m
    unfold uT
    by_cases e : m = i
    · rw [if_pos e, if_pos (by omega)]
    · rw [if_neg e]
      show (if m < i then 0 else gi x 719 m) = _
      by_cases g : m < i
      · rw [if_pos g, if_pos (by omega)]
      · rw [if_neg g, if_neg (by omega)]
theorem lp_X8_readAll_24 {x : Cn} {Q : Int32 → Cn → Prop} {j : TT} (M : MRf x 719) (k : ∀ y, EQx x y 719 → gi y 719 = T00 j → mSV mX8_advance [.ref 717] KW (ui (ui y 717 13 0) 717 14 0) (fun y_2 => GI mX8_readAll 60 [some (.ref 717), some (.int (nI 48))] [] KW y_2 Q)) : ∀ d i y, i + d = 48 → EQx x y 719 → gi y 719 = (fun m => if m < 518 then (if 6 ≤ m ∧ m < 6 + i then 4 else 0) else j m) → GI mX8_readAll 24 [some (.ref 717), some (.int (nI i))] [] KW y Q := by
  intro d
  induction d with
  | zero =>
    intro i y hi f hy
    obtain rfl : i = 48 := by omega
    exact v_X8_readAll_24 km (M.keep f.1).2.2.1 km2 ⟨fun _ => k y f hy, fun z => absurd (by decide) z⟩
  | succ d ih =>
    intro i y hi f hy
    have i6 : (6 : Int32) + nI i = nI (6 + i) := by rw [show (6 : Int32) = nI 6 from rfl, nI_add]
    refine v_X8_readAll_24 km (M.keep f.1).2.2.1 km2 ⟨fun z => absurd z (nI_ge (a := i) (b := 48) (by omega) (by omega)), fun _ => ?_⟩
    rw [i6, nI_clamp (by omega), ← nI_succ]
    refine ⟨vp_in_nI (by omega) (by decide), ih (i + 1) _ (by omega) f.ui ?_⟩
    rw [gi_719, hy]
    funext m
    unfold uT
    by_cases e : m = 6 + i
    · rw [if_pos e, if_pos (by omega), if_pos (by omega)]
    · rw [if_neg e]
      show (if m < 518 then (if 6 ≤ m ∧ m < 6 + i then 4 else 0) else j m) = _
      by_cases g : m < 518
      · rw [if_pos g, if_pos g]
        by_cases h : 6 ≤ m ∧ m < 6 + i
        · rw [if_pos h, if_pos (by omega)]
        · rw [if_neg h, if_neg (by omega)]
      · rw [if_neg g, if_neg g]
theorem sp_X8_readAll {x : Cn} {Q : Int32 → Cn → Prop} {b : TT} {n : Nat} (Z : RZ x b n) (h7 : gi x 717 7 = nI 0) (h11 : gi x 717 11 = 0) (k1 : okW b n 0 → ∀ t L y, runs b n (tV b n (nxt b n 1 0)) (n + 1) (s00 b n (gi x 719)) t L → QFr x y → RQs y b n (tV b n (nxt b n 1 0)) t → Q (nI (1 + L)) y) (k0 : (¬ okW b n 0 ∨ (okW b n 0 ∧ fails b n (tV b n (nxt b n 1 0)) (n + 1) (s00 b n (gi x 719)))) → ∀ y r, QFr x y → Bd y → Q r y) : mSI mX8_readAll [.ref 717] KW x Q := by
  have M := Z.2.2.2.2
  have b87 : (¬ okW b n 0) → ∀ u, QFr x u → Bd u → GI mX8_readAll 85 [some (.ref 717), some (.int (nI 48))] [] KW u Q := fun o u F h => v_X8_readAll_85 (v_X8_readAll_87 km ⟨fun _ => k0 (Or.inl o) u _ F h, fun z => absurd z h⟩)
  have b79 : (¬ okW b n 0) → ∀ u, QFr x u → Bd u → GI mX8_readAll 79 [some (.ref 717), some (.int (nI 48))] [] KW u Q := fun o u F h => v_X8_readAll_79 km (sp_X8_passesByte_b h (b87 o u F h))
  refine v_X8_readAll_0 (lp_X8_readAll_2 M (fun y1 f1 e1 => ?_) 518 0 x (by omega) (EQx.rf x 719) (by funext m; rw [if_neg (by omega)]))
  refine lp_X8_readAll_24 (x := y1) (j := gi x 719) (M.keep f1.1) (fun y2 f2 e2 => ?_) 48 0 y1 (by omega) (EQx.rf y1 719) (by
    rw [e1]
    funext m
    by_cases g : m < 518
    · rw [if_pos g, if_pos g, if_neg (by omega)]
    · rw [if_neg g, if_neg g])
  have F2 : QFr x y2 := ⟨f2.1.trans f1.1, fun a k h => (f2.2 a k (by omega)).trans (f1.2 a k (by omega))⟩
  have F3 : QFr x (ui (ui y2 717 13 0) 717 14 0) := (F2.u (by omega)).u (by omega)
  have Z3 := Z.q F3
  have e3 : gi (ui (ui y2 717 13 0) 717 14 0) 719 = T00 (gi x 719) := (funext fun i => by rw [gi_ui, if_neg (by omega), gi_ui, if_neg (by omega)]).trans e2
  have e7 : gi (ui (ui y2 717 13 0) 717 14 0) 717 7 = nI 0 := by rw [gi_ui, if_neg (by omega), gi_ui, if_neg (by omega), f2.2 717 7 (by omega), f1.2 717 7 (by omega)]; exact h7
  have e11 : gi (ui (ui y2 717 13 0) 717 14 0) 717 11 = 0 := by rw [gi_ui, if_neg (by omega), gi_ui, if_neg (by omega), f2.2 717 11 (by omega), f1.2 717 11 (by omega)]; exact h11
  have e13 : gi (ui (ui y2 717 13 0) 717 14 0) 717 13 = 0 := by rw [gi_ui, if_neg (by omega), gi_ui, if_pos ⟨rfl, rfl⟩]
  have e14 : gi (ui (ui y2 717 13 0) 717 14 0) 717 14 = 0 := by rw [gi_ui, if_pos ⟨rfl, rfl⟩]
  generalize ui (ui y2 717 13 0) 717 14 0 = u at F3 Z3 e3 e7 e11 e13 e14
  refine sp_X8_advance (p := 0) Z3.2.2.2.2.2.2.2.1 Z3.1 Z3.2.2.1 Z3.2.2.2.1 Z3.2.1 e7 (by omega) (fun y4 f4 t4 => ?_)
  have F4 := F3.tr f4.q
  have g4 : RG y4 b n 0 := ⟨Z3.q f4.q, t4, by omega, (f4.2 717 11 (by omega)).trans e11⟩
  refine v_X8_readAll_60 km (sp_X8_passes wj_7 g4 (fun o1 y5 f5 g5 => ?_) (fun o1 y5 f5 h => v_X8_readAll_66 km ((M.keep (F4.tr f5.q).1)).2.2.1 km2 (sp_X8_number_b h ⟨iv0 0 518 rfl (by omega) (by decide), b79 (fun o => o1 o.1) _ ((F4.tr f5.q).u (by omega)) (h.u (by omega))⟩)))
  have F5 := F4.tr f5.q
  have g5 : RG y5 b n (nxt b n 1 0) := g5
  refine v_X8_readAll_66 km (M.keep F5.1).2.2.1 km2 (sp_X8_number (lo := 5) (hi := 30) (by omega) (by omega) g5 (fun o2 y6 f6 g6 => ⟨iv0 0 518 rfl (by omega) (by decide), ?_⟩) (fun o2 y6 f6 h => ⟨iv0 0 518 rfl (by omega) (by decide), b79 (fun o => o2 o.2.1) _ ((F5.tr f6.q).u (by omega)) (h.u (by omega))⟩))
  have g6 : RG y6 b n (nxt b n 2 0) := g6
  have g6' : RG (ui y6 719 0 (nI (tV b n (nxt b n 1 0)))) b n (nxt b n 2 0) := g6.u (by omega)
  have F6 : QFr x (ui y6 719 0 (nI (tV b n (nxt b n 1 0)))) := (F5.tr f6.q).u (by omega)
  have hk : ∀ k, 13 ≤ k → k ≤ 14 → gi (ui y6 719 0 (nI (tV b n (nxt b n 1 0)))) 717 k = gi u 717 k := fun k h1 h2 => by rw [gi_ui, if_neg (by omega), f6.2 717 k (by omega), f5.2 717 k (by omega), f4.2 717 k (by omega)]
  have eT : gi (ui y6 719 0 (nI (tV b n (nxt b n 1 0)))) 719 = uT (T00 (gi x 719)) 0 (nI (tV b n (nxt b n 1 0))) := by
    rw [gi_719, show gi y6 719 = gi u 719 from funext (fun i => by rw [f6.2 719 i (by omega), f5.2 719 i (by omega), f4.2 719 i (by omega)]), e3]
  have c6 : RQ (ui y6 719 0 (nI (tV b n (nxt b n 1 0)))) b n (nxt b n 2 0) (uT (T00 (gi x 719)) 0 (nI (tV b n (nxt b n 1 0)))) 0 (tV b n (nxt b n 1 0)) 0 0 0 := ⟨g6', (hk 13 (by omega) (by omega)).trans e13, ((hk 14 (by omega) (by omega)).trans e14).trans (b2i_f (by omega)).symm, eT, uT_at _ _ _, o2.2, (uT_ne _ _ (by omega)).trans (T00_0 (by omega)), by omega, (uT_ne _ _ (by omega)).trans (T00_0 (by omega)), by omega, (uT_ne _ _ (by omega)).trans (T00_0 (by omega)), by omega, (uT_ne _ _ (by omega)).trans (T00_0 (by omega))⟩
  generalize ui y6 719 0 (nI (tV b n (nxt b n 1 0))) = v at g6' F6 c6
  refine v_X8_readAll_79 km (sp_X8_passesByte (Or.inl rfl) g6' (fun o3 y7 f7 g7 => v_X8_readAll_85 ?_) (fun o3 y7 f7 h => b87 (fun o => o3 o.2.2) y7 (F6.tr f7.q) h))
  have g7 : RG y7 b n (nxt b n 3 0) := g7
  have okw : okW b n 0 := ⟨o1, o2, o3⟩
  exact lp_X8_readAll_87 (b := b) (n := n) (W := tV b n (nxt b n 1 0)) (n + 1) (s00 b n (gi x 719)) y7 1 (by omega) (F6.tr f7.q) (c6.t f7.t g7) (fun t L z r f' c' => k1 okw t L z r f' c') (fun r z v f' h => k0 (Or.inr ⟨okw, r⟩) z v f' h)

end
end
/-! 75.text.lean.txt -/
section
/-! text: both sides -/
theorem runs_det {b : TT} {n W : Nat} : ∀ d s t t' L L', runs b n W d s t L → runs b n W d s t' L' → t = t' ∧ L = L' := by
  intro d
  induction d with
  | zero => intro s t t' L L' h; exact absurd h (fun z => z)
  | succ d ih =>
    intro s t t' L L' h h'
    rcases h with ⟨a1, a2, a3⟩ | ⟨a1, a2, l, a3, a4⟩
    · rcases h' with ⟨b1, b2, b3⟩ | ⟨b1, b2, l', b3, b4⟩
      · exact ⟨a2.trans b2.symm, a3.trans b3.symm⟩
      · exact absurd a1 b1
    · rcases h' with ⟨b1, b2, b3⟩ | ⟨b1, b2, l', b3, b4⟩
      · exact absurd b1 a1
      · obtain ⟨e1, e2⟩ := ih _ _ _ _ _ a4 b4
        exact ⟨e1, by omega⟩
theorem runs_no {b : TT} {n W : Nat} : ∀ d s t L, runs b n W d s t L → ¬ fails b n W d s := by
  intro d
  induction d with
  | zero => intro s t L h; exact absurd h (fun z => z)
  | succ d ih =>
    intro s t L h f
    obtain ⟨f1, f2⟩ := f
    rcases h with ⟨a1, -⟩ | ⟨a1, a2, l, a3, a4⟩
    · exact f1 a1
    · rcases f2 with f2 | ⟨-, f2⟩
      · exact f2 a2
      · exact ih _ _ _ a4 f2
set_option maxHeartbeats 2000000 in
theorem v_X1_copyFrom_0 {K : Sh} {x : Cn} {Q : Cn → Prop} {b0 : Nat} {b1 : Nat}  (k_b1 : kk K b1 = some (1, 0)) (k_b0 : kk K b0 = some (1, 0)) (K0 : GV mX1_copyFrom 10 [some (.ref b0), some (.ref b1), some (.int 0)] [] K (ui x b0 0 (gi x b1 0)) Q) : mSV mX1_copyFrom [.ref b0, .ref b1] K x Q := by
  refine s_V (by decide) (by simp [Value.category]) (Nat.le_of_ble_eq_true rfl) ?_
  show mGM mX1_copyFrom 0 [some (.ref b0), some (.ref b1), none] [] (hp K x) (PV K Q)
  refine r_aload_n (pc := 0) dX1_copyFrom_0 rfl ?_
  refine r_aload_n (pc := 1) dX1_copyFrom_1 rfl ?_
  refine s_getI (pc := 2) dX1_copyFrom_2 fl_X1_9 rfl k_b1 ?_
  refine s_putI (pc := 5) dX1_copyFrom_5 fl_X1_9 rfl rfl k_b0 ?_
  refine r_iconst (pc := 8) (v := 0) dX1_copyFrom_8 (by decide) ?_
  refine r_istore_n (pc := 9) dX1_copyFrom_9 (by decide) ?_
  exact r_le (L' := [some (.ref b0), some (.ref b1), some (.int 0)]) ⟨rfl, ⟨rfl, ⟨rfl, trivial⟩⟩⟩ K0
set_option maxHeartbeats 2000000 in
theorem v_X1_copyFrom_10 {K : Sh} {x : Cn} {Q : Cn → Prop} {b0 : Nat} {b1 : Nat} {l2 : Int32} {b0_1 : Nat} {n_b0_1 : Nat} {b1_1 : Nat} {n_b1_1 : Nat} (k_b0 : kk K b0 = some (1, 0)) (g_b0_1 : gr x b0 1 = some b0_1) (k_b0_1 : kk K b0_1 = some (20, n_b0_1)) (k_b1 : kk K b1 = some (1, 0)) (g_b1_1 : gr x b1 1 = some b1_1) (k_b1_1 : kk K b1_1 = some (20, n_b1_1)) (K0 : ((Int32.ofNat n_b0_1) ≤ l2 → (Q x)) ∧ (¬ (Int32.ofNat n_b0_1) ≤ l2 → (vp_in l2 n_b1_1 ∧ (vp_in l2 n_b0_1 ∧ (GV mX1_copyFrom 10 [some (.ref b0), some (.ref b1), some (.int (l2 + 1))] [] K (ui x b0_1 (l2 : Int32).toNatClampNeg (gi x b1_1 (l2 : Int32).toNatClampNeg)) Q))))) : GV mX1_copyFrom 10 [some (.ref b0), some (.ref b1), some (.int l2)] [] K x Q := by
  show mGM mX1_copyFrom 10 [some (.ref b0), some (.ref b1), some (.int l2)] [] (hp K x) (PV K Q)
  refine r_iload_n (pc := 10) dX1_copyFrom_10 rfl ?_
  refine r_aload_n (pc := 11) dX1_copyFrom_11 rfl ?_
  refine s_getR (pc := 12) dX1_copyFrom_12 fl_X1_15 rfl k_b0 g_b0_1 ?_
  refine s_alen (pc := 15) dX1_copyFrom_15 k_b0_1 (by decide) ?_
  refine r_icmp_ge (pc := 16) (tgt := 37) dX1_copyFrom_16 (by decide) (fun q => ?_) (fun q => ?_)
  · have K0 := K0.1 q
    exact s_ret rfl dX1_copyFrom_37 K0
  · have K0 := K0.2 q
    refine r_aload_n (pc := 19) dX1_copyFrom_19 rfl ?_
    refine s_getR (pc := 20) dX1_copyFrom_20 fl_X1_15 rfl k_b0 g_b0_1 ?_
    refine r_iload_n (pc := 23) dX1_copyFrom_23 rfl ?_
    refine r_aload_n (pc := 24) dX1_copyFrom_24 rfl ?_
    refine s_getR (pc := 25) dX1_copyFrom_25 fl_X1_15 rfl k_b1 g_b1_1 ?_
    refine r_iload_n (pc := 28) dX1_copyFrom_28 rfl ?_
    obtain ⟨i_2, K0⟩ := K0
    refine s_iald (pc := 29) dX1_copyFrom_29 k_b1_1 i_2 ?_
    obtain ⟨i_3, K0⟩ := K0
    refine s_iast (pc := 30) dX1_copyFrom_30 k_b0_1 i_3 ?_
    refine r_iinc (pc := 31) (v := l2 + 1) dX1_copyFrom_31 rfl rfl (by decide) ?_
    refine r_goto (pc := 34) (L := [some (.ref b0), some (.ref b1), some (.int (l2 + 1))]) (tgt := 10) dX1_copyFrom_34 (by decide) ?_
    exact r_le (L' := [some (.ref b0), some (.ref b1), some (.int (l2 + 1))]) ⟨rfl, ⟨rfl, ⟨rfl, trivial⟩⟩⟩ K0
section
theorem lp_X1_copyFrom {x : Cn} {Q : Cn → Prop} (g1 : gr x 56 1 = some 57) (g2 : gr x 114 1 = some 115) (k : ∀ y, EQx x y 57 → (∀ i, i < 48 → gi y 57 i = gi x 115 i) → Q y) : ∀ d i y, i + d = 48 → EQx x y 57 → (∀ j, j < i → gi y 57 j = gi x 115 j) → GV mX1_copyFrom 10 [some (.ref 56), some (.ref 114), some (.int (nI i))] [] KW y Q := by
  have k57 : kk KW 57 = some (20, 48) := by decide
  have k56 : kk KW 56 = some (1, 0) := by decide
  intro d
  induction d with
  | zero =>
    intro i y hi f h
    have hg : ∀ a j, gr y a j = gr x a j := fun a j => by unfold gr; rw [f.1]
    exact v_X1_copyFrom_10 k56 ((hg _ _).trans g1) k57 k114 ((hg _ _).trans g2) k115 ⟨fun _ => k y f (fun j hj => h j (by omega)), fun z => absurd (nI_le (a := 48) (b := i) (by omega) (by omega)) z⟩
  | succ d ih =>
    intro i y hi f h
    have hg : ∀ a j, gr y a j = gr x a j := fun a j => by unfold gr; rw [f.1]
    refine v_X1_copyFrom_10 k56 ((hg _ _).trans g1) k57 k114 ((hg _ _).trans g2) k115 ⟨fun z => absurd z (nI_ge (a := i) (b := 48) (by omega) (by omega)), fun _ => ⟨vp_in_nI (by omega) (by decide), vp_in_nI (by omega) (by decide), ?_⟩⟩
    rw [nI_clamp (by omega), ← nI_succ]
    refine ih (i + 1) _ (by omega) f.ui (fun j hj => ?_)
    by_cases e : j = i
    · rw [e, gi_ui, if_pos ⟨rfl, rfl⟩]; exact f.2 115 i (by omega)
    · rw [gi_ui, if_neg (by omega)]; exact h j (by omega)
theorem sp_X1_copyFrom {x : Cn} {Q : Cn → Prop} (g1 : gr x 56 1 = some 57) (g2 : gr x 114 1 = some 115) (k : ∀ y, y.2 = x.2 → (∀ a j, a ≠ 57 → ¬ (a = 56 ∧ j = 0) → gi y a j = gi x a j) → gi y 56 0 = gi x 114 0 → (∀ i, i < 48 → gi y 57 i = gi x 115 i) → Q y) : mSV mX1_copyFrom [.ref 56, .ref 114] KW x Q := by
  refine v_X1_copyFrom_0 k114 (by decide) ?_
  refine lp_X1_copyFrom (x := ui x 56 0 (gi x 114 0)) g1 g2 (fun y f h => ?_) 48 0 _ (by omega) (EQx.rf _ 57) (fun j hj => absurd hj (by omega))
  exact k y f.1 (fun a j h1 h2 => by rw [f.2 a j h1, gi_ui, if_neg h2]) (by rw [f.2 56 0 (by omega), gi_ui, if_pos ⟨rfl, rfl⟩]) (fun i hi => by rw [h i hi, gi_ui, if_neg (by omega)])
theorem SRf.r {x z : Cn} {q : Nat} (h : SRf x q) (e : ∀ a k, q ≤ a → a < q + 54 → gr z a k = gr x a k) : SRf z q := by
  obtain ⟨r1, r2, r3, r4, r5, r6, r7, r8, r9⟩ := h
  refine ⟨(e _ _ (by omega) (by omega)).trans r1, (e _ _ (by omega) (by omega)).trans r2, (e _ _ (by omega) (by omega)).trans r3, (e _ _ (by omega) (by omega)).trans r4, (e _ _ (by omega) (by omega)).trans r5, fun s hs => ?_, fun s t hs ht => ?_, fun s hs => ?_, fun s t hs ht => ?_⟩
  · rw [e _ _ (by omega) (by omega)]; exact r6 s hs
  · rw [e _ _ (by omega) (by omega), e _ _ (by omega) (by omega)]; exact r7 s t hs ht
  · rw [e _ _ (by omega) (by omega)]; exact r8 s hs
  · rw [e _ _ (by omega) (by omega), e _ _ (by omega) (by omega)]; exact r9 s t hs ht
theorem CRf.tx {x z : Cn} (h : CRf x) (e : ∀ a k, ¬ (a = 59 ∧ k = 5) → gr z a k = gr x a k) (e5 : gr z 59 5 = some 1) : CRf z := by
  obtain ⟨c0, c1, c2, c3, c4, c5, c6, c7, c8, c9, c10, c11, c12, c13, c14, c15, c16, c17, c18, c19, c20, c21⟩ := h
  refine ⟨(e _ _ (by omega)).trans c0, (e _ _ (by omega)).trans c1, (e _ _ (by omega)).trans c2, (e _ _ (by omega)).trans c3, (e _ _ (by omega)).trans c4, (e _ _ (by omega)).trans c5, (e _ _ (by omega)).trans c6, (e _ _ (by omega)).trans c7, (e _ _ (by omega)).trans c8, (e _ _ (by omega)).trans c9, Or.inr e5, (e _ _ (by omega)).trans c11, (e _ _ (by omega)).trans c12, (e _ _ (by omega)).trans c13, (e _ _ (by omega)).trans c14, (e _ _ (by omega)).trans c15, (e _ _ (by omega)).trans c16, c17.r (fun a k h1 h2 => e a k (by omega)), c18.r (fun a k h1 h2 => e a k (by omega)), fun j hj => (c19 j hj).r (fun a k h1 h2 => e a k (by omega)), fun i hi => ?_, fun i j hi hj => ?_⟩
  · rw [e _ _ (by omega)]; exact c20 i hi
  · rw [e _ _ (by omega), e _ _ (by omega)]; exact c21 i j hi hj
theorem MRf.tx {x z : Cn} (h : MRf x 718) (e : ∀ a k, ¬ (a = 59 ∧ k = 5) → gr z a k = gr x a k) : MRf z 718 := by
  obtain ⟨c0, c1, c2, c3, c4, c5, c6, c7, c8⟩ := h
  exact ⟨(e _ _ (by omega)).trans c0, (e _ _ (by omega)).trans c1, (e _ _ (by omega)).trans c2, (e _ _ (by omega)).trans c3, (e _ _ (by omega)).trans c4, (e _ _ (by omega)).trans c5, (e _ _ (by omega)).trans c6, (e _ _ (by omega)).trans c7, (e _ _ (by omega)).trans c8⟩
theorem Rel.tx {x z : Cn} (R : Rel x) (er : ∀ a k, ¬ (a = 59 ∧ k = 5) → gr z a k = gr x a k) (e5 : gr z 59 5 = some 1) (eq : ∀ a k, ¬ (a = 0 ∧ (k = 1 ∨ k = 7 ∨ k = 8)) → ¬ (59 ≤ a ∧ a ≤ 115) → ¬ (a = 717 ∧ 5 ≤ k ∧ k ≤ 14) → a ≠ 719 → a ≠ 721 → gi z a k = gi x a k) (h1 : gi z 0 1 = nI 0) (h2 : gi z 717 5 = nI 0) : Rel z := by
  obtain ⟨W, C, S, A, N, E, nm, ⟨m, m1, m2, m3, m4⟩⟩ := R.sea
  have e8 : gi z 718 = gi x 718 := funext (fun i => eq 718 i (by omega) (by omega) (by omega) (by omega) (by omega))
  have c1 := R.1
  refine ⟨R.1.tx er e5, R.2.1.tx er, ⟨trivial, trivial⟩, ⟨0, by omega, h1, h2, fun i hi => absurd hi (by omega)⟩, R.2.2.2.2.1.keep (eq 175 1 (by omega) (by omega) (by omega) (by omega) (by omega)) (eq 717 22 (by omega) (by omega) (by omega) (by omega) (by omega)) (fun i => eq 176 i (by omega) (by omega) (by omega) (by omega) (by omega)) (fun i => eq 725 i (by omega) (by omega) (by omega) (by omega) (by omega)), W, C, S, A, N, ?_, ?_, m, m1, ?_, ?_, fun j hj => ?_⟩
  · rw [e8]; exact E.mv (fun a k a1 a2 => er a k (by omega)) (fun a k a1 a2 _ => eq a k (by omega) (by omega) (by omega) (by omega) (by omega)) (fun _ _ => rfl)
  · rw [e8]; exact nm.keep (eq 56 0 (by omega) (by omega) (by omega) (by omega) (by omega)) (fun i => eq 57 i (by omega) (by omega) (by omega) (by omega) (by omega)) (fun _ _ => rfl)
  · rw [eq 717 19 (by omega) (by omega) (by omega) (by omega) (by omega)]; exact m2
  · rw [eq 0 5 (by omega) (by omega) (by omega) (by omega) (by omega)]; exact m3
  · obtain ⟨q, W2, S2, A2, N2, q1, q2, q3⟩ := m4 j hj
    obtain ⟨i, hi, ei⟩ := c1.2.2.2.2.2.2.2.2.2.2.2.2.2.2.2.2.2.2.2.2.1 j (by omega)
    have hq : q = 177 + 54 * i := Option.some.inj (q1.symm.trans ei)
    refine ⟨q, W2, S2, A2, N2, (er _ _ (by omega)).trans q1, ?_, fun c hc => ?_⟩
    · exact q2.mv (fun a k a1 a2 => er a k (by omega)) (fun a k a1 a2 _ => eq a k (by omega) (by omega) (by omega) (by omega) (by omega)) (fun m _ => eq 724 _ (by omega) (by omega) (by omega) (by omega) (by omega))
    · rw [e8, eq 724 _ (by omega) (by omega) (by omega) (by omega) (by omega)]; exact q3 c hc
end
set_option maxHeartbeats 2000000 in
theorem v_X8_text_0 {K : Sh} {x : Cn} {Q : Int32 → Cn → Prop} {b0 : Nat} {b0_2 : Nat} (k_b0 : kk K b0 = some (8, 0)) (g_b0_2 : gr x b0 2 = some b0_2) (K0 : mSI mX8_readAll [.ref b0] K (ur (ui (ui (ui (ui (ui x b0 6 (gi x b0 5)) b0 5 0) b0 7 0) b0 11 0) b0 12 (-1)) b0 3 (some b0_2)) (fun r_2 y_1 => GI mX8_text 41 [some (.ref b0), some (.int r_2), none] [] K y_1 Q)) : mSI mX8_text [.ref b0] K x Q := by
  refine s_I (by decide) (by simp [Value.category]) (Nat.le_of_ble_eq_true rfl) ?_
  show mGM mX8_text 0 [some (.ref b0), none, none] [] (hp K x) (PI K Q)
  refine r_aload_n (pc := 0) dX8_text_0 rfl ?_
  refine r_aload_n (pc := 1) dX8_text_1 rfl ?_
  refine s_getI (pc := 2) dX8_text_2 fl_X8_94 rfl k_b0 ?_
  refine s_putI (pc := 5) dX8_text_5 fl_X8_107 rfl rfl k_b0 ?_
  refine r_aload_n (pc := 8) dX8_text_8 rfl ?_
  refine r_iconst (pc := 9) (v := 0) dX8_text_9 (by decide) ?_
  refine s_putI (pc := 10) dX8_text_10 fl_X8_94 rfl rfl k_b0 ?_
  refine r_aload_n (pc := 13) dX8_text_13 rfl ?_
  refine r_iconst (pc := 14) (v := 0) dX8_text_14 (by decide) ?_
  refine s_putI (pc := 15) dX8_text_15 fl_X8_110 rfl rfl k_b0 ?_
  refine r_aload_n (pc := 18) dX8_text_18 rfl ?_
  refine r_iconst (pc := 19) (v := 0) dX8_text_19 (by decide) ?_
  refine s_putI (pc := 20) dX8_text_20 fl_X8_101 rfl rfl k_b0 ?_
  refine r_aload_n (pc := 23) dX8_text_23 rfl ?_
  refine r_iconst (pc := 24) (v := (-1)) dX8_text_24 (by decide) ?_
  refine s_putI (pc := 25) dX8_text_25 fl_X8_23 rfl rfl k_b0 ?_
  refine r_aload_n (pc := 28) dX8_text_28 rfl ?_
  refine r_aload_n (pc := 29) dX8_text_29 rfl ?_
  refine s_getR (pc := 30) dX8_text_30 fl_X8_13 rfl k_b0 g_b0_2 ?_
  refine s_putR (pc := 33) dX8_text_33 fl_X8_16 rfl rfl k_b0 ?_
  refine r_aload_n (pc := 36) dX8_text_36 rfl ?_
  refine s_VI (pc := 37) mX8_readAll (ci := 8) (a := b0) (As := []) dX8_text_37 lk_X8_259 in_X8_readAll mo_X8_readAll ⟨by decide, rfl⟩ ⟨by decide, by decide⟩ (Nat.le_of_ble_eq_true rfl) k_b0 (mSI_mono K0 (fun r_2 y_1 K0 => ?_))
  refine r_istore_n (pc := 40) dX8_text_40 (by decide) ?_
  exact r_le (L' := [some (.ref b0), some (.int r_2), none]) ⟨rfl, ⟨rfl, trivial⟩⟩ K0
set_option maxHeartbeats 2000000 in
theorem v_X8_text_41 {K : Sh} {x : Cn} {Q : Int32 → Cn → Prop} {b0 : Nat} {l1 : Int32} {b0_1 : Nat} (k_b0 : kk K b0 = some (8, 0)) (g_b0_1 : gr x b0 1 = some b0_1) (K0 : ((gi (ur x b0 3 (some b0_1)) b0 11 = 0) → (GI mX8_text 61 [some (.ref b0), some (.int l1), some (.int 0)] [] K (ur x b0 3 (some b0_1)) Q)) ∧ (¬ (gi (ur x b0 3 (some b0_1)) b0 11 = 0) → (Q (-4) (ur x b0 3 (some b0_1))))) : GI mX8_text 41 [some (.ref b0), some (.int l1), none] [] K x Q := by
  show mGM mX8_text 41 [some (.ref b0), some (.int l1), none] [] (hp K x) (PI K Q)
  refine r_aload_n (pc := 41) dX8_text_41 rfl ?_
  refine r_aload_n (pc := 42) dX8_text_42 rfl ?_
  refine s_getR (pc := 43) dX8_text_43 fl_X8_9 rfl k_b0 g_b0_1 ?_
  refine s_putR (pc := 46) dX8_text_46 fl_X8_16 rfl rfl k_b0 ?_
  refine r_aload_n (pc := 49) dX8_text_49 rfl ?_
  refine s_VI (pc := 50) mX8_good (ci := 8) (a := b0) (As := []) dX8_text_50 lk_X8_104 in_X8_good mo_X8_good ⟨by decide, rfl⟩ ⟨by decide, by decide⟩ (Nat.le_of_ble_eq_true rfl) k_b0 (sp_X8_good k_b0 ?_)
  refine r_if_ne (pc := 53) (tgt := 59) dX8_text_53 (by decide) (fun q => ?_) (fun q => ?_)
  · have q := b2i_nz q
    have K0 := K0.1 q
    refine r_iconst (pc := 59) (v := 0) dX8_text_59 (by decide) ?_
    refine r_istore_n (pc := 60) dX8_text_60 (by decide) ?_
    exact r_le (L' := [some (.ref b0), some (.int l1), some (.int 0)]) ⟨rfl, ⟨rfl, ⟨rfl, trivial⟩⟩⟩ K0
  · have q := (b2i_z _).mp q
    have K0 := K0.2 q
    refine r_bipush (pc := 56) (v := (-4)) dX8_text_56 (by decide) ?_
    exact s_iret rfl dX8_text_58 K0
set_option maxHeartbeats 2000000 in
theorem v_X8_text_61 {K : Sh} {x : Cn} {Q : Int32 → Cn → Prop} {b0 : Nat} {l1 : Int32} {l2 : Int32} {b0_1 : Nat} {b0_2 : Nat} {n_b0_2 : Nat} {n_b0_1 : Nat} (k_b0 : kk K b0 = some (8, 0)) (g_b0_1 : gr x b0 1 = some b0_1) (g_b0_2 : gr x b0 2 = some b0_2) (k_b0_2 : kk K b0_2 = some (20, n_b0_2)) (k_b0_1 : kk K b0_1 = some (20, n_b0_1)) (K0 : (518 ≤ l2 → (Q l1 (ui x b0 19 0))) ∧ (¬ 518 ≤ l2 → (vp_in l2 n_b0_2 ∧ (vp_in l2 n_b0_1 ∧ (GI mX8_text 61 [some (.ref b0), some (.int l1), some (.int (l2 + 1))] [] K (ui x b0_1 (l2 : Int32).toNatClampNeg (gi x b0_2 (l2 : Int32).toNatClampNeg)) Q))))) : GI mX8_text 61 [some (.ref b0), some (.int l1), some (.int l2)] [] K x Q := by
  show mGM mX8_text 61 [some (.ref b0), some (.int l1), some (.int l2)] [] (hp K x) (PI K Q)
  refine r_iload_n (pc := 61) dX8_text_61 rfl ?_
  refine r_sipush (pc := 62) (v := 518) dX8_text_62 (by decide) ?_
  refine r_icmp_ge (pc := 65) (tgt := 86) dX8_text_65 (by decide) (fun q => ?_) (fun q => ?_)
  · have K0 := K0.1 q
    refine r_aload_n (pc := 86) dX8_text_86 rfl ?_
    refine r_iconst (pc := 87) (v := 0) dX8_text_87 (by decide) ?_
    refine s_putI (pc := 88) dX8_text_88 fl_X8_262 rfl rfl k_b0 ?_
    refine r_iload_n (pc := 91) dX8_text_91 rfl ?_
    exact s_iret rfl dX8_text_92 K0
  · have K0 := K0.2 q
    refine r_aload_n (pc := 68) dX8_text_68 rfl ?_
    refine s_getR (pc := 69) dX8_text_69 fl_X8_9 rfl k_b0 g_b0_1 ?_
    refine r_iload_n (pc := 72) dX8_text_72 rfl ?_
    refine r_aload_n (pc := 73) dX8_text_73 rfl ?_
    refine s_getR (pc := 74) dX8_text_74 fl_X8_13 rfl k_b0 g_b0_2 ?_
    refine r_iload_n (pc := 77) dX8_text_77 rfl ?_
    obtain ⟨i_2, K0⟩ := K0
    refine s_iald (pc := 78) dX8_text_78 k_b0_2 i_2 ?_
    obtain ⟨i_3, K0⟩ := K0
    refine s_iast (pc := 79) dX8_text_79 k_b0_1 i_3 ?_
    refine r_iinc (pc := 80) (v := l2 + 1) dX8_text_80 rfl rfl (by decide) ?_
    refine r_goto (pc := 83) (L := [some (.ref b0), some (.int l1), some (.int (l2 + 1))]) (tgt := 61) dX8_text_83 (by decide) ?_
    exact r_le (L' := [some (.ref b0), some (.int l1), some (.int (l2 + 1))]) ⟨rfl, ⟨rfl, ⟨rfl, trivial⟩⟩⟩ K0
section
theorem lp_X8_text_61 {x : Cn} {Q : Int32 → Cn → Prop} {l1 : Int32} (g1 : gr x 717 1 = some 718) (g2 : gr x 717 2 = some 719) (k : ∀ y, EQx x y 718 → (∀ i, i < 518 → gi y 718 i = gi x 719 i) → Q l1 (ui y 717 19 0)) : ∀ d i y, i + d = 518 → EQx x y 718 → (∀ j, j < i → gi y 718 j = gi x 719 j) → GI mX8_text 61 [some (.ref 717), some (.int l1), some (.int (nI i))] [] KW y Q := by
  intro d
  induction d with
  | zero =>
    intro i y hi f h
    have hg : ∀ a j, gr y a j = gr x a j := fun a j => by unfold gr; rw [f.1]
    exact v_X8_text_61 km ((hg _ _).trans g1) ((hg _ _).trans g2) km2 km1 ⟨fun _ => k y f (fun j hj => h j (by omega)), fun z => absurd (nI_le (a := 518) (b := i) (by omega) (by omega)) z⟩
  | succ d ih =>
    intro i y hi f h
    have hg : ∀ a j, gr y a j = gr x a j := fun a j => by unfold gr; rw [f.1]
    refine v_X8_text_61 km ((hg _ _).trans g1) ((hg _ _).trans g2) km2 km1 ⟨fun z => absurd z (nI_ge (a := i) (b := 518) (by omega) (by omega)), fun _ => ⟨vp_in_nI (by omega) (by decide), vp_in_nI (by omega) (by decide), ?_⟩⟩
    rw [nI_clamp (by omega), ← nI_succ]
    refine ih (i + 1) _ (by omega) f.ui (fun j hj => ?_)
    by_cases e : j = i
    · rw [e, gi_ui, if_pos ⟨rfl, rfl⟩]; exact f.2 719 i (by omega)
    · rw [gi_ui, if_neg (by omega)]; exact h j (by omega)
theorem sp_X8_text {u : Cn} {Q : Int32 → Cn → Prop} {b : TT} {n : Nat} (M : MRf u 718) (hn : n ≤ 1200) (h5 : gi u 717 5 = nI n) (hb : gi u 720 = b) (hB : ∀ i, i < n → isB (b i)) (k1 : okW b n 0 → ∀ t L y, runs b n (tV b n (nxt b n 1 0)) (n + 1) (s00 b n (gi u 719)) t L → y.2 = u.2 → (∀ a k, a ≠ 718 → a ≠ 719 → a ≠ 721 → ¬ (a = 717 ∧ ((5 ≤ k ∧ k ≤ 14) ∨ k = 19)) → gi y a k = gi u a k) → gi y 717 5 = nI 0 → gi y 717 19 = 0 → (∀ i, i < 518 → gi y 718 i = t.2.1 i) → Q (nI (1 + L)) y) (k0 : (¬ okW b n 0 ∨ (okW b n 0 ∧ fails b n (tV b n (nxt b n 1 0)) (n + 1) (s00 b n (gi u 719)))) → ∀ y, y.2 = u.2 → (∀ a k, a ≠ 719 → a ≠ 721 → ¬ (a = 717 ∧ 5 ≤ k ∧ k ≤ 14) → gi y a k = gi u a k) → gi y 717 5 = nI 0 → Q (-4) y) : mSI mX8_text [.ref 717] KW u Q := by
  refine v_X8_text_0 km M.2.1 ?_
  rw [h5]
  have hg : ∀ a k, ¬ (a = 717 ∧ k = 3) → gr (ur (ui (ui (ui (ui (ui u 717 6 (nI n)) 717 5 0) 717 7 0) 717 11 0) 717 12 (-1)) 717 3 (some 719)) a k = gr u a k := fun a k h => by rw [gr_ur, if_neg h]; rfl
  have hg3 : gr (ur (ui (ui (ui (ui (ui u 717 6 (nI n)) 717 5 0) 717 7 0) 717 11 0) 717 12 (-1)) 717 3 (some 719)) 717 3 = some 719 := by rw [gr_ur, if_pos ⟨rfl, rfl⟩]
  have hr : ∀ y : Cn, y.2 = (ur (ui (ui (ui (ui (ui u 717 6 (nI n)) 717 5 0) 717 7 0) 717 11 0) 717 12 (-1)) 717 3 (some 719)).2 → (ur y 717 3 (some 718)).2 = u.2 := by
    intro y hy
    funext a k
    show (if a = 717 ∧ k = 3 then some 718 else y.2 a k) = u.2 a k
    by_cases h : a = 717 ∧ k = 3
    · rw [if_pos h, h.1, h.2]; exact M.2.2.1.symm
    · rw [if_neg h, hy]; exact hg a k h
  have e : ∀ a k, ¬ (a = 717 ∧ 5 ≤ k ∧ k ≤ 14) → gi (ur (ui (ui (ui (ui (ui u 717 6 (nI n)) 717 5 0) 717 7 0) 717 11 0) 717 12 (-1)) 717 3 (some 719)) a k = gi u a k := fun a k h => by
    rw [gi_ur, gi_ui, if_neg (by omega), gi_ui, if_neg (by omega), gi_ui, if_neg (by omega), gi_ui, if_neg (by omega), gi_ui, if_neg (by omega)]
  have e6 : gi (ur (ui (ui (ui (ui (ui u 717 6 (nI n)) 717 5 0) 717 7 0) 717 11 0) 717 12 (-1)) 717 3 (some 719)) 717 6 = nI n := by rw [gi_ur]; simp [gi_ui]
  have e5 : gi (ur (ui (ui (ui (ui (ui u 717 6 (nI n)) 717 5 0) 717 7 0) 717 11 0) 717 12 (-1)) 717 3 (some 719)) 717 5 = nI 0 := by rw [gi_ur]; simp [gi_ui]; rfl
  have e7 : gi (ur (ui (ui (ui (ui (ui u 717 6 (nI n)) 717 5 0) 717 7 0) 717 11 0) 717 12 (-1)) 717 3 (some 719)) 717 7 = nI 0 := by rw [gi_ur]; simp [gi_ui]; rfl
  have e11 : gi (ur (ui (ui (ui (ui (ui u 717 6 (nI n)) 717 5 0) 717 7 0) 717 11 0) 717 12 (-1)) 717 3 (some 719)) 717 11 = 0 := by rw [gi_ur]; simp [gi_ui]
  have e719 : gi (ur (ui (ui (ui (ui (ui u 717 6 (nI n)) 717 5 0) 717 7 0) 717 11 0) 717 12 (-1)) 717 3 (some 719)) 719 = gi u 719 := funext (fun i => e 719 i (by omega))
  have M9 : MRf (ur (ui (ui (ui (ui (ui u 717 6 (nI n)) 717 5 0) 717 7 0) 717 11 0) 717 12 (-1)) 717 3 (some 719)) 719 := by
    obtain ⟨m1, m2, m3, m4, m5, m6, m7, m8, m9⟩ := M
    exact ⟨(hg _ _ (by omega)).trans m1, (hg _ _ (by omega)).trans m2, hg3, (hg _ _ (by omega)).trans m4, (hg _ _ (by omega)).trans m5, (hg _ _ (by omega)).trans m6, (hg _ _ (by omega)).trans m7, (hg _ _ (by omega)).trans m8, (hg _ _ (by omega)).trans m9⟩
  have Z : RZ (ur (ui (ui (ui (ui (ui u 717 6 (nI n)) 717 5 0) 717 7 0) 717 11 0) 717 12 (-1)) 717 3 (some 719)) b n := ⟨hn, e6, (funext fun i => e 720 i (by omega)).trans hb, hB, M9⟩
  generalize ur (ui (ui (ui (ui (ui u 717 6 (nI n)) 717 5 0) 717 7 0) 717 11 0) 717 12 (-1)) 717 3 (some 719) = w at hg hg3 hr e e6 e5 e7 e11 e719 M9 Z
  refine sp_X8_readAll Z e7 e11 (fun ok t L y r F c => ?_) (fun o y r F h => ?_)
  · rw [e719] at r
    have hy := hr y F.1
    refine v_X8_text_41 km ((by unfold gr; rw [F.1]; exact M9.1 : gr y 717 1 = some 718)) ⟨fun _ => ?_, fun z => absurd c.1.2.2.2 z⟩
    refine lp_X8_text_61 (x := ur y 717 3 (some 718)) (by unfold gr; rw [hy]; exact M.1) (by unfold gr; rw [hy]; exact M.2.1) (fun z f h => ?_) 518 0 _ (by omega) (EQx.rf _ 718) (fun j hj => absurd hj (by omega))
    refine k1 ok t L _ r (f.1.trans hy) (fun a k a1 a2 a3 a4 => ?_) ?_ (by rw [gi_ui, if_pos ⟨rfl, rfl⟩]) (fun i hi => ?_)
    · rw [gi_ui, if_neg (by omega), f.2 a k a1, gi_ur, F.2 a k (by omega)]; exact e a k (by omega)
    · rw [gi_ui, if_neg (by omega), f.2 717 5 (by omega), gi_ur, F.2 717 5 (by omega)]; exact e5
    · rw [gi_ui, if_neg (by omega), h i hi, gi_ur]
      exact congrFun c.2.2.2.1 i
  · rw [e719] at o
    have hy := hr y F.1
    refine v_X8_text_41 km ((by unfold gr; rw [F.1]; exact M9.1 : gr y 717 1 = some 718)) ⟨fun z => absurd z h, fun _ => ?_⟩
    refine k0 o _ hy (fun a k a1 a2 a3 => ?_) ?_
    · rw [gi_ur, F.2 a k (by omega)]; exact e a k a3
    · rw [gi_ur, F.2 717 5 (by omega)]; exact e5
end
set_option maxHeartbeats 2000000 in
theorem v_X7_text_0 {K : Sh} {x : Cn} {Q : Int32 → Cn → Prop} {b0 : Nat} {b0_6 : Nat} {b0_0 : Nat} (k_b0 : kk K b0 = some (7, 0)) (g_b0_6 : gr x b0 6 = some b0_6) (g_b0_0 : gr x b0 0 = some b0_0) (k_b0_6 : kk K b0_6 = some (3, 0)) (K0 : mSI mX3_readText [.ref b0_6, .ref b0_0, .int (gi x b0 1)] K x (fun r_2 y_1 => gr y_1 b0 6 = some b0_6 ∧ (∀ r_4 : Int32, r_4 = gi (ui (ui y_1 b0 1 0) b0 7 (gi (ui y_1 b0 1 0) b0_6 3)) b0_6 4 → ((¬ r_2 = 0 → (∃ c_7 : Nat, gr y_1 b0 2 = some c_7 ∧ (∃ c_9 : Nat, gr y_1 b0_6 0 = some c_9 ∧ (kk K c_7 = some (4, 0) ∧ (mSV mX4_copyFrom [.ref c_7, .ref c_9] K (ui (ui (ui y_1 b0 1 0) b0 7 (gi (ui y_1 b0 1 0) b0_6 3)) b0 8 r_4) (fun y_12 => ∃ c_13 : Nat, gr y_12 b0 3 = some c_13 ∧ (gr y_12 b0 6 = some b0_6 ∧ (∃ c_16 : Nat, gr y_12 b0_6 1 = some c_16 ∧ (kk K c_13 = some (1, 0) ∧ (mSV mX1_copyFrom [.ref c_13, .ref c_16] K y_12 (fun y_19 => gr y_19 b0 6 = some b0_6 ∧ (Q (gi (ui y_19 b0 5 0) b0_6 2) (ui y_19 b0 5 0))))))))))))) ∧ (r_2 = 0 → (Q (-4) (ui (ui (ui y_1 b0 1 0) b0 7 (gi (ui y_1 b0 1 0) b0_6 3)) b0 8 r_4))))))) : mSI mX7_text [.ref b0] K x Q := by
  refine s_I (by decide) (by simp [Value.category]) (Nat.le_of_ble_eq_true rfl) ?_
  show mGM mX7_text 0 [some (.ref b0), none] [] (hp K x) (PI K Q)
  refine r_aload_n (pc := 0) dX7_text_0 rfl ?_
  refine s_getR (pc := 1) dX7_text_1 fl_X7_41 rfl k_b0 g_b0_6 ?_
  refine r_aload_n (pc := 4) dX7_text_4 rfl ?_
  refine s_getR (pc := 5) dX7_text_5 fl_X7_9 rfl k_b0 g_b0_0 ?_
  refine r_aload_n (pc := 8) dX7_text_8 rfl ?_
  refine s_getI (pc := 9) dX7_text_9 fl_X7_13 rfl k_b0 ?_
  refine s_VI (pc := 12) mX3_readText (ci := 3) (a := b0_6) (As := [.ref b0_0, .int (gi x b0 1)]) dX7_text_12 lk_X7_69 in_X3_readText mo_X3_readText ⟨by decide, rfl⟩ ⟨by decide, by decide⟩ (Nat.le_of_ble_eq_true rfl) k_b0_6 (mSI_mono K0 (fun r_2 y_1 K0 => ?_))
  refine r_istore_n (pc := 15) dX7_text_15 (by decide) ?_
  refine r_aload_n (pc := 16) (L := [some (.ref b0), some (.int r_2)]) dX7_text_16 rfl ?_
  refine r_iconst (pc := 17) (v := 0) dX7_text_17 (by decide) ?_
  refine s_putI (pc := 18) dX7_text_18 fl_X7_13 rfl rfl k_b0 ?_
  refine r_aload_n (pc := 21) dX7_text_21 rfl ?_
  refine r_aload_n (pc := 22) dX7_text_22 rfl ?_
  obtain ⟨g_3, K0⟩ := K0
  refine s_getR (pc := 23) dX7_text_23 fl_X7_41 rfl k_b0 g_3 ?_
  refine s_getI (pc := 26) dX7_text_26 fl_X7_73 rfl k_b0_6 ?_
  refine s_putI (pc := 29) dX7_text_29 fl_X7_45 rfl rfl k_b0 ?_
  refine r_aload_n (pc := 32) dX7_text_32 rfl ?_
  refine r_aload_n (pc := 33) dX7_text_33 rfl ?_
  refine s_getR (pc := 34) dX7_text_34 fl_X7_41 rfl k_b0 g_3 ?_
  refine s_getI (pc := 37) dX7_text_37 fl_X7_76 rfl k_b0_6 ?_
  obtain ⟨r_4, w_5⟩ : ∃ z : Int32, z = gi (ui (ui y_1 b0 1 0) b0 7 (gi (ui y_1 b0 1 0) b0_6 3)) b0_6 4 := ⟨_, rfl⟩
  rw [← w_5]
  have K0 := K0 r_4 w_5
  refine s_putI (pc := 40) dX7_text_40 fl_X7_48 rfl rfl k_b0 ?_
  refine r_iload_n (pc := 43) dX7_text_43 rfl ?_
  refine r_if_ne (pc := 44) (tgt := 50) dX7_text_44 (by decide) (fun q => ?_) (fun q => ?_)
  · have K0 := K0.1 q
    refine r_aload_n (pc := 50) dX7_text_50 rfl ?_
    obtain ⟨c_7, g_8, K0⟩ := K0
    refine s_getR (pc := 51) dX7_text_51 fl_X7_20 rfl k_b0 g_8 ?_
    refine r_aload_n (pc := 54) dX7_text_54 rfl ?_
    refine s_getR (pc := 55) dX7_text_55 fl_X7_41 rfl k_b0 g_3 ?_
    obtain ⟨c_9, g_10, K0⟩ := K0
    refine s_getR (pc := 58) dX7_text_58 fl_X7_79 rfl k_b0_6 g_10 ?_
    obtain ⟨e_11, K0⟩ := K0
    refine s_VV (pc := 61) mX4_copyFrom (ci := 4) (a := c_7) (As := [.ref c_9]) dX7_text_61 lk_X7_80 in_X4_copyFrom mo_X4_copyFrom ⟨by decide, rfl⟩ ⟨by decide, by decide⟩ (Nat.le_of_ble_eq_true rfl) e_11 (mSV_mono K0 (fun y_12 K0 => ?_))
    refine r_aload_n (pc := 64) dX7_text_64 rfl ?_
    obtain ⟨c_13, g_14, K0⟩ := K0
    refine s_getR (pc := 65) dX7_text_65 fl_X7_27 rfl k_b0 g_14 ?_
    refine r_aload_n (pc := 68) dX7_text_68 rfl ?_
    obtain ⟨g_15, K0⟩ := K0
    refine s_getR (pc := 69) dX7_text_69 fl_X7_41 rfl k_b0 g_15 ?_
    obtain ⟨c_16, g_17, K0⟩ := K0
    refine s_getR (pc := 72) dX7_text_72 fl_X7_84 rfl k_b0_6 g_17 ?_
    obtain ⟨e_18, K0⟩ := K0
    refine s_VV (pc := 75) mX1_copyFrom (ci := 1) (a := c_13) (As := [.ref c_16]) dX7_text_75 lk_X7_85 in_X1_copyFrom mo_X1_copyFrom ⟨by decide, rfl⟩ ⟨by decide, by decide⟩ (Nat.le_of_ble_eq_true rfl) e_18 (mSV_mono K0 (fun y_19 K0 => ?_))
    refine r_aload_n (pc := 78) dX7_text_78 rfl ?_
    refine r_iconst (pc := 79) (v := 0) dX7_text_79 (by decide) ?_
    refine s_putI (pc := 80) dX7_text_80 fl_X7_35 rfl rfl k_b0 ?_
    refine r_aload_n (pc := 83) dX7_text_83 rfl ?_
    obtain ⟨g_20, K0⟩ := K0
    refine s_getR (pc := 84) dX7_text_84 fl_X7_41 rfl k_b0 g_20 ?_
    refine s_getI (pc := 87) dX7_text_87 fl_X7_88 rfl k_b0_6 ?_
    exact s_iret rfl dX7_text_90 K0
  · have K0 := K0.2 q
    refine r_bipush (pc := 47) (v := (-4)) dX7_text_47 (by decide) ?_
    exact s_iret rfl dX7_text_49 K0
theorem eq_text : Both mX7_text mX8_text [] := by
  intro x R
  obtain ⟨n, hn, t1, t2, t3⟩ := R.2.2.2.1
  obtain ⟨W0, C0, S0, A0, N0, E0, nm0, hs0⟩ := R.sea
  have c := R.1
  have c2 := c.2.1
  have c59 : gr x 59 0 = some 60 := c.2.2.2.2.2.2.2.2.1
  have c591 : gr x 59 1 = some 114 := c.2.2.2.2.2.2.2.2.2.1
  have c114 : gr x 114 1 = some 115 := c.2.2.2.2.2.2.2.2.2.2.2.1
  have c60 : SRf x 60 := c.2.2.2.2.2.2.2.2.2.2.2.2.2.2.2.2.2.1
  have c6 : gr x 0 6 = some 59 := c.2.2.2.2.1
  have hu : ∀ a k, ¬ (a = 59 ∧ k = 5) → gr (ur x 59 5 (some 1)) a k = gr x a k := fun a k h => by rw [gr_ur, if_neg h]
  have hu5 : gr (ur x 59 5 (some 1)) 59 5 = some 1 := by rw [gr_ur, if_pos ⟨rfl, rfl⟩]
  refine v_X7_text_0 k0 c6 c.1 k59 ?_
  rw [t1]
  refine sp_X3_readText (b := gi x 720) (n := n) (gi x 719) c59 c591 c114 c60 hn (fun i hi => (t3 i hi).1) (fun i hi => (t3 i hi).2) (fun ok t L y r F cy e2 => ?_) (fun o y F => ?_)
  · have er : ∀ a k, ¬ (a = 59 ∧ k = 5) → gr y a k = gr x a k := fun a k h => by
      have : gr y a k = gr (ur x 59 5 (some 1)) a k := by unfold gr; rw [F.1]
      exact this.trans (hu a k h)
    have er5 : gr y 59 5 = some 1 := by
      have : gr y 59 5 = gr (ur x 59 5 (some 1)) 59 5 := by unfold gr; rw [F.1]
      exact this.trans hu5
    refine ⟨(er _ _ (by omega)).trans c6, fun r4 hr4 => ⟨fun _ => ⟨2, (er _ _ (by omega)).trans c2, 60, (er _ _ (by omega)).trans c59, by decide, ?_⟩, fun z => absurd z (by decide)⟩⟩
    generalize gi (ui y 0 1 0) 59 3 = v3 at hr4 ⊢
    have f1 : ∀ a k, ¬ (a = 0 ∧ (k = 1 ∨ k = 7 ∨ k = 8)) → gi (ui (ui (ui y 0 1 0) 0 7 v3) 0 8 r4) a k = gi y a k := fun a k h => by rw [gi_ui, if_neg (by omega), gi_ui, if_neg (by omega), gi_ui, if_neg (by omega)]
    have f11 : gi (ui (ui (ui y 0 1 0) 0 7 v3) 0 8 r4) 0 1 = nI 0 := by simp [gi_ui]; rfl
    have r1 : (ui (ui (ui y 0 1 0) 0 7 v3) 0 8 r4).2 = y.2 := rfl
    generalize ui (ui (ui y 0 1 0) 0 7 v3) 0 8 r4 = u1 at f1 f11 r1
    have gu : ∀ a k, gr u1 a k = gr y a k := fun a k => by unfold gr; rw [r1]
    have cy : CS y (gi x 720) n t.1 t.2.1 t.2.2.1 (tV (gi x 720) n (nxt (gi x 720) n 1 0)) t.2.2.2.1 t.2.2.2.2.1 t.2.2.2.2.2 := cy
    have E1 : SEA u1 60 t.2.1 (tV (gi x 720) n (nxt (gi x 720) n 1 0)) t.2.2.2.1 t.2.2.2.2.1 t.2.2.2.2.2 0 := cy.2.2.2.2.1.keep r1 (fun a k a1 a2 _ => f1 a k (by omega))
    have s2 : SRf u1 2 := E0.2.1.r (fun a k a1 a2 => (gu a k).trans (er a k (by omega)))
    refine sp_X4_copyFrom (q := 2) (Or.inl rfl) s2 E1 (by decide) (fun y2 f2 E2 => ?_)
    have g2 : ∀ a k, gr y2 a k = gr y a k := fun a k => by unfold gr; rw [f2.1, r1]
    refine ⟨56, (g2 _ _).trans ((er _ _ (by omega)).trans c.2.2.1), (g2 _ _).trans ((er _ _ (by omega)).trans c6), 114, (g2 _ _).trans ((er _ _ (by omega)).trans c591), by decide, ?_⟩
    refine sp_X1_copyFrom ((g2 _ _).trans ((er _ _ (by omega)).trans c.2.2.2.2.2.2.2.1)) ((g2 _ _).trans ((er _ _ (by omega)).trans c114)) (fun y3 r3 f3 n0 n1 => ?_)
    have g3 : ∀ a k, gr y3 a k = gr y a k := fun a k => (by unfold gr; rw [r3] : gr y3 a k = gr y2 a k).trans (g2 a k)
    refine ⟨(g3 _ _).trans ((er _ _ (by omega)).trans c6), ?_⟩
    have b3 : ∀ a k, ¬ (2 ≤ a ∧ a < 58) → ¬ (a = 0 ∧ (k = 1 ∨ k = 7 ∨ k = 8)) → gi y3 a k = gi y a k := fun a k a1 a2 => (f3 a k (by omega) (by omega)).trans ((f2.2 a k (by omega)).trans (f1 a k a2))
    have ans : gi (ui y3 0 5 0) 59 2 = nI (1 + L) := by rw [gi_ui, if_neg (by omega), b3 59 2 (by omega) (by omega)]; exact e2
    rw [ans]
    have b4 : ∀ a k, ¬ (2 ≤ a ∧ a < 58) → ¬ (59 ≤ a ∧ a ≤ 115) → ¬ (a = 0 ∧ (k = 1 ∨ k = 5 ∨ k = 7 ∨ k = 8)) → gi (ui y3 0 5 0) a k = gi x a k := fun a k a1 a2 a3 => by
      rw [gi_ui, if_neg (by omega), b3 a k a1 (by omega), F.2 a k a2]; rfl
    have k1 : gi (ui y3 0 5 0) 0 1 = nI 0 := by rw [gi_ui, if_neg (by omega), f3 0 1 (by omega) (by omega), f2.2 0 1 (by omega)]; exact f11
    have k5 : gi (ui y3 0 5 0) 0 5 = 0 := by rw [gi_ui, if_pos ⟨rfl, rfl⟩]
    have E3 : SEA (ui y3 0 5 0) 2 t.2.1 (tV (gi x 720) n (nxt (gi x 720) n 1 0)) t.2.2.2.1 t.2.2.2.2.1 t.2.2.2.2.2 0 := E2.keep r3 (fun a k a1 a2 _ => by rw [gi_ui, if_neg (by omega)]; exact f3 a k (by omega) (by omega))
    have hC8 : t.2.2.2.1 ≤ 8 := E3.2.2.2.2.2.2.2.1
    have N3 : NMr (ui y3 0 5 0) 56 t.2.1 t.2.2.2.1 := by
      obtain ⟨m0, m1⟩ := cy.2.2.2.2.2
      refine ⟨?_, fun cc hc => ?_⟩
      · rw [gi_ui, if_neg (by omega), n0, f2.2 114 0 (by omega), f1 114 0 (by omega)]; exact m0
      · obtain ⟨v, v1, v2, v3'⟩ := m1 cc hc
        refine ⟨v, v1, v2, fun i hi => ?_⟩
        rw [gi_ui, if_neg (by omega), n1 _ (by omega), f2.2 115 _ (by omega), f1 115 _ (by omega)]
        exact v3' i hi
    have gx : ∀ a k, ¬ (a = 59 ∧ k = 5) → gr (ui y3 0 5 0) a k = gr x a k := fun a k h => (g3 a k).trans (er a k h)
    have gx5 : gr (ui y3 0 5 0) 59 5 = some 1 := (g3 _ _).trans er5
    generalize ui y3 0 5 0 = v at b4 k1 k5 E3 N3 gx gx5
    have e719 : gi v 719 = gi x 719 := funext (fun i => b4 719 i (by omega) (by omega) (by omega))
    refine sp_X8_text (b := gi x 720) (n := n) (R.2.1.tx gx) hn ((b4 717 5 (by omega) (by omega) (by omega)).trans t2) (funext fun i => b4 720 i (by omega) (by omega) (by omega)) (fun i hi => (t3 i hi).2) (fun _ t' L' z r' hz ez z5 z19 zT => ?_) (fun o => ?_)
    · rw [e719] at r'
      obtain ⟨et, eL⟩ := runs_det _ _ _ _ _ _ r r'
      subst et
      subst eL
      have gz : ∀ a k, ¬ (a = 59 ∧ k = 5) → gr z a k = gr x a k := fun a k h => (by unfold gr; rw [hz] : gr z a k = gr v a k).trans (gx a k h)
      have gz5 : gr z 59 5 = some 1 := (by unfold gr; rw [hz] : gr z 59 5 = gr v 59 5).trans gx5
      refine ⟨rfl, R.1.tx gz gz5, R.2.1.tx gz, ⟨trivial, trivial⟩, ⟨0, by omega, (ez 0 1 (by omega) (by omega) (by omega) (by omega)).trans k1, z5, fun i hi => absurd hi (by omega)⟩, R.2.2.2.2.1.keep ((ez 175 1 (by omega) (by omega) (by omega) (by omega)).trans (b4 175 1 (by omega) (by omega) (by omega))) ((ez 717 22 (by omega) (by omega) (by omega) (by omega)).trans (b4 717 22 (by omega) (by omega) (by omega))) (fun i => (ez 176 i (by omega) (by omega) (by omega) (by omega)).trans (b4 176 i (by omega) (by omega) (by omega))) (fun i => (ez 725 i (by omega) (by omega) (by omega) (by omega)).trans (b4 725 i (by omega) (by omega) (by omega))), _, _, _, _, _, E3.mv (fun a k _ _ => by unfold gr; rw [hz]) (fun a k a1 a2 _ => ez a k (by omega) (by omega) (by omega) (by omega)) zT, N3.keep (ez 56 0 (by omega) (by omega) (by omega) (by omega)) (fun i => ez 57 i (by omega) (by omega) (by omega) (by omega)) (fun i hi => zT _ (by omega)), 0, by omega, z19, ?_, fun j hj => absurd hj (by omega)⟩
      exact (ez 0 5 (by omega) (by omega) (by omega) (by omega)).trans k5
    · rw [e719] at o
      rcases o with o | o
      · exact absurd ok o
      · exact absurd o.2 (runs_no _ _ _ _ r)
  · have er : ∀ a k, ¬ (a = 59 ∧ k = 5) → gr y a k = gr x a k := fun a k h => by
      have : gr y a k = gr (ur x 59 5 (some 1)) a k := by unfold gr; rw [F.1]
      exact this.trans (hu a k h)
    have er5 : gr y 59 5 = some 1 := by
      have : gr y 59 5 = gr (ur x 59 5 (some 1)) 59 5 := by unfold gr; rw [F.1]
      exact this.trans hu5
    refine ⟨(er _ _ (by omega)).trans c6, fun r4 hr4 => ⟨fun z => absurd rfl z, fun _ => ?_⟩⟩
    generalize gi (ui y 0 1 0) 59 3 = v3 at hr4 ⊢
    have f1 : ∀ a k, ¬ (a = 0 ∧ (k = 1 ∨ k = 7 ∨ k = 8)) → ¬ (59 ≤ a ∧ a ≤ 115) → gi (ui (ui (ui y 0 1 0) 0 7 v3) 0 8 r4) a k = gi x a k := fun a k h h2 => by rw [gi_ui, if_neg (by omega), gi_ui, if_neg (by omega), gi_ui, if_neg (by omega), F.2 a k h2]; rfl
    have f11 : gi (ui (ui (ui y 0 1 0) 0 7 v3) 0 8 r4) 0 1 = nI 0 := by simp [gi_ui]; rfl
    have gx : ∀ a k, ¬ (a = 59 ∧ k = 5) → gr (ui (ui (ui y 0 1 0) 0 7 v3) 0 8 r4) a k = gr x a k := er
    have gx5 : gr (ui (ui (ui y 0 1 0) 0 7 v3) 0 8 r4) 59 5 = some 1 := er5
    generalize ui (ui (ui y 0 1 0) 0 7 v3) 0 8 r4 = v at f1 f11 gx gx5
    have e719 : gi v 719 = gi x 719 := funext (fun i => f1 719 i (by omega) (by omega))
    refine sp_X8_text (b := gi x 720) (n := n) (R.2.1.tx gx) hn ((f1 717 5 (by omega) (by omega)).trans t2) (funext fun i => f1 720 i (by omega) (by omega)) (fun i hi => (t3 i hi).2) (fun ok t' L' z r' _ _ _ _ _ => ?_) (fun o' z hz ez z5 => ?_)
    · rw [e719] at r'
      rcases o with o | o
      · exact absurd ok o
      · exact absurd o.2 (runs_no _ _ _ _ r')
    · have gz : ∀ a k, ¬ (a = 59 ∧ k = 5) → gr z a k = gr x a k := fun a k h => (by unfold gr; rw [hz] : gr z a k = gr v a k).trans (gx a k h)
      have gz5 : gr z 59 5 = some 1 := (by unfold gr; rw [hz] : gr z 59 5 = gr v 59 5).trans gx5
      exact ⟨rfl, R.tx gz gz5 (fun a k a1 a2 a3 a4 a5 => (ez a k a4 a5 a3).trans (f1 a k a1 a2)) ((ez 0 1 (by omega) (by omega) (by omega)).trans f11) z5⟩
end

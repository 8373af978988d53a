/-! what a token is, in words; how a line is read, landed side -/
def iw (b : TT) (n p i : Nat) : Prop := tK b n p = 1 ∧ wno b (tS b n p) (tE b n p) = nI i
def sg (b : TT) (n p : Nat) (v : Int32) : Prop := tK b n p = 3 ∧ b (tS b n p) = v
def nb (b : TT) (n p lo hi : Nat) : Prop := tK b n p = 2 ∧ lo ≤ tV b n p ∧ tV b n p ≤ hi
def nmd (b : TT) (n p : Nat) : Prop := tK b n p = 1 ∧ wno b (tS b n p) (tE b n p) = -1 ∧ tE b n p - tS b n p ≤ 6
def nxt (b : TT) (n : Nat) : Nat → Nat → Nat
  | 0, p => p
  | k + 1, p => tE b n (nxt b n k p)
theorem nxt_le {b : TT} {n : Nat} : ∀ {k p : Nat}, p ≤ n → nxt b n k p ≤ n := by
  intro k
  induction k with
  | zero => intro p h; exact h
  | succ k ih => intro p h; exact (tE_b (ih h)).2.1
theorem nxt_ge {b : TT} {n : Nat} : ∀ {k p : Nat}, p ≤ n → p ≤ nxt b n k p := by
  intro k
  induction k with
  | zero => intro p h; exact Nat.le_refl _
  | succ k ih =>
    intro p h
    have h1 := ih h
    have h2 := nxt_le (k := k) (b := b) h
    have h3 := tS_b (b := b) h2
    have h4 := tE_b (b := b) h2
    show p ≤ tE b n (nxt b n k p)
    omega
theorem nxt_gt {b : TT} {n k p : Nat} (h : p ≤ n) (hk : ¬ tK b n p = 0) : p < nxt b n (k + 1) p := by
  induction k with
  | zero =>
    have h3 := tS_b (b := b) h
    have h4 := (tE_b (b := b) h).2.2 hk
    show p < tE b n p
    omega
  | succ k ih =>
    have h2 := nxt_le (k := k + 1) (b := b) h
    have h3 := tS_b (b := b) h2
    have h4 := tE_b (b := b) h2
    show p < tE b n (nxt b n (k + 1) p)
    omega
theorem nI_sb {e s : Nat} (h : s ≤ e) : nI e - nI s = nI (e - s) := by
  obtain ⟨d, rfl⟩ := Nat.exists_eq_add_of_le h
  rw [show s + d - s = d by omega, ← nI_add, Int32.add_comm, Int32.add_sub_cancel]
def SCf (x y : Cn) : Prop := y.2 = x.2 ∧ ∀ a k, ¬ (59 ≤ a ∧ a ≤ 115) ∨ (a = 59 ∧ k = 2) → gi y a k = gi x a k
theorem SCf.rf (x : Cn) : SCf x x := ⟨rfl, fun _ _ _ => rfl⟩
theorem SCf.tr {x y z : Cn} (h : SCf x y) (g : SCf y z) : SCf x z := ⟨g.1.trans h.1, fun a k hk => (g.2 a k hk).trans (h.2 a k hk)⟩
theorem SCf.u {x y : Cn} {a k : Nat} {v : Int32} (h : SCf x y) (ha : (59 ≤ a ∧ a ≤ 115) ∧ ¬ (a = 59 ∧ k = 2)) : SCf x (ui y a k v) := ⟨h.1, fun c j hj => by rw [gi_ui, if_neg (by omega)]; exact h.2 c j hj⟩
theorem ATf.sc {x y : Cn} (h : ATf x y) : SCf x y := ⟨h.1, fun a k hk => h.2 a k (by omega)⟩
def FLf (x y : Cn) : Prop := y.2 = x.2 ∧ ∀ a k, ¬ (a = 59 ∧ (k = 3 ∨ k = 4)) → gi y a k = gi x a k
theorem FLf.sc {x y : Cn} (h : FLf x y) : SCf x y := ⟨h.1, fun a k hk => h.2 a k (by omega)⟩
theorem EQx.sc {x y : Cn} {a : Nat} (h : EQx x y a) (ha : 60 ≤ a ∧ a ≤ 115) : SCf x y := ⟨h.1, fun c k hk => h.2 c k (by omega)⟩
/-- what stays while a TEXT is read -/
def RB (y : Cn) (b : TT) (n : Nat) : Prop := n ≤ 1200 ∧ gi y 59 6 = nI n ∧ (∀ i, i < n → gi y 1 i = b i) ∧ (∀ i, i < n → isB (b i)) ∧ gr y 59 0 = some 60 ∧ gr y 59 1 = some 114 ∧ gr y 59 5 = some 1 ∧ gr y 114 1 = some 115
theorem RB.mv {x y : Cn} {b : TT} {n : Nat} (h : RB x b n) (h1 : y.2 = x.2) (h2 : ∀ a k, ¬ (59 ≤ a ∧ a ≤ 115) ∨ (a = 59 ∧ k = 6) → gi y a k = gi x a k) : RB y b n := by
  have hg : ∀ b k, gr y b k = gr x b k := fun b k => by unfold gr; rw [h1]
  obtain ⟨e1, e2, e3, e4, e5, e6, e7, e8⟩ := h
  exact ⟨e1, (h2 59 6 (by omega)).trans e2, fun i hi => (h2 1 i (by omega)).trans (e3 i hi), e4, (hg _ _).trans e5, (hg _ _).trans e6, (hg _ _).trans e7, (hg _ _).trans e8⟩
theorem RB.at {x y : Cn} {b : TT} {n : Nat} (h : RB x b n) (f : ATf x y) : RB y b n := h.mv f.1 (fun a k q => f.2 a k (by omega))
theorem RB.u {x : Cn} {b : TT} {n a k : Nat} {v : Int32} (h : RB x b n) (ha : 59 ≤ a ∧ a ≤ 115) (hk : ¬ (a = 59 ∧ k = 6)) : RB (ui x a k v) b n := h.mv rfl (fun c j q => by rw [gi_ui, if_neg (by omega)])
theorem CTk.mv {x y : Cn} {b : TT} {n p : Nat} (h : CTk x b n p) (h2 : ∀ k, 7 ≤ k → k ≤ 10 → gi y 59 k = gi x 59 k) : CTk y b n p := by
  obtain ⟨e1, e2, e3, e4, e5, e6⟩ := h
  exact ⟨(h2 7 (by omega) (by omega)).trans e1, (h2 8 (by omega) (by omega)).trans e2, (h2 9 (by omega) (by omega)).trans e3, fun z => (h2 10 (by omega) (by omega)).trans (e4 z), fun z => (h2 10 (by omega) (by omega)).trans (e5 z), fun z => (h2 10 (by omega) (by omega)).trans (e6 z)⟩
theorem CTk.u {x : Cn} {b : TT} {n p a k : Nat} {v : Int32} (h : CTk x b n p) (hk : ¬ (a = 59 ∧ 7 ≤ k ∧ k ≤ 10)) : CTk (ui x a k v) b n p := h.mv (fun j h1 h2 => by rw [gi_ui, if_neg (by omega)])
theorem CTk.k {y : Cn} {b : TT} {n p : Nat} (t : CTk y b n p) (j : Nat) (hj : j < 100) : gi y 59 9 = nI j ↔ tK b n p = j := by
  have := tK_4 b n p
  rw [t.2.2.1]
  exact nI_eq (by omega) (by omega)
theorem CTk.w {y : Cn} {b : TT} {n p : Nat} (t : CTk y b n p) (i : Nat) : (gi y 59 9 = 1 ∧ gi y 59 10 = nI i) ↔ iw b n p i := by
  have e : gi y 59 9 = 1 ↔ tK b n p = 1 := t.k 1 (by omega)
  unfold iw
  rw [e]
  constructor
  · intro h; exact ⟨h.1, (t.2.2.2.1 h.1).symm.trans h.2⟩
  · intro h; exact ⟨h.1, (t.2.2.2.1 h.1).trans h.2⟩
theorem CTk.s {y : Cn} {b : TT} {n p : Nat} (t : CTk y b n p) (v : Int32) : (gi y 59 9 = 3 ∧ gi y 59 10 = v) ↔ sg b n p v := by
  have e : gi y 59 9 = 3 ↔ tK b n p = 3 := t.k 3 (by omega)
  unfold sg
  rw [e]
  constructor
  · intro h; exact ⟨h.1, (t.2.2.2.2.2 h.1).symm.trans h.2⟩
  · intro h; exact ⟨h.1, (t.2.2.2.2.2 h.1).trans h.2⟩
theorem CTk.nm {y : Cn} {b : TT} {n p : Nat} (t : CTk y b n p) (hp : p ≤ n) (hn : n ≤ 1200) : (gi y 59 9 = 1 ∧ gi y 59 10 = -1 ∧ gi y 59 8 - gi y 59 7 ≤ 6) ↔ nmd b n p := by
  have e : gi y 59 9 = 1 ↔ tK b n p = 1 := t.k 1 (by omega)
  have hE := tE_b (b := b) hp
  have e2 : gi y 59 8 - gi y 59 7 ≤ 6 ↔ tE b n p - tS b n p ≤ 6 := by
    rw [t.1, t.2.1, nI_sb hE.1]
    exact nI_leI (a := tE b n p - tS b n p) (b := 6) (by omega) (by omega)
  unfold nmd
  rw [e, e2]
  constructor
  · intro h; exact ⟨h.1, (t.2.2.2.1 h.1).symm.trans h.2.1, h.2.2⟩
  · intro h; exact ⟨h.1, (t.2.2.2.1 h.1).trans h.2.1, h.2.2⟩
theorem ad_c {x : Cn} {Q : Cn → Prop} {b : TT} {n p : Nat} (B : RB x b n) (t : CTk x b n p) (hp : p ≤ n) (k : ∀ y, ATf x y → RB y b n → CTk y b n (tE b n p) → Q y) : mSV mX3_advance [.ref 59] KW x Q :=
  sp_X3_advance (p := tE b n p) B.2.2.2.2.2.2.1 B.1 B.2.2.1 B.2.2.2.1 B.2.1 t.2.1 (tE_b hp).2.1 (fun y f t' => k y f (B.at f) t')
set_option maxHeartbeats 2000000 in
theorem v_X3_fail_0 {K : Sh} {x : Cn} {Q : Int32 → Cn → Prop} {b0 : Nat} {l1 : Int32}  (k_b0 : kk K b0 = some (3, 0)) (K0 : Q 0 (ui (ui x b0 3 l1) b0 4 (gi (ui x b0 3 l1) b0 7))) : mSI mX3_fail [.ref b0, .int l1] K x Q := by
  refine s_I (by decide) (by simp [Value.category]) (Nat.le_of_ble_eq_true rfl) ?_
  show mGM mX3_fail 0 [some (.ref b0), some (.int l1)] [] (hp K x) (PI K Q)
  refine r_aload_n (pc := 0) dX3_fail_0 rfl ?_
  refine r_iload_n (pc := 1) dX3_fail_1 rfl ?_
  refine s_putI (pc := 2) dX3_fail_2 fl_X3_29 rfl rfl k_b0 ?_
  refine r_aload_n (pc := 5) dX3_fail_5 rfl ?_
  refine r_aload_n (pc := 6) dX3_fail_6 rfl ?_
  refine s_getI (pc := 7) dX3_fail_7 fl_X3_42 rfl k_b0 ?_
  refine s_putI (pc := 10) dX3_fail_10 fl_X3_32 rfl rfl k_b0 ?_
  refine r_iconst (pc := 13) (v := 0) dX3_fail_13 (by decide) ?_
  exact s_zret rfl (by decide) dX3_fail_14 K0
section
theorem sp_X3_fail {x : Cn} {Q : Int32 → Cn → Prop} {v : Int32} (k : ∀ y, FLf x y → Q 0 y) : mSI mX3_fail [.ref 59, .int v] KW x Q :=
  v_X3_fail_0 k59 (k _ ⟨rfl, fun a j hj => by rw [gi_ui, if_neg (by omega), gi_ui, if_neg (by omega)]⟩)
end
set_option maxHeartbeats 2000000 in
theorem v_X3_isWord_0 {K : Sh} {x : Cn} {Q : Int32 → Cn → Prop} {b0 : Nat} {l1 : Int32}  (k_b0 : kk K b0 = some (3, 0)) (K0 : (¬ (gi x b0 9) = 1 → (Q 0 x)) ∧ ((gi x b0 9) = 1 → ((¬ (gi x b0 10) = l1 → (Q 0 x)) ∧ ((gi x b0 10) = l1 → (Q 1 x))))) : mSI mX3_isWord [.ref b0, .int l1] K x Q := by
  refine s_I (by decide) (by simp [Value.category]) (Nat.le_of_ble_eq_true rfl) ?_
  show mGM mX3_isWord 0 [some (.ref b0), some (.int l1)] [] (hp K x) (PI K Q)
  refine r_aload_n (pc := 0) dX3_isWord_0 rfl ?_
  refine s_getI (pc := 1) dX3_isWord_1 fl_X3_48 rfl k_b0 ?_
  refine r_iconst (pc := 4) (v := 1) dX3_isWord_4 (by decide) ?_
  refine r_icmp_ne (pc := 5) (tgt := 20) dX3_isWord_5 (by decide) (fun q => ?_) (fun q => ?_)
  · have K0 := K0.1 q
    refine r_iconst (pc := 20) (v := 0) dX3_isWord_20 (by decide) ?_
    exact s_zret rfl (by decide) dX3_isWord_21 K0
  · have K0 := K0.2 q
    refine r_aload_n (pc := 8) dX3_isWord_8 rfl ?_
    refine s_getI (pc := 9) dX3_isWord_9 fl_X3_51 rfl k_b0 ?_
    refine r_iload_n (pc := 12) dX3_isWord_12 rfl ?_
    refine r_icmp_ne (pc := 13) (tgt := 20) dX3_isWord_13 (by decide) (fun q => ?_) (fun q => ?_)
    · have K0 := K0.1 q
      refine r_iconst (pc := 20) (v := 0) dX3_isWord_20 (by decide) ?_
      exact s_zret rfl (by decide) dX3_isWord_21 K0
    · have K0 := K0.2 q
      refine r_iconst (pc := 16) (v := 1) dX3_isWord_16 (by decide) ?_
      refine r_goto (pc := 17) (tgt := 21) dX3_isWord_17 (by decide) ?_
      exact s_zret rfl (by decide) dX3_isWord_21 K0
section
theorem sp_X3_isWord {K : Sh} {x : Cn} {Q : Int32 → Cn → Prop} {a : Nat} {v : Int32} (h : kk K a = some (3, 0)) (k : Q (b2i (gi x a 9 = 1 ∧ gi x a 10 = v)) x) : mSI mX3_isWord [.ref a, .int v] K x Q := by
  refine v_X3_isWord_0 h ⟨fun z => ?_, fun z => ⟨fun z2 => ?_, fun z2 => ?_⟩⟩
  · rw [b2i_f (fun w => z w.1)] at k; exact k
  · rw [b2i_f (fun w => z2 w.2)] at k; exact k
  · rw [b2i_t ⟨z, z2⟩] at k; exact k
end
set_option maxHeartbeats 2000000 in
theorem v_X3_isSign_0 {K : Sh} {x : Cn} {Q : Int32 → Cn → Prop} {b0 : Nat} {l1 : Int32}  (k_b0 : kk K b0 = some (3, 0)) (K0 : (¬ (gi x b0 9) = 3 → (Q 0 x)) ∧ ((gi x b0 9) = 3 → ((¬ (gi x b0 10) = l1 → (Q 0 x)) ∧ ((gi x b0 10) = l1 → (Q 1 x))))) : mSI mX3_isSign [.ref b0, .int l1] K x Q := by
  refine s_I (by decide) (by simp [Value.category]) (Nat.le_of_ble_eq_true rfl) ?_
  show mGM mX3_isSign 0 [some (.ref b0), some (.int l1)] [] (hp K x) (PI K Q)
  refine r_aload_n (pc := 0) dX3_isSign_0 rfl ?_
  refine s_getI (pc := 1) dX3_isSign_1 fl_X3_48 rfl k_b0 ?_
  refine r_iconst (pc := 4) (v := 3) dX3_isSign_4 (by decide) ?_
  refine r_icmp_ne (pc := 5) (tgt := 20) dX3_isSign_5 (by decide) (fun q => ?_) (fun q => ?_)
  · have K0 := K0.1 q
    refine r_iconst (pc := 20) (v := 0) dX3_isSign_20 (by decide) ?_
    exact s_zret rfl (by decide) dX3_isSign_21 K0
  · have K0 := K0.2 q
    refine r_aload_n (pc := 8) dX3_isSign_8 rfl ?_
    refine s_getI (pc := 9) dX3_isSign_9 fl_X3_51 rfl k_b0 ?_
    refine r_iload_n (pc := 12) dX3_isSign_12 rfl ?_
    refine r_icmp_ne (pc := 13) (tgt := 20) dX3_isSign_13 (by decide) (fun q => ?_) (fun q => ?_)
    · have K0 := K0.1 q
      refine r_iconst (pc := 20) (v := 0) dX3_isSign_20 (by decide) ?_
      exact s_zret rfl (by decide) dX3_isSign_21 K0
    · have K0 := K0.2 q
      refine r_iconst (pc := 16) (v := 1) dX3_isSign_16 (by decide) ?_
      refine r_goto (pc := 17) (tgt := 21) dX3_isSign_17 (by decide) ?_
      exact s_zret rfl (by decide) dX3_isSign_21 K0
section
theorem sp_X3_isSign {K : Sh} {x : Cn} {Q : Int32 → Cn → Prop} {a : Nat} {v : Int32} (h : kk K a = some (3, 0)) (k : Q (b2i (gi x a 9 = 3 ∧ gi x a 10 = v)) x) : mSI mX3_isSign [.ref a, .int v] K x Q := by
  refine v_X3_isSign_0 h ⟨fun z => ?_, fun z => ⟨fun z2 => ?_, fun z2 => ?_⟩⟩
  · rw [b2i_f (fun w => z w.1)] at k; exact k
  · rw [b2i_f (fun w => z2 w.2)] at k; exact k
  · rw [b2i_t ⟨z, z2⟩] at k; exact k
end
set_option maxHeartbeats 2000000 in
theorem v_X3_isName_0 {K : Sh} {x : Cn} {Q : Int32 → Cn → Prop} {b0 : Nat}  (k_b0 : kk K b0 = some (3, 0)) (K0 : (¬ (gi x b0 9) = 1 → (Q 0 x)) ∧ ((gi x b0 9) = 1 → ((¬ (gi x b0 10) = (-1) → (Q 0 x)) ∧ ((gi x b0 10) = (-1) → ((6 < ((gi x b0 8) - (gi x b0 7)) → (Q 0 x)) ∧ (¬ 6 < ((gi x b0 8) - (gi x b0 7)) → (Q 1 x))))))) : mSI mX3_isName [.ref b0] K x Q := by
  refine s_I (by decide) (by simp [Value.category]) (Nat.le_of_ble_eq_true rfl) ?_
  show mGM mX3_isName 0 [some (.ref b0)] [] (hp K x) (PI K Q)
  refine r_aload_n (pc := 0) dX3_isName_0 rfl ?_
  refine s_getI (pc := 1) dX3_isName_1 fl_X3_48 rfl k_b0 ?_
  refine r_iconst (pc := 4) (v := 1) dX3_isName_4 (by decide) ?_
  refine r_icmp_ne (pc := 5) (tgt := 34) dX3_isName_5 (by decide) (fun q => ?_) (fun q => ?_)
  · have K0 := K0.1 q
    refine r_iconst (pc := 34) (v := 0) dX3_isName_34 (by decide) ?_
    exact s_zret rfl (by decide) dX3_isName_35 K0
  · have K0 := K0.2 q
    refine r_aload_n (pc := 8) dX3_isName_8 rfl ?_
    refine s_getI (pc := 9) dX3_isName_9 fl_X3_51 rfl k_b0 ?_
    refine r_iconst (pc := 12) (v := (-1)) dX3_isName_12 (by decide) ?_
    refine r_icmp_ne (pc := 13) (tgt := 34) dX3_isName_13 (by decide) (fun q => ?_) (fun q => ?_)
    · have K0 := K0.1 q
      refine r_iconst (pc := 34) (v := 0) dX3_isName_34 (by decide) ?_
      exact s_zret rfl (by decide) dX3_isName_35 K0
    · have K0 := K0.2 q
      refine r_aload_n (pc := 16) dX3_isName_16 rfl ?_
      refine s_getI (pc := 17) dX3_isName_17 fl_X3_45 rfl k_b0 ?_
      refine r_aload_n (pc := 20) dX3_isName_20 rfl ?_
      refine s_getI (pc := 21) dX3_isName_21 fl_X3_42 rfl k_b0 ?_
      refine r_isub (pc := 24) dX3_isName_24 ?_
      refine r_bipush (pc := 25) (v := 6) dX3_isName_25 (by decide) ?_
      refine r_icmp_gt (pc := 27) (tgt := 34) dX3_isName_27 (by decide) (fun q => ?_) (fun q => ?_)
      · have K0 := K0.1 q
        refine r_iconst (pc := 34) (v := 0) dX3_isName_34 (by decide) ?_
        exact s_zret rfl (by decide) dX3_isName_35 K0
      · have K0 := K0.2 q
        refine r_iconst (pc := 30) (v := 1) dX3_isName_30 (by decide) ?_
        refine r_goto (pc := 31) (tgt := 35) dX3_isName_31 (by decide) ?_
        exact s_zret rfl (by decide) dX3_isName_35 K0
section
theorem sp_X3_isName {K : Sh} {x : Cn} {Q : Int32 → Cn → Prop} {a : Nat} (h : kk K a = some (3, 0)) (k : Q (b2i (gi x a 9 = 1 ∧ gi x a 10 = -1 ∧ gi x a 8 - gi x a 7 ≤ 6)) x) : mSI mX3_isName [.ref a] K x Q := by
  refine v_X3_isName_0 h ⟨fun z => ?_, fun z => ⟨fun z2 => ?_, fun z2 => ⟨fun z3 => ?_, fun z3 => ?_⟩⟩⟩
  · rw [b2i_f (fun w => z w.1)] at k; exact k
  · rw [b2i_f (fun w => z2 w.2.1)] at k; exact k
  · rw [b2i_f (fun w => absurd z3 (Int32.not_lt.mpr w.2.2))] at k; exact k
  · rw [b2i_t ⟨z, z2, Int32.not_lt.mp z3⟩] at k; exact k
end
set_option maxHeartbeats 2000000 in
theorem v_X3_isNumber_0 {K : Sh} {x : Cn} {Q : Int32 → Cn → Prop} {b0 : Nat} {l1 : Int32} {l2 : Int32}  (k_b0 : kk K b0 = some (3, 0)) (K0 : ((gi x b0 9) = 2 → (((l1 ≤ (gi x b0 10) ∧ (gi x b0 10) ≤ l2) → (Q 1 x)) ∧ (¬ (l1 ≤ (gi x b0 10) ∧ (gi x b0 10) ≤ l2) → (mSI mX3_fail [.ref b0, .int 2] K x (fun r_4 y_3 => (r_4 = 0 → (Q 0 y_3)) ∧ (¬ r_4 = 0 → (Q 1 y_3))))))) ∧ (¬ (gi x b0 9) = 2 → (mSI mX3_fail [.ref b0, .int 1] K x (fun r_7 y_6 => (r_7 = 0 ∨ r_7 = 1) ∧ (Q r_7 y_6))))) : mSI mX3_isNumber [.ref b0, .int l1, .int l2] K x Q := by
  refine s_I (by decide) (by simp [Value.category]) (Nat.le_of_ble_eq_true rfl) ?_
  show mGM mX3_isNumber 0 [some (.ref b0), some (.int l1), some (.int l2)] [] (hp K x) (PI K Q)
  refine r_aload_n (pc := 0) dX3_isNumber_0 rfl ?_
  refine s_getI (pc := 1) dX3_isNumber_1 fl_X3_48 rfl k_b0 ?_
  refine r_iconst (pc := 4) (v := 2) dX3_isNumber_4 (by decide) ?_
  refine r_icmp_eq (pc := 5) (tgt := 14) dX3_isNumber_5 (by decide) (fun q => ?_) (fun q => ?_)
  · have K0 := K0.1 q
    refine r_aload_n (pc := 14) dX3_isNumber_14 rfl ?_
    refine s_getI (pc := 15) dX3_isNumber_15 fl_X3_51 rfl k_b0 ?_
    refine r_iload_n (pc := 18) dX3_isNumber_18 rfl ?_
    refine r_iload_n (pc := 19) dX3_isNumber_19 rfl ?_
    refine s_SNI (pc := 20) mX7_isWithin (As := [.int (gi x b0 10), .int l1, .int l2]) dX3_isNumber_20 nl_X3_200 st_X7_isWithin mo_X7_isWithin ⟨by decide, by decide⟩ (Nat.le_of_ble_eq_true rfl) (sp_X7_isWithin  ?_)
    refine r_if_ne (pc := 23) (tgt := 34) dX3_isNumber_23 (by decide) (fun q => ?_) (fun q => ?_)
    · have q := b2i_nz q
      have K0 := K0.1 q
      refine r_iconst (pc := 34) (v := 1) dX3_isNumber_34 (by decide) ?_
      refine r_goto (pc := 35) (tgt := 39) dX3_isNumber_35 (by decide) ?_
      exact s_zret rfl (by decide) dX3_isNumber_39 K0
    · have q := (b2i_z _).mp q
      have K0 := K0.2 q
      refine r_aload_n (pc := 26) dX3_isNumber_26 rfl ?_
      refine r_iconst (pc := 27) (v := 2) dX3_isNumber_27 (by decide) ?_
      refine s_VI (pc := 28) mX3_fail (ci := 3) (a := b0) (As := [.int 2]) dX3_isNumber_28 lk_X3_125 in_X3_fail mo_X3_fail ⟨by decide, rfl⟩ ⟨by decide, by decide⟩ (Nat.le_of_ble_eq_true rfl) k_b0 (mSI_mono K0 (fun r_4 y_3 K0 => ?_))
      refine r_if_eq (pc := 31) (tgt := 38) dX3_isNumber_31 (by decide) (fun q => ?_) (fun q => ?_)
      · have K0 := K0.1 q
        refine r_iconst (pc := 38) (v := 0) dX3_isNumber_38 (by decide) ?_
        exact s_zret rfl (by decide) dX3_isNumber_39 K0
      · have K0 := K0.2 q
        refine r_iconst (pc := 34) (v := 1) dX3_isNumber_34 (by decide) ?_
        refine r_goto (pc := 35) (tgt := 39) dX3_isNumber_35 (by decide) ?_
        exact s_zret rfl (by decide) dX3_isNumber_39 K0
  · have K0 := K0.2 q
    refine r_aload_n (pc := 8) dX3_isNumber_8 rfl ?_
    refine r_iconst (pc := 9) (v := 1) dX3_isNumber_9 (by decide) ?_
    refine s_VI (pc := 10) mX3_fail (ci := 3) (a := b0) (As := [.int 1]) dX3_isNumber_10 lk_X3_125 in_X3_fail mo_X3_fail ⟨by decide, rfl⟩ ⟨by decide, by decide⟩ (Nat.le_of_ble_eq_true rfl) k_b0 (mSI_mono K0 (fun r_7 y_6 K0 => ?_))
    obtain ⟨p_8, K0⟩ := K0
    exact s_zret rfl p_8 dX3_isNumber_13 K0
section
theorem sp_X3_isNumber {x : Cn} {Q : Int32 → Cn → Prop} {b : TT} {n p lo hi : Nat} (t : CTk x b n p) (hlo : lo < 300000) (hhi : hi < 100000) (k1 : nb b n p lo hi → Q 1 x) (k0 : ¬ nb b n p lo hi → ∀ y, FLf x y → Q 0 y) : mSI mX3_isNumber [.ref 59, .int (nI lo), .int (nI hi)] KW x Q := by
  have e : gi x 59 9 = 2 ↔ tK b n p = 2 := t.k 2 (by omega)
  refine v_X3_isNumber_0 k59 ⟨fun z => ?_, fun z => sp_X3_fail (fun y f => ⟨Or.inl rfl, k0 (fun w => z (e.mpr w.1)) y f⟩)⟩
  have h2 := e.mp z
  have hv := t.2.2.2.2.1 h2
  have hm : min (tV b n p) 100000 ≤ 100000 := Nat.min_le_right _ _
  have ei : (nI lo ≤ gi x 59 10 ∧ gi x 59 10 ≤ nI hi) ↔ (lo ≤ tV b n p ∧ tV b n p ≤ hi) := by
    rw [hv, nI_leI (by omega) (by omega), nI_leI (by omega) (by omega)]
    omega
  refine ⟨fun w => k1 ⟨h2, ei.mp w⟩, fun w => sp_X3_fail (fun y f => ⟨fun _ => k0 (fun q => w (ei.mpr q.2)) y f, fun q => absurd rfl q⟩)⟩
end
set_option maxHeartbeats 2000000 in
theorem v_X3_takeWord_0 {K : Sh} {x : Cn} {Q : Int32 → Cn → Prop} {b0 : Nat} {l1 : Int32}  (k_b0 : kk K b0 = some (3, 0)) (K0 : ((gi x b0 9 = 1 ∧ gi x b0 10 = l1) → (mSV mX3_advance [.ref b0] K x (fun y_2 => Q 1 y_2))) ∧ (¬ (gi x b0 9 = 1 ∧ gi x b0 10 = l1) → (mSI mX3_fail [.ref b0, .int 1] K x (fun r_4 y_3 => (r_4 = 0 ∨ r_4 = 1) ∧ (Q r_4 y_3))))) : mSI mX3_takeWord [.ref b0, .int l1] K x Q := by
  refine s_I (by decide) (by simp [Value.category]) (Nat.le_of_ble_eq_true rfl) ?_
  show mGM mX3_takeWord 0 [some (.ref b0), some (.int l1)] [] (hp K x) (PI K Q)
  refine r_aload_n (pc := 0) dX3_takeWord_0 rfl ?_
  refine r_iload_n (pc := 1) dX3_takeWord_1 rfl ?_
  refine s_VI (pc := 2) mX3_isWord (ci := 3) (a := b0) (As := [.int l1]) dX3_takeWord_2 lk_X3_110 in_X3_isWord mo_X3_isWord ⟨by decide, rfl⟩ ⟨by decide, by decide⟩ (Nat.le_of_ble_eq_true rfl) k_b0 (sp_X3_isWord k_b0 ?_)
  refine r_if_ne (pc := 5) (tgt := 14) dX3_takeWord_5 (by decide) (fun q => ?_) (fun q => ?_)
  · have q := b2i_nz q
    have K0 := K0.1 q
    refine r_aload_n (pc := 14) dX3_takeWord_14 rfl ?_
    refine s_VV (pc := 15) mX3_advance (ci := 3) (a := b0) (As := []) dX3_takeWord_15 lk_X3_87 in_X3_advance mo_X3_advance ⟨by decide, rfl⟩ ⟨by decide, by decide⟩ (Nat.le_of_ble_eq_true rfl) k_b0 (mSV_mono K0 (fun y_2 K0 => ?_))
    refine r_iconst (pc := 18) (v := 1) dX3_takeWord_18 (by decide) ?_
    exact s_zret rfl (by decide) dX3_takeWord_19 K0
  · have q := (b2i_z _).mp q
    have K0 := K0.2 q
    refine r_aload_n (pc := 8) dX3_takeWord_8 rfl ?_
    refine r_iconst (pc := 9) (v := 1) dX3_takeWord_9 (by decide) ?_
    refine s_VI (pc := 10) mX3_fail (ci := 3) (a := b0) (As := [.int 1]) dX3_takeWord_10 lk_X3_125 in_X3_fail mo_X3_fail ⟨by decide, rfl⟩ ⟨by decide, by decide⟩ (Nat.le_of_ble_eq_true rfl) k_b0 (mSI_mono K0 (fun r_4 y_3 K0 => ?_))
    obtain ⟨p_5, K0⟩ := K0
    exact s_zret rfl p_5 dX3_takeWord_13 K0
section
theorem sp_X3_takeWord {x : Cn} {Q : Int32 → Cn → Prop} {b : TT} {n p i : Nat} (B : RB x b n) (t : CTk x b n p) (hp : p ≤ n) (k1 : iw b n p i → ∀ y, ATf x y → RB y b n → CTk y b n (tE b n p) → Q 1 y) (k0 : ¬ iw b n p i → ∀ y, FLf x y → Q 0 y) : mSI mX3_takeWord [.ref 59, .int (nI i)] KW x Q :=
  v_X3_takeWord_0 k59 ⟨fun z => ad_c B t hp (k1 ((t.w i).mp z)), fun z => sp_X3_fail (fun y f => ⟨Or.inl rfl, k0 (fun w => z ((t.w i).mpr w)) y f⟩)⟩
end
set_option maxHeartbeats 2000000 in
theorem v_X3_takeSign_0 {K : Sh} {x : Cn} {Q : Int32 → Cn → Prop} {b0 : Nat} {l1 : Int32}  (k_b0 : kk K b0 = some (3, 0)) (K0 : ((gi x b0 9 = 3 ∧ gi x b0 10 = l1) → (mSV mX3_advance [.ref b0] K x (fun y_2 => Q 1 y_2))) ∧ (¬ (gi x b0 9 = 3 ∧ gi x b0 10 = l1) → (mSI mX3_fail [.ref b0, .int 1] K x (fun r_4 y_3 => (r_4 = 0 ∨ r_4 = 1) ∧ (Q r_4 y_3))))) : mSI mX3_takeSign [.ref b0, .int l1] K x Q := by
  refine s_I (by decide) (by simp [Value.category]) (Nat.le_of_ble_eq_true rfl) ?_
  show mGM mX3_takeSign 0 [some (.ref b0), some (.int l1)] [] (hp K x) (PI K Q)
  refine r_aload_n (pc := 0) dX3_takeSign_0 rfl ?_
  refine r_iload_n (pc := 1) dX3_takeSign_1 rfl ?_
  refine s_VI (pc := 2) mX3_isSign (ci := 3) (a := b0) (As := [.int l1]) dX3_takeSign_2 lk_X3_158 in_X3_isSign mo_X3_isSign ⟨by decide, rfl⟩ ⟨by decide, by decide⟩ (Nat.le_of_ble_eq_true rfl) k_b0 (sp_X3_isSign k_b0 ?_)
  refine r_if_ne (pc := 5) (tgt := 14) dX3_takeSign_5 (by decide) (fun q => ?_) (fun q => ?_)
  · have q := b2i_nz q
    have K0 := K0.1 q
    refine r_aload_n (pc := 14) dX3_takeSign_14 rfl ?_
    refine s_VV (pc := 15) mX3_advance (ci := 3) (a := b0) (As := []) dX3_takeSign_15 lk_X3_87 in_X3_advance mo_X3_advance ⟨by decide, rfl⟩ ⟨by decide, by decide⟩ (Nat.le_of_ble_eq_true rfl) k_b0 (mSV_mono K0 (fun y_2 K0 => ?_))
    refine r_iconst (pc := 18) (v := 1) dX3_takeSign_18 (by decide) ?_
    exact s_zret rfl (by decide) dX3_takeSign_19 K0
  · have q := (b2i_z _).mp q
    have K0 := K0.2 q
    refine r_aload_n (pc := 8) dX3_takeSign_8 rfl ?_
    refine r_iconst (pc := 9) (v := 1) dX3_takeSign_9 (by decide) ?_
    refine s_VI (pc := 10) mX3_fail (ci := 3) (a := b0) (As := [.int 1]) dX3_takeSign_10 lk_X3_125 in_X3_fail mo_X3_fail ⟨by decide, rfl⟩ ⟨by decide, by decide⟩ (Nat.le_of_ble_eq_true rfl) k_b0 (mSI_mono K0 (fun r_4 y_3 K0 => ?_))
    obtain ⟨p_5, K0⟩ := K0
    exact s_zret rfl p_5 dX3_takeSign_13 K0
section
theorem sp_X3_takeSign {x : Cn} {Q : Int32 → Cn → Prop} {b : TT} {n p : Nat} {v : Int32} (B : RB x b n) (t : CTk x b n p) (hp : p ≤ n) (k1 : sg b n p v → ∀ y, ATf x y → RB y b n → CTk y b n (tE b n p) → Q 1 y) (k0 : ¬ sg b n p v → ∀ y, FLf x y → Q 0 y) : mSI mX3_takeSign [.ref 59, .int v] KW x Q :=
  v_X3_takeSign_0 k59 ⟨fun z => ad_c B t hp (k1 ((t.s v).mp z)), fun z => sp_X3_fail (fun y f => ⟨Or.inl rfl, k0 (fun w => z ((t.s v).mpr w)) y f⟩)⟩
/-- the landed one in the midst of a TEXT: p, T, the hours limited, weeks, carriers, series, asks -/
def CS (y : Cn) (b : TT) (n p : Nat) (T : TT) (lim : Int32) (W C S A : Nat) : Prop := RB y b n ∧ CTk y b n p ∧ p ≤ n ∧ gi y 59 11 = lim ∧ SEA y 60 T W C S A 0 ∧ NMr y 114 T C
theorem CS.mv {x y : Cn} {b : TT} {n p p' : Nat} {T : TT} {lim : Int32} {W C S A : Nat} (c : CS x b n p T lim W C S A) (h1 : y.2 = x.2) (h2 : ∀ a k, ¬ (a = 59 ∧ k ≠ 6 ∧ k ≠ 11) → gi y a k = gi x a k) (t : CTk y b n p') (hp : p' ≤ n) : CS y b n p' T lim W C S A :=
  ⟨c.1.mv h1 (fun a k q => h2 a k (by omega)), t, hp, (h2 59 11 (by omega)).trans c.2.2.2.1, c.2.2.2.2.1.keep h1 (fun a k q1 q2 _ => h2 a k (by omega)), c.2.2.2.2.2.keep (h2 114 0 (by omega)) (fun i => h2 115 i (by omega)) (fun _ _ => rfl)⟩
theorem CS.at {x y : Cn} {b : TT} {n p p' : Nat} {T : TT} {lim : Int32} {W C S A : Nat} (c : CS x b n p T lim W C S A) (f : ATf x y) (t : CTk y b n p') (hp : p' ≤ n) : CS y b n p' T lim W C S A := c.mv f.1 (fun a k q => f.2 a k (by omega)) t hp
theorem CS.u {x : Cn} {b : TT} {n p k : Nat} {T : TT} {lim v : Int32} {W C S A : Nat} (c : CS x b n p T lim W C S A) (hk : k ≠ 6 ∧ k ≠ 11 ∧ ¬ (7 ≤ k ∧ k ≤ 10)) : CS (ui x 59 k v) b n p T lim W C S A := c.mv rfl (fun a j q => by rw [gi_ui, if_neg (by omega)]) (c.2.1.u (by omega)) c.2.2.1
theorem CS.s2 {x : Cn} {b : TT} {n p : Nat} {T : TT} {lim : Int32} {W C S A : Nat} (c : CS x b n p T lim W C S A) : gi x 60 0 = nI W ∧ gi x 60 3 = nI S ∧ gi x 60 4 = nI A ∧ gi x 114 0 = nI C := by
  obtain ⟨-, -, -, -, ⟨-, -, ⟨v0, -, -, v3, v4, -⟩, w0, -, -, -, -, w2, -, w3, -⟩, nm, -⟩ := c
  exact ⟨v0.trans w0, v3.trans w2, v4.trans w3, nm⟩
theorem k60 : kk KW 60 = some (4, 0) := by decide
theorem k114 : kk KW 114 = some (1, 0) := by decide
theorem k115 : kk KW 115 = some (20, 48) := by decide
theorem SEA.lim {y : Cn} {W C S A N h p q s : Nat} {T : TT} (E : SEA y s T W C S A N) (hh : h < 24) (hp : p ≤ 10) (hq : q ≤ 10) : SEA (ui (ui y (s + 1) h (nI p)) (s + 2) h (nI q)) s (lmT T h (nI p) (nI q)) W C S A N := by
  obtain ⟨e1, e2, ⟨v0, v1, v2, v3, v4, v5, v6, v7⟩, w1, w2, w3, w4, w5, w6, w7, w8, w9, w10, w11, w12, w13, w14⟩ := E
  obtain ⟨r1, r2, r3, r4, r5, r6, r7, r8, r9⟩ := id e2
  have eo : ∀ b k, b ≠ s + 1 → b ≠ s + 2 → gi (ui (ui y (s + 1) h (nI p)) (s + 2) h (nI q)) b k = gi y b k := fun b k c1 c2 => by rw [gi_ui, if_neg (fun z => c2 z.1), gi_ui, if_neg (fun z => c1 z.1)]
  have eT : ∀ i, i ≠ 6 + 2 * h → i ≠ 7 + 2 * h → lmT T h (nI p) (nI q) i = T i := fun i c1 c2 => by unfold lmT; rw [uT_ne _ _ c2, uT_ne _ _ c1]
  have e6 : lmT T h (nI p) (nI q) (6 + 2 * h) = nI p := by unfold lmT; rw [uT_ne _ _ (by omega), uT_at]
  have e7 : lmT T h (nI p) (nI q) (7 + 2 * h) = nI q := by unfold lmT; rw [uT_at]
  refine ⟨e1, e2.keep rfl, ⟨?_, ?_, ?_, ?_, ?_, ?_, ?_, ?_⟩, ?_⟩
  · rw [eo s 0 (by omega) (by omega), eT 0 (by omega) (by omega)]; exact v0
  · rw [eo s 1 (by omega) (by omega), eT 4 (by omega) (by omega)]; exact v1
  · rw [eo s 2 (by omega) (by omega), eT 5 (by omega) (by omega)]; exact v2
  · rw [eo s 3 (by omega) (by omega), eT 2 (by omega) (by omega)]; exact v3
  · rw [eo s 4 (by omega) (by omega), eT 3 (by omega) (by omega)]; exact v4
  · intro i hi
    by_cases c : i = h
    · subst c
      rw [e6, e7]
      exact ⟨by rw [gi_ui, if_neg (by omega), gi_ui, if_pos ⟨rfl, rfl⟩], by rw [gi_ui, if_pos ⟨rfl, rfl⟩]⟩
    · rw [eT _ (by omega) (by omega), eT _ (by omega) (by omega), gi_ui, if_neg (by omega), gi_ui, if_neg (by omega), gi_ui, if_neg (by omega), gi_ui, if_neg (by omega)]
      exact v5 i hi
  · intro i u hi hu
    obtain ⟨j, hj, ej⟩ := r6 i (by omega)
    have hu' : gr y (s + 3) i = some u := hu
    have eu : u = s + 6 + j := Option.some.inj (hu'.symm.trans ej)
    have := v6 i u hi hu
    exact this.cg (fun k _ => eo u k (by omega) (by omega)) (fun k hk => eT _ (by omega) (by omega))
  · intro i u hi hu
    obtain ⟨j, hj, ej⟩ := r8 i (by omega)
    have hu' : gr y (s + 4) i = some u := hu
    have eu : u = s + 30 + j := Option.some.inj (hu'.symm.trans ej)
    have := v7 i u hi hu
    exact this.cg (fun k _ => eo u k (by omega) (by omega)) (fun k hk => eT _ (by omega) (by omega))
  · refine ⟨by rw [eT 0 (by omega) (by omega)]; exact w1, w2, w3, by rw [eT 1 (by omega) (by omega)]; exact w4, w5, by rw [eT 2 (by omega) (by omega)]; exact w6, w7, by rw [eT 3 (by omega) (by omega)]; exact w8, w9, by rw [eT 4 (by omega) (by omega)]; exact w10, w11, fun i hi => ?_, fun i hi => (w13 i hi).cg (fun k hk => eT _ (by omega) (by omega)), fun i hi => (w14 i hi).cg (fun k hk => eT _ (by omega) (by omega))⟩
    by_cases c : i = h
    · subst c
      exact ⟨p, q, hp, hq, e6, e7⟩
    · rw [eT _ (by omega) (by omega), eT _ (by omega) (by omega)]
      exact w12 i hi
/-! the line of weeks -/
def okW (b : TT) (n p : Nat) : Prop := iw b n p 7 ∧ nb b n (nxt b n 1 p) 5 30 ∧ sg b n (nxt b n 2 p) 59
/-- the row ahead of all lines -/
def T00 (j : TT) : TT := fun i => if i < 518 then (if 6 ≤ i ∧ i < 54 then 4 else 0) else j i
theorem T00_4 {j : TT} {i : Nat} (h : 6 ≤ i ∧ i < 54) : T00 j i = 4 := by unfold T00; rw [if_pos (by omega), if_pos h]
theorem T00_0 {j : TT} {i : Nat} (h : i < 6 ∨ (54 ≤ i ∧ i < 518)) : T00 j i = 0 := by unfold T00; rw [if_pos (by omega), if_neg (by omega)]
theorem SEA.wk {x : Cn} {W : Nat} {j : TT} (E : SEA x 60 (T00 j) 0 0 0 0 0) (h1 : 5 ≤ W) (h2 : W ≤ 30) : SEA (ui x 60 0 (nI W)) 60 (uT (T00 j) 0 (nI W)) W 0 0 0 0 := by
  obtain ⟨e1, e2, ⟨v0, v1, v2, v3, v4, v5, v6, v7⟩, -⟩ := E
  have eT : ∀ i, i ≠ 0 → uT (T00 j) 0 (nI W) i = T00 j i := fun i c => uT_ne _ _ c
  refine ⟨e1, e2.keep rfl, ⟨?_, ?_, ?_, ?_, ?_, fun h hh => ?_, fun s p hs => absurd hs (by omega), fun s p hs => absurd hs (by omega)⟩, uT_at _ _ _, Or.inr h1, h2, ?_, by omega, ?_, by omega, ?_, by omega, ?_, by omega, fun h hh => ⟨4, 4, by omega, by omega, ?_, ?_⟩, fun s hs => absurd hs (by omega), fun s hs => absurd hs (by omega)⟩
  · rw [gi_ui, if_pos ⟨rfl, rfl⟩, uT_at]
  · rw [gi_ui, if_neg (by omega), eT 4 (by omega)]; exact v1
  · rw [gi_ui, if_neg (by omega), eT 5 (by omega)]; exact v2
  · rw [gi_ui, if_neg (by omega), eT 2 (by omega)]; exact v3
  · rw [gi_ui, if_neg (by omega), eT 3 (by omega)]; exact v4
  · rw [gi_ui, if_neg (by omega), gi_ui, if_neg (by omega), eT _ (by omega), eT _ (by omega)]; exact v5 h hh
  · rw [eT 1 (by omega)]; exact T00_0 (by omega)
  · rw [eT 2 (by omega)]; exact T00_0 (by omega)
  · rw [eT 3 (by omega)]; exact T00_0 (by omega)
  · rw [eT 4 (by omega)]; exact T00_0 (by omega)
  · rw [eT _ (by omega)]; exact T00_4 (by omega)
  · rw [eT _ (by omega)]; exact T00_4 (by omega)
end
set_option maxHeartbeats 2000000 in
theorem v_X3_readWeeks_0 {K : Sh} {x : Cn} {Q : Int32 → Cn → Prop} {b0 : Nat}  (k_b0 : kk K b0 = some (3, 0)) (K0 : mSI mX3_takeWord [.ref b0, .int 7] K x (fun r_2 y_1 => (r_2 = 0 → (Q 0 y_1)) ∧ (¬ r_2 = 0 → (mSI mX3_isNumber [.ref b0, .int 5, .int 30] K y_1 (fun r_5 y_4 => (¬ r_5 = 0 → (∃ c_7 : Nat, gr y_4 b0 0 = some c_7 ∧ (kk K c_7 = some (4, 0) ∧ (mSV mX3_advance [.ref b0] K (ui y_4 c_7 0 (gi y_4 b0 10)) (fun y_10 => mSI mX3_takeSign [.ref b0, .int 59] K y_10 (fun r_12 y_11 => (r_12 = 0 ∨ r_12 = 1) ∧ (Q r_12 y_11))))))) ∧ (r_5 = 0 → (Q 0 y_4))))))) : mSI mX3_readWeeks [.ref b0] K x Q := by
  refine s_I (by decide) (by simp [Value.category]) (Nat.le_of_ble_eq_true rfl) ?_
  show mGM mX3_readWeeks 0 [some (.ref b0)] [] (hp K x) (PI K Q)
  refine r_aload_n (pc := 0) dX3_readWeeks_0 rfl ?_
  refine r_bipush (pc := 1) (v := 7) dX3_readWeeks_1 (by decide) ?_
  refine s_VI (pc := 3) mX3_takeWord (ci := 3) (a := b0) (As := [.int 7]) dX3_readWeeks_3 lk_X3_97 in_X3_takeWord mo_X3_takeWord ⟨by decide, rfl⟩ ⟨by decide, by decide⟩ (Nat.le_of_ble_eq_true rfl) k_b0 (mSI_mono K0 (fun r_2 y_1 K0 => ?_))
  refine r_if_eq (pc := 6) (tgt := 19) dX3_readWeeks_6 (by decide) (fun q => ?_) (fun q => ?_)
  · have K0 := K0.1 q
    refine r_iconst (pc := 19) (v := 0) dX3_readWeeks_19 (by decide) ?_
    exact s_zret rfl (by decide) dX3_readWeeks_20 K0
  · have K0 := K0.2 q
    refine r_aload_n (pc := 9) dX3_readWeeks_9 rfl ?_
    refine r_iconst (pc := 10) (v := 5) dX3_readWeeks_10 (by decide) ?_
    refine r_bipush (pc := 11) (v := 30) dX3_readWeeks_11 (by decide) ?_
    refine s_VI (pc := 13) mX3_isNumber (ci := 3) (a := b0) (As := [.int 5, .int 30]) dX3_readWeeks_13 lk_X3_101 in_X3_isNumber mo_X3_isNumber ⟨by decide, rfl⟩ ⟨by decide, by decide⟩ (Nat.le_of_ble_eq_true rfl) k_b0 (mSI_mono K0 (fun r_5 y_4 K0 => ?_))
    refine r_if_ne (pc := 16) (tgt := 21) dX3_readWeeks_16 (by decide) (fun q => ?_) (fun q => ?_)
    · have K0 := K0.1 q
      refine r_aload_n (pc := 21) dX3_readWeeks_21 rfl ?_
      obtain ⟨c_7, g_8, K0⟩ := K0
      refine s_getR (pc := 22) dX3_readWeeks_22 fl_X3_12 rfl k_b0 g_8 ?_
      refine r_aload_n (pc := 25) dX3_readWeeks_25 rfl ?_
      refine s_getI (pc := 26) dX3_readWeeks_26 fl_X3_51 rfl k_b0 ?_
      obtain ⟨e_9, K0⟩ := K0
      refine s_putI (pc := 29) dX3_readWeeks_29 fl_X3_105 rfl rfl e_9 ?_
      refine r_aload_n (pc := 32) dX3_readWeeks_32 rfl ?_
      refine s_VV (pc := 33) mX3_advance (ci := 3) (a := b0) (As := []) dX3_readWeeks_33 lk_X3_87 in_X3_advance mo_X3_advance ⟨by decide, rfl⟩ ⟨by decide, by decide⟩ (Nat.le_of_ble_eq_true rfl) k_b0 (mSV_mono K0 (fun y_10 K0 => ?_))
      refine r_aload_n (pc := 36) dX3_readWeeks_36 rfl ?_
      refine r_bipush (pc := 37) (v := 59) dX3_readWeeks_37 (by decide) ?_
      refine s_VI (pc := 39) mX3_takeSign (ci := 3) (a := b0) (As := [.int 59]) dX3_readWeeks_39 lk_X3_106 in_X3_takeSign mo_X3_takeSign ⟨by decide, rfl⟩ ⟨by decide, by decide⟩ (Nat.le_of_ble_eq_true rfl) k_b0 (mSI_mono K0 (fun r_12 y_11 K0 => ?_))
      obtain ⟨p_13, K0⟩ := K0
      exact s_zret rfl p_13 dX3_readWeeks_42 K0
    · have K0 := K0.2 q
      refine r_iconst (pc := 19) (v := 0) dX3_readWeeks_19 (by decide) ?_
      exact s_zret rfl (by decide) dX3_readWeeks_20 K0
section
theorem sp_X3_readWeeks {x : Cn} {Q : Int32 → Cn → Prop} {b j : TT} {n p : Nat} (B : RB x b n) (t : CTk x b n p) (hp : p ≤ n) (h11 : gi x 59 11 = 0) (E : SEA x 60 (T00 j) 0 0 0 0 0) (h0 : gi x 114 0 = 0) (k1 : okW b n p → ∀ y, SCf x y → CS y b n (nxt b n 3 p) (uT (T00 j) 0 (nI (tV b n (nxt b n 1 p)))) 0 (tV b n (nxt b n 1 p)) 0 0 0 → Q 1 y) (k0 : ¬ okW b n p → ∀ y, SCf x y → Q 0 y) : mSI mX3_readWeeks [.ref 59] KW x Q := by
  have q1 : tE b n p ≤ n := nxt_le (k := 1) hp
  have q2 : tE b n (tE b n p) ≤ n := nxt_le (k := 2) hp
  refine v_X3_readWeeks_0 k59 (sp_X3_takeWord (i := 7) B t hp (fun o1 y f1 B1 t1 => ⟨fun z => absurd z (by decide), fun _ => ?_⟩) (fun o1 y f => ⟨fun _ => k0 (fun o => o1 o.1) y f.sc, fun z => absurd rfl z⟩))
  refine sp_X3_isNumber (lo := 5) (hi := 30) t1 (by omega) (by omega) (fun o2 => ⟨fun _ => ⟨60, B1.2.2.2.2.1, k60, ?_⟩, fun z => absurd z (by decide)⟩) (fun o2 y2 f2 => ⟨fun z => absurd rfl z, fun _ => k0 (fun o => o2 o.2.1) y2 (f1.sc.tr f2.sc)⟩)
  have hW : min (tV b n (tE b n p)) 100000 = tV b n (tE b n p) := by have := o2.2.2; omega
  have hv := t1.2.2.2.2.1 o2.1
  rw [hW] at hv
  rw [hv]
  have f2 : SCf x (ui y 60 0 (nI (tV b n (tE b n p)))) := f1.sc.u (by omega)
  have E1 : SEA y 60 (T00 j) 0 0 0 0 0 := E.keep f1.1 (fun a k _ _ _ => f1.2 a k (by omega))
  have E2 := E1.wk (W := tV b n (tE b n p)) o2.2.1 o2.2.2
  have B2 : RB (ui y 60 0 (nI (tV b n (tE b n p)))) b n := B1.u (by omega) (by omega)
  have t2 : CTk (ui y 60 0 (nI (tV b n (tE b n p)))) b n (tE b n p) := t1.u (by omega)
  have y11 : gi (ui y 60 0 (nI (tV b n (tE b n p)))) 59 11 = 0 := by rw [gi_ui, if_neg (by omega)]; exact (f1.2 59 11 (by omega)).trans h11
  have y114 : gi (ui y 60 0 (nI (tV b n (tE b n p)))) 114 0 = 0 := by rw [gi_ui, if_neg (by omega)]; exact (f1.2 114 0 (by omega)).trans h0
  generalize ui y 60 0 (nI (tV b n (tE b n p))) = u at f2 E2 B2 t2 y11 y114
  have c2 : CS u b n (tE b n p) (uT (T00 j) 0 (nI (tV b n (tE b n p)))) 0 (tV b n (tE b n p)) 0 0 0 := ⟨B2, t2, q1, y11, E2, ⟨y114, fun c hc => absurd hc (by omega)⟩⟩
  refine ad_c B2 t2 q1 (fun y3 f3 B3 t3 => ?_)
  refine sp_X3_takeSign B3 t3 q2 (fun o3 y4 f4 B4 t4 => ⟨Or.inr rfl, ?_⟩) (fun o3 y4 f4 => ⟨Or.inl rfl, k0 (fun o => o3 o.2.2) y4 ((f2.tr f3.sc).tr f4.sc)⟩)
  exact k1 ⟨o1, o2, o3⟩ y4 ((f2.tr f3.sc).tr f4.sc) (((c2.at f3 t3 q2).at f4 t4 (nxt_le (k := 3) hp)))
/-! a limit's line -/
def okL (b : TT) (n p : Nat) (lim : Int32) (S : Nat) : Prop := S = 0 ∧ nb b n (nxt b n 1 p) 0 23 ∧ ¬ tb lim (tV b n (nxt b n 1 p)) = true ∧ nb b n (nxt b n 2 p) 0 9 ∧ iw b n (nxt b n 3 p) 12 ∧ nb b n (nxt b n 4 p) 0 (tV b n (nxt b n 2 p)) ∧ sg b n (nxt b n 5 p) 59
def lmL (b : TT) (n p : Nat) (lim : Int32) : Int32 := lim ||| (1 <<< (nI (tV b n (nxt b n 1 p)) &&& 31))
def lTT (b : TT) (n p : Nat) (T : TT) : TT := lmT T (tV b n (nxt b n 1 p)) (nI (tV b n (nxt b n 2 p))) (nI (tV b n (nxt b n 4 p)))
theorem mn5 {V m : Nat} (h : V ≤ m) (hm : m ≤ 9000) : min V 100000 = V ∧ min V 9999 = V := by omega
end
set_option maxHeartbeats 2000000 in
theorem v_X3_readLimit_0 {K : Sh} {x : Cn} {Q : Int32 → Cn → Prop} {b0 : Nat} {b0_0 : Nat} (k_b0 : kk K b0 = some (3, 0)) (g_b0_0 : gr x b0 0 = some b0_0) (k_b0_0 : kk K b0_0 = some (4, 0)) (K0 : ((gi x b0_0 3) ≤ 0 → (mSV mX3_advance [.ref b0] K x (fun y_2 => mSI mX3_isNumber [.ref b0, .int 0, .int 23] K y_2 (fun r_4 y_3 => (¬ r_4 = 0 → ((¬ (f_bit (gi y_3 b0 11) (gi y_3 b0 10)) → (mSV mX3_advance [.ref b0] K (ui y_3 b0 11 ((gi y_3 b0 11) ||| (1 <<< ((gi y_3 b0 10) &&& 31)))) (fun y_7 => mSI mX3_isNumber [.ref b0, .int 0, .int 9] K y_7 (fun r_9 y_8 => (¬ r_9 = 0 → (mSV mX3_advance [.ref b0] K y_8 (fun y_11 => mSI mX3_takeWord [.ref b0, .int 12] K y_11 (fun r_13 y_12 => (r_13 = 0 → (Q 0 y_12)) ∧ (¬ r_13 = 0 → (mSI mX3_isNumber [.ref b0, .int 0, .int (gi y_8 b0 10)] K y_12 (fun r_16 y_15 => (¬ r_16 = 0 → (gr y_15 b0 0 = some b0_0 ∧ (∃ c_19 : Nat, gr y_15 b0_0 5 = some c_19 ∧ (∃ n_22 : Nat, kk K c_19 = some (20, n_22) ∧ (vp_in (gi y_3 b0 10) n_22 ∧ (∃ c_24 : Nat, gr y_15 b0_0 6 = some c_24 ∧ (∀ r_26 : Int32, r_26 = gi (ui y_15 c_19 ((gi y_3 b0 10) : Int32).toNatClampNeg (gi y_8 b0 10)) b0 10 → (∃ n_29 : Nat, kk K c_24 = some (20, n_29) ∧ (vp_in (gi y_3 b0 10) n_29 ∧ (mSV mX3_advance [.ref b0] K (ui (ui y_15 c_19 ((gi y_3 b0 10) : Int32).toNatClampNeg (gi y_8 b0 10)) c_24 ((gi y_3 b0 10) : Int32).toNatClampNeg r_26) (fun y_31 => mSI mX3_takeSign [.ref b0, .int 59] K y_31 (fun r_33 y_32 => (r_33 = 0 ∨ r_33 = 1) ∧ (Q r_33 y_32))))))))))))) ∧ (r_16 = 0 → (Q 0 y_15))))))))) ∧ (r_9 = 0 → (Q 0 y_8)))))) ∧ ((f_bit (gi y_3 b0 11) (gi y_3 b0 10)) → (mSI mX3_fail [.ref b0, .int 3] K y_3 (fun r_36 y_35 => (r_36 = 0 ∨ r_36 = 1) ∧ (Q r_36 y_35)))))) ∧ (r_4 = 0 → (Q 0 y_3)))))) ∧ (¬ (gi x b0_0 3) ≤ 0 → (mSI mX3_fail [.ref b0, .int 5] K x (fun r_39 y_38 => (r_39 = 0 ∨ r_39 = 1) ∧ (Q r_39 y_38))))) : mSI mX3_readLimit [.ref b0] K x Q := by
  refine s_I (by decide) (by simp [Value.category]) (Nat.le_of_ble_eq_true rfl) ?_
  show mGM mX3_readLimit 0 [some (.ref b0), none, none] [] (hp K x) (PI K Q)
  refine r_aload_n (pc := 0) dX3_readLimit_0 rfl ?_
  refine s_getR (pc := 1) dX3_readLimit_1 fl_X3_12 rfl k_b0 g_b0_0 ?_
  refine s_getI (pc := 4) dX3_readLimit_4 fl_X3_128 rfl k_b0_0 ?_
  refine r_if_le (pc := 7) (tgt := 16) dX3_readLimit_7 (by decide) (fun q => ?_) (fun q => ?_)
  · have K0 := K0.1 q
    refine r_aload_n (pc := 16) dX3_readLimit_16 rfl ?_
    refine s_VV (pc := 17) mX3_advance (ci := 3) (a := b0) (As := []) dX3_readLimit_17 lk_X3_87 in_X3_advance mo_X3_advance ⟨by decide, rfl⟩ ⟨by decide, by decide⟩ (Nat.le_of_ble_eq_true rfl) k_b0 (mSV_mono K0 (fun y_2 K0 => ?_))
    refine r_aload_n (pc := 20) dX3_readLimit_20 rfl ?_
    refine r_iconst (pc := 21) (v := 0) dX3_readLimit_21 (by decide) ?_
    refine r_bipush (pc := 22) (v := 23) dX3_readLimit_22 (by decide) ?_
    refine s_VI (pc := 24) mX3_isNumber (ci := 3) (a := b0) (As := [.int 0, .int 23]) dX3_readLimit_24 lk_X3_101 in_X3_isNumber mo_X3_isNumber ⟨by decide, rfl⟩ ⟨by decide, by decide⟩ (Nat.le_of_ble_eq_true rfl) k_b0 (mSI_mono K0 (fun r_4 y_3 K0 => ?_))
    refine r_if_ne (pc := 27) (tgt := 32) dX3_readLimit_27 (by decide) (fun q => ?_) (fun q => ?_)
    · have K0 := K0.1 q
      refine r_aload_n (pc := 32) dX3_readLimit_32 rfl ?_
      refine s_getI (pc := 33) dX3_readLimit_33 fl_X3_51 rfl k_b0 ?_
      refine r_istore_n (pc := 36) dX3_readLimit_36 (by decide) ?_
      refine r_aload_n (pc := 37) (L := [some (.ref b0), some (.int (gi y_3 b0 10)), none]) dX3_readLimit_37 rfl ?_
      refine s_getI (pc := 38) dX3_readLimit_38 fl_X3_54 rfl k_b0 ?_
      refine r_iload_n (pc := 41) dX3_readLimit_41 rfl ?_
      refine s_SNI (pc := 42) mX7_hasBit (As := [.int (gi y_3 b0 11), .int (gi y_3 b0 10)]) dX3_readLimit_42 nl_X3_131 st_X7_hasBit mo_X7_hasBit ⟨by decide, by decide⟩ (Nat.le_of_ble_eq_true rfl) (sp_X7_hasBit  ?_)
      refine r_if_eq (pc := 45) (tgt := 54) dX3_readLimit_45 (by decide) (fun q => ?_) (fun q => ?_)
      · have q := (b2i_z _).mp q
        have K0 := K0.1 q
        refine r_aload_n (pc := 54) dX3_readLimit_54 rfl ?_
        refine r_dup (pc := 55) dX3_readLimit_55 rfl ?_
        refine s_getI (pc := 56) dX3_readLimit_56 fl_X3_54 rfl k_b0 ?_
        refine r_iconst (pc := 59) (v := 1) dX3_readLimit_59 (by decide) ?_
        refine r_iload_n (pc := 60) dX3_readLimit_60 rfl ?_
        refine r_ishl (pc := 61) dX3_readLimit_61 ?_
        refine r_ior (pc := 62) dX3_readLimit_62 ?_
        refine s_putI (pc := 63) dX3_readLimit_63 fl_X3_54 rfl rfl k_b0 ?_
        refine r_aload_n (pc := 66) dX3_readLimit_66 rfl ?_
        refine s_VV (pc := 67) mX3_advance (ci := 3) (a := b0) (As := []) dX3_readLimit_67 lk_X3_87 in_X3_advance mo_X3_advance ⟨by decide, rfl⟩ ⟨by decide, by decide⟩ (Nat.le_of_ble_eq_true rfl) k_b0 (mSV_mono K0 (fun y_7 K0 => ?_))
        refine r_aload_n (pc := 70) dX3_readLimit_70 rfl ?_
        refine r_iconst (pc := 71) (v := 0) dX3_readLimit_71 (by decide) ?_
        refine r_bipush (pc := 72) (v := 9) dX3_readLimit_72 (by decide) ?_
        refine s_VI (pc := 74) mX3_isNumber (ci := 3) (a := b0) (As := [.int 0, .int 9]) dX3_readLimit_74 lk_X3_101 in_X3_isNumber mo_X3_isNumber ⟨by decide, rfl⟩ ⟨by decide, by decide⟩ (Nat.le_of_ble_eq_true rfl) k_b0 (mSI_mono K0 (fun r_9 y_8 K0 => ?_))
        refine r_if_ne (pc := 77) (tgt := 82) dX3_readLimit_77 (by decide) (fun q => ?_) (fun q => ?_)
        · have K0 := K0.1 q
          refine r_aload_n (pc := 82) dX3_readLimit_82 rfl ?_
          refine s_getI (pc := 83) dX3_readLimit_83 fl_X3_51 rfl k_b0 ?_
          refine r_istore_n (pc := 86) dX3_readLimit_86 (by decide) ?_
          refine r_aload_n (pc := 87) (L := [some (.ref b0), some (.int (gi y_3 b0 10)), some (.int (gi y_8 b0 10))]) dX3_readLimit_87 rfl ?_
          refine s_VV (pc := 88) mX3_advance (ci := 3) (a := b0) (As := []) dX3_readLimit_88 lk_X3_87 in_X3_advance mo_X3_advance ⟨by decide, rfl⟩ ⟨by decide, by decide⟩ (Nat.le_of_ble_eq_true rfl) k_b0 (mSV_mono K0 (fun y_11 K0 => ?_))
          refine r_aload_n (pc := 91) dX3_readLimit_91 rfl ?_
          refine r_bipush (pc := 92) (v := 12) dX3_readLimit_92 (by decide) ?_
          refine s_VI (pc := 94) mX3_takeWord (ci := 3) (a := b0) (As := [.int 12]) dX3_readLimit_94 lk_X3_97 in_X3_takeWord mo_X3_takeWord ⟨by decide, rfl⟩ ⟨by decide, by decide⟩ (Nat.le_of_ble_eq_true rfl) k_b0 (mSI_mono K0 (fun r_13 y_12 K0 => ?_))
          refine r_if_eq (pc := 97) (tgt := 109) dX3_readLimit_97 (by decide) (fun q => ?_) (fun q => ?_)
          · have K0 := K0.1 q
            refine r_iconst (pc := 109) (v := 0) dX3_readLimit_109 (by decide) ?_
            exact s_zret rfl (by decide) dX3_readLimit_110 K0
          · have K0 := K0.2 q
            refine r_aload_n (pc := 100) dX3_readLimit_100 rfl ?_
            refine r_iconst (pc := 101) (v := 0) dX3_readLimit_101 (by decide) ?_
            refine r_iload_n (pc := 102) dX3_readLimit_102 rfl ?_
            refine s_VI (pc := 103) mX3_isNumber (ci := 3) (a := b0) (As := [.int 0, .int (gi y_8 b0 10)]) dX3_readLimit_103 lk_X3_101 in_X3_isNumber mo_X3_isNumber ⟨by decide, rfl⟩ ⟨by decide, by decide⟩ (Nat.le_of_ble_eq_true rfl) k_b0 (mSI_mono K0 (fun r_16 y_15 K0 => ?_))
            refine r_if_ne (pc := 106) (tgt := 111) dX3_readLimit_106 (by decide) (fun q => ?_) (fun q => ?_)
            · have K0 := K0.1 q
              refine r_aload_n (pc := 111) dX3_readLimit_111 rfl ?_
              obtain ⟨g_18, K0⟩ := K0
              refine s_getR (pc := 112) dX3_readLimit_112 fl_X3_12 rfl k_b0 g_18 ?_
              obtain ⟨c_19, g_20, K0⟩ := K0
              refine s_getR (pc := 115) dX3_readLimit_115 fl_X3_134 rfl k_b0_0 g_20 ?_
              refine r_iload_n (pc := 118) dX3_readLimit_118 rfl ?_
              refine r_iload_n (pc := 119) dX3_readLimit_119 rfl ?_
              obtain ⟨n_22, e_21, K0⟩ := K0
              obtain ⟨i_23, K0⟩ := K0
              refine s_iast (pc := 120) dX3_readLimit_120 e_21 i_23 ?_
              refine r_aload_n (pc := 121) dX3_readLimit_121 rfl ?_
              refine s_getR (pc := 122) dX3_readLimit_122 fl_X3_12 rfl k_b0 g_18 ?_
              obtain ⟨c_24, g_25, K0⟩ := K0
              refine s_getR (pc := 125) dX3_readLimit_125 fl_X3_138 rfl k_b0_0 g_25 ?_
              refine r_iload_n (pc := 128) dX3_readLimit_128 rfl ?_
              refine r_aload_n (pc := 129) dX3_readLimit_129 rfl ?_
              refine s_getI (pc := 130) dX3_readLimit_130 fl_X3_51 rfl k_b0 ?_
              obtain ⟨r_26, w_27⟩ : ∃ z : Int32, z = gi (ui y_15 c_19 ((gi y_3 b0 10) : Int32).toNatClampNeg (gi y_8 b0 10)) b0 10 := ⟨_, rfl⟩
              rw [← w_27]
              have K0 := K0 r_26 w_27
              obtain ⟨n_29, e_28, K0⟩ := K0
              obtain ⟨i_30, K0⟩ := K0
              refine s_iast (pc := 133) dX3_readLimit_133 e_28 i_30 ?_
              refine r_aload_n (pc := 134) dX3_readLimit_134 rfl ?_
              refine s_VV (pc := 135) mX3_advance (ci := 3) (a := b0) (As := []) dX3_readLimit_135 lk_X3_87 in_X3_advance mo_X3_advance ⟨by decide, rfl⟩ ⟨by decide, by decide⟩ (Nat.le_of_ble_eq_true rfl) k_b0 (mSV_mono K0 (fun y_31 K0 => ?_))
              refine r_aload_n (pc := 138) dX3_readLimit_138 rfl ?_
              refine r_bipush (pc := 139) (v := 59) dX3_readLimit_139 (by decide) ?_
              refine s_VI (pc := 141) mX3_takeSign (ci := 3) (a := b0) (As := [.int 59]) dX3_readLimit_141 lk_X3_106 in_X3_takeSign mo_X3_takeSign ⟨by decide, rfl⟩ ⟨by decide, by decide⟩ (Nat.le_of_ble_eq_true rfl) k_b0 (mSI_mono K0 (fun r_33 y_32 K0 => ?_))
              obtain ⟨p_34, K0⟩ := K0
              exact s_zret rfl p_34 dX3_readLimit_144 K0
            · have K0 := K0.2 q
              refine r_iconst (pc := 109) (v := 0) dX3_readLimit_109 (by decide) ?_
              exact s_zret rfl (by decide) dX3_readLimit_110 K0
        · have K0 := K0.2 q
          refine r_iconst (pc := 80) (v := 0) dX3_readLimit_80 (by decide) ?_
          exact s_zret rfl (by decide) dX3_readLimit_81 K0
      · have q := b2i_nz q
        have K0 := K0.2 q
        refine r_aload_n (pc := 48) dX3_readLimit_48 rfl ?_
        refine r_iconst (pc := 49) (v := 3) dX3_readLimit_49 (by decide) ?_
        refine s_VI (pc := 50) mX3_fail (ci := 3) (a := b0) (As := [.int 3]) dX3_readLimit_50 lk_X3_125 in_X3_fail mo_X3_fail ⟨by decide, rfl⟩ ⟨by decide, by decide⟩ (Nat.le_of_ble_eq_true rfl) k_b0 (mSI_mono K0 (fun r_36 y_35 K0 => ?_))
        obtain ⟨p_37, K0⟩ := K0
        exact s_zret rfl p_37 dX3_readLimit_53 K0
    · have K0 := K0.2 q
      refine r_iconst (pc := 30) (v := 0) dX3_readLimit_30 (by decide) ?_
      exact s_zret rfl (by decide) dX3_readLimit_31 K0
  · have K0 := K0.2 q
    refine r_aload_n (pc := 10) dX3_readLimit_10 rfl ?_
    refine r_iconst (pc := 11) (v := 5) dX3_readLimit_11 (by decide) ?_
    refine s_VI (pc := 12) mX3_fail (ci := 3) (a := b0) (As := [.int 5]) dX3_readLimit_12 lk_X3_125 in_X3_fail mo_X3_fail ⟨by decide, rfl⟩ ⟨by decide, by decide⟩ (Nat.le_of_ble_eq_true rfl) k_b0 (mSI_mono K0 (fun r_39 y_38 K0 => ?_))
    obtain ⟨p_40, K0⟩ := K0
    exact s_zret rfl p_40 dX3_readLimit_15 K0
section
theorem sp_X3_readLimit {x : Cn} {Q : Int32 → Cn → Prop} {b : TT} {n p : Nat} {T : TT} {lim : Int32} {W C S A : Nat} (c : CS x b n p T lim W C S A) (k1 : okL b n p lim S → ∀ y, SCf x y → CS y b n (nxt b n 6 p) (lTT b n p T) (lmL b n p lim) W C S A → Q 1 y) (k0 : ¬ okL b n p lim S → ∀ y, SCf x y → Q 0 y) : mSI mX3_readLimit [.ref 59] KW x Q := by
  have hp := c.2.2.1
  have q1 : nxt b n 1 p ≤ n := nxt_le hp
  have q2 : nxt b n 2 p ≤ n := nxt_le hp
  have q3 : nxt b n 3 p ≤ n := nxt_le hp
  have q4 : nxt b n 4 p ≤ n := nxt_le hp
  have q5 : nxt b n 5 p ≤ n := nxt_le hp
  have q6 : nxt b n 6 p ≤ n := nxt_le hp
  have hS : S ≤ 24 := c.2.2.2.2.1.2.2.2.2.2.2.2.2.2.1
  refine v_X3_readLimit_0 k59 c.1.2.2.2.2.1 k60 ?_
  rw [c.s2.2.1]
  have eS : nI S ≤ 0 ↔ S = 0 := by
    rw [show (0 : Int32) = nI 0 from rfl, nI_leI (by omega) (by omega)]
    omega
  refine ⟨fun z => ?_, fun z => sp_X3_fail (fun y f => ⟨Or.inl rfl, k0 (fun o => z (eS.mpr o.1)) y f.sc⟩)⟩
  have o0 := eS.mp z
  refine ad_c c.1 c.2.1 hp (fun y1 f1 B1 t1 => ?_)
  have c1 := c.at f1 t1 q1
  refine sp_X3_isNumber (lo := 0) (hi := 23) t1 (by omega) (by omega) (fun o1 => ⟨fun _ => ?_, fun z => absurd z (by decide)⟩) (fun o1 y2 f2 => ⟨fun z => absurd rfl z, fun _ => k0 (fun o => o1 o.2.1) y2 (f1.sc.tr f2.sc)⟩)
  have hv1 := t1.2.2.2.2.1 o1.1
  rw [(mn5 o1.2.2 (by omega)).1] at hv1
  have h23 : tV b n (tE b n p) ≤ 23 := o1.2.2
  rw [hv1, c1.2.2.2.1, f_bit_tb lim (show tV b n (tE b n p) < 32 by omega), nI_clamp (show tV b n (tE b n p) < 2 ^ 31 by omega)]
  refine ⟨fun o2 => ?_, fun o2 => sp_X3_fail (fun y f => ⟨Or.inl rfl, k0 (fun o => o.2.2.1 o2) y (f1.sc.tr f.sc)⟩)⟩
  have B1' : RB (ui y1 59 11 (lim ||| (1 <<< (nI (tV b n (tE b n p)) &&& 31)))) b n := B1.u (by omega) (by omega)
  have t1' : CTk (ui y1 59 11 (lim ||| (1 <<< (nI (tV b n (tE b n p)) &&& 31)))) b n (tE b n p) := t1.u (by omega)
  have f1' : SCf x (ui y1 59 11 (lim ||| (1 <<< (nI (tV b n (tE b n p)) &&& 31)))) := f1.sc.u (by omega)
  have c1' : CS (ui y1 59 11 (lim ||| (1 <<< (nI (tV b n (tE b n p)) &&& 31)))) b n (tE b n p) T (lmL b n p lim) W C S A :=
    ⟨B1', t1', q1, by rw [gi_ui, if_pos ⟨rfl, rfl⟩]; rfl, c1.2.2.2.2.1.keep rfl (fun a k q1 q2 _ => by rw [gi_ui, if_neg (by omega)]), c1.2.2.2.2.2.keep (by rw [gi_ui, if_neg (by omega)]) (fun i => by rw [gi_ui, if_neg (by omega)]) (fun _ _ => rfl)⟩
  generalize ui y1 59 11 (lim ||| (1 <<< (nI (tV b n (tE b n p)) &&& 31))) = u1 at B1' t1' f1' c1'
  refine ad_c B1' t1' q1 (fun y2 f2 B2 t2 => ?_)
  have c2 := c1'.at f2 t2 q2
  refine sp_X3_isNumber (lo := 0) (hi := 9) t2 (by omega) (by omega) (fun o3 => ⟨fun _ => ?_, fun z => absurd z (by decide)⟩) (fun o3 y3 f3 => ⟨fun z => absurd rfl z, fun _ => k0 (fun o => o3 o.2.2.2.1) y3 ((f1'.tr f2.sc).tr f3.sc)⟩)
  have hv2 := t2.2.2.2.2.1 o3.1
  rw [(mn5 o3.2.2 (by omega)).1] at hv2
  have h9 : tV b n (tE b n (tE b n p)) ≤ 9 := o3.2.2
  rw [hv2]
  refine ad_c B2 t2 q2 (fun y3 f3 B3 t3 => ?_)
  have c3 := c2.at f3 t3 q3
  refine sp_X3_takeWord (i := 12) B3 t3 q3 (fun o4 y4 f4 B4 t4 => ⟨fun z => absurd z (by decide), fun _ => ?_⟩) (fun o4 y4 f4 => ⟨fun _ => k0 (fun o => o4 o.2.2.2.2.1) y4 (((f1'.tr f2.sc).tr f3.sc).tr f4.sc), fun z => absurd rfl z⟩)
  have c4 := c3.at f4 t4 q4
  have g4 : SCf x y4 := ((f1'.tr f2.sc).tr f3.sc).tr f4.sc
  refine sp_X3_isNumber (lo := 0) t4 (by omega) (show tV b n (tE b n (tE b n p)) < 100000 by omega) (fun o5 => ⟨fun _ => ⟨B4.2.2.2.2.1, 61, c4.2.2.2.2.1.2.1.1, 24, by decide, vp_in_nI (by omega) (by decide), 62, c4.2.2.2.2.1.2.1.2.1, fun r hr => ⟨24, by decide, vp_in_nI (by omega) (by decide), ?_⟩⟩, fun z => absurd z (by decide)⟩) (fun o5 y5 f5 => ⟨fun z => absurd rfl z, fun _ => k0 (fun o => o5 o.2.2.2.2.2.1) y5 (g4.tr f5.sc)⟩)
  have hv4 := t4.2.2.2.2.1 o5.1
  have h49 : tV b n (tE b n (tE b n (tE b n (tE b n p)))) ≤ 9 := Nat.le_trans o5.2.2 h9
  rw [(mn5 h49 (by omega)).1] at hv4
  rw [gi_ui, if_neg (by omega), hv4] at hr
  rw [hr]
  have h23' : tV b n (nxt b n 1 p) ≤ 23 := h23
  have E5 := c4.2.2.2.2.1.lim (h := tV b n (nxt b n 1 p)) (p := tV b n (nxt b n 2 p)) (q := tV b n (nxt b n 4 p)) (show tV b n (tE b n p) < 24 by omega) (Nat.le_trans h9 (by omega)) (Nat.le_trans h49 (by omega))
  have c5 : CS (ui (ui y4 61 (tV b n (nxt b n 1 p)) (nI (tV b n (nxt b n 2 p)))) 62 (tV b n (nxt b n 1 p)) (nI (tV b n (nxt b n 4 p)))) b n (nxt b n 4 p) (lTT b n p T) (lmL b n p lim) W C S A :=
    ⟨(B4.u (by omega) (by omega)).u (by omega) (by omega), (t4.u (by omega)).u (by omega), q4, by rw [gi_ui, if_neg (by omega), gi_ui, if_neg (by omega)]; exact c4.2.2.2.1, E5, c4.2.2.2.2.2.keep (by rw [gi_ui, if_neg (by omega), gi_ui, if_neg (by omega)]) (fun i => by rw [gi_ui, if_neg (by omega), gi_ui, if_neg (by omega)]) (fun i hi => by unfold lTT lmT; rw [uT_ne _ _ (show 54 + i ≠ 7 + 2 * tV b n (nxt b n 1 p) by omega), uT_ne _ _ (show 54 + i ≠ 6 + 2 * tV b n (nxt b n 1 p) by omega)])⟩
  have g5 : SCf x (ui (ui y4 61 (tV b n (nxt b n 1 p)) (nI (tV b n (nxt b n 2 p)))) 62 (tV b n (nxt b n 1 p)) (nI (tV b n (nxt b n 4 p)))) := (g4.u (by omega)).u (by omega)
  refine ad_c c5.1 c5.2.1 q4 (fun y6 f6 B6 t6 => ?_)
  have c6 := c5.at f6 t6 q5
  refine sp_X3_takeSign B6 t6 q5 (fun o6 y7 f7 B7 t7 => ⟨Or.inr rfl, ?_⟩) (fun o6 y7 f7 => ⟨Or.inl rfl, k0 (fun o => o6 o.2.2.2.2.2.2) y7 ((g5.tr f6.sc).tr f7.sc)⟩)
  exact k1 ⟨o0, o1, o2, o3, o4, o5, o6⟩ y7 ((g5.tr f6.sc).tr f7.sc) (c6.at f7 t7 q6)

end

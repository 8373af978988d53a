/-! the next token -/
def ATf (x y : Cn) : Prop := y.2 = x.2 ∧ ∀ a k, ¬ (a = 59 ∧ 7 ≤ k ∧ k ≤ 10) → gi y a k = gi x a k
theorem ATf.rf (x : Cn) : ATf x x := ⟨rfl, fun _ _ _ => rfl⟩
theorem ATf.tr {x y z : Cn} (h : ATf x y) (g : ATf y z) : ATf x z := ⟨g.1.trans h.1, fun a k hk => (g.2 a k hk).trans (h.2 a k hk)⟩
theorem ATf.u {x y : Cn} {k : Nat} {v : Int32} (h : ATf x y) (hk : 7 ≤ k ∧ k ≤ 10) : ATf x (ui y 59 k v) := ⟨h.1, fun a j hj => by rw [gi_ui, if_neg (by omega)]; exact h.2 a j hj⟩
def BTf (x y : Cn) : Prop := y.2 = x.2 ∧ ∀ a k, ¬ (a = 717 ∧ 7 ≤ k ∧ k ≤ 10) → gi y a k = gi x a k
theorem BTf.rf (x : Cn) : BTf x x := ⟨rfl, fun _ _ _ => rfl⟩
theorem BTf.tr {x y z : Cn} (h : BTf x y) (g : BTf y z) : BTf x z := ⟨g.1.trans h.1, fun a k hk => (g.2 a k hk).trans (h.2 a k hk)⟩
theorem BTf.u {x y : Cn} {k : Nat} {v : Int32} (h : BTf x y) (hk : 7 ≤ k ∧ k ≤ 10) : BTf x (ui y 717 k v) := ⟨h.1, fun a j hj => by rw [gi_ui, if_neg (by omega)]; exact h.2 a j hj⟩
/-- the landed one's token behind p -/
def CTk (y : Cn) (b : TT) (n p : Nat) : Prop := gi y 59 7 = nI (tS b n p) ∧ gi y 59 8 = nI (tE b n p) ∧ gi y 59 9 = nI (tK b n p) ∧ (tK b n p = 1 → gi y 59 10 = wno b (tS b n p) (tE b n p)) ∧ (tK b n p = 2 → gi y 59 10 = nI (min (tV b n p) 100000)) ∧ (tK b n p = 3 → gi y 59 10 = b (tS b n p))
/-- the reference's -/
def RTk (y : Cn) (b : TT) (n p : Nat) : Prop := gi y 717 8 = nI (tS b n p) ∧ gi y 717 7 = nI (tE b n p) ∧ gi y 717 9 = nI (tK b n p) ∧ (tK b n p = 2 → gi y 717 10 = nI (min (tV b n p) 9999)) ∧ (tK b n p = 3 → gi y 717 10 = b (tS b n p) &&& 255)
theorem cap1 {V d : Nat} (hd : d < 10) : (if (100000 : Int32) < ((nI (min V 100000) * 10) + nI (48 + d)) - 48 then 100000 else ((nI (min V 100000) * 10) + nI (48 + d)) - 48) = nI (min (10 * V + d) 100000) := by
  have e : ((nI (min V 100000) * 10) + nI (48 + d)) - 48 = nI (min V 100000 * 10 + d) := by
    rw [show (10 : Int32) = nI 10 by decide, pk_mul, nI_add, show min V 100000 * 10 + (48 + d) = (min V 100000 * 10 + d) + 48 by omega, ← nI_add, show (48 : Int32) = nI 48 by decide, Int32.add_sub_cancel]
  rw [e, show (100000 : Int32) = nI 100000 by decide]
  have hm : min V 100000 ≤ 100000 := Nat.min_le_right _ _
  by_cases h : 100000 < min V 100000 * 10 + d
  · rw [if_pos (nI_lt h (by omega))]
    congr 1
    omega
  · rw [if_neg (fun z => h ((nI_ltI (by omega) (by omega)).mp z))]
    congr 1
    omega
theorem cap2 {V d : Nat} (hd : d < 10) : (if ((10 * nI (min V 9999)) + nI (48 + d)) - 48 < 9999 then ((10 * nI (min V 9999)) + nI (48 + d)) - 48 else 9999) = nI (min (10 * V + d) 9999) := by
  have e : ((10 * nI (min V 9999)) + nI (48 + d)) - 48 = nI (10 * min V 9999 + d) := by
    rw [show (10 : Int32) = nI 10 by decide, pk_mul, nI_add, show 10 * min V 9999 + (48 + d) = (10 * min V 9999 + d) + 48 by omega, ← nI_add, show (48 : Int32) = nI 48 by decide, Int32.add_sub_cancel]
  rw [e, show (9999 : Int32) = nI 9999 by decide]
  have hm : min V 9999 ≤ 9999 := Nat.min_le_right _ _
  by_cases h : 10 * min V 9999 + d < 9999
  · rw [if_pos (nI_lt h (by omega))]
    congr 1
    omega
  · rw [if_neg (fun z => h ((nI_ltI (by omega) (by omega)).mp z))]
    congr 1
    omega
set_option maxHeartbeats 2000000 in
theorem v_X3_advance_0 {K : Sh} {x : Cn} {Q : Cn → Prop} {b0 : Nat}  (k_b0 : kk K b0 = some (3, 0)) (K0 : GV mX3_advance 8 [some (.ref b0)] [] K (ui x b0 7 (gi x b0 8)) Q) : mSV mX3_advance [.ref b0] K x Q := by
  refine s_V (by decide) (by simp [Value.category]) (Nat.le_of_ble_eq_true rfl) ?_
  show mGM mX3_advance 0 [some (.ref b0)] [] (hp K x) (PV K Q)
  refine r_aload_n (pc := 0) dX3_advance_0 rfl ?_
  refine r_aload_n (pc := 1) dX3_advance_1 rfl ?_
  refine s_getI (pc := 2) dX3_advance_2 fl_X3_45 rfl k_b0 ?_
  refine s_putI (pc := 5) dX3_advance_5 fl_X3_42 rfl rfl k_b0 ?_
  exact r_le (L' := [some (.ref b0)]) ⟨rfl, trivial⟩ K0
set_option maxHeartbeats 2000000 in
theorem v_X3_advance_8 {K : Sh} {x : Cn} {Q : Cn → Prop} {b0 : Nat} {b0_5 : Nat} {n_b0_5 : Nat} (k_b0 : kk K b0 = some (3, 0)) (g_b0_5 : gr x b0 5 = some b0_5) (k_b0_5 : kk K b0_5 = some (21, n_b0_5)) (K0 : ((gi x b0 6) ≤ (gi x b0 7) → (GV mX3_advance 60 [some (.ref b0)] [] K x Q)) ∧ (¬ (gi x b0 6) ≤ (gi x b0 7) → (vp_in (gi x b0 7) n_b0_5 ∧ (((gi x b0_5 ((gi x b0 7) : Int32).toNatClampNeg) = 32 → (GV mX3_advance 8 [some (.ref b0)] [] K (ui x b0 7 ((gi x b0 7) + 1)) Q)) ∧ (¬ (gi x b0_5 ((gi x b0 7) : Int32).toNatClampNeg) = 32 → ((¬ (gi x b0_5 ((gi x b0 7) : Int32).toNatClampNeg) = 10 → (GV mX3_advance 60 [some (.ref b0)] [] K x Q)) ∧ ((gi x b0_5 ((gi x b0 7) : Int32).toNatClampNeg) = 10 → (GV mX3_advance 8 [some (.ref b0)] [] K (ui x b0 7 ((gi x b0 7) + 1)) Q)))))))) : GV mX3_advance 8 [some (.ref b0)] [] K x Q := by
  show mGM mX3_advance 8 [some (.ref b0)] [] (hp K x) (PV K Q)
  refine r_aload_n (pc := 8) dX3_advance_8 rfl ?_
  refine s_getI (pc := 9) dX3_advance_9 fl_X3_42 rfl k_b0 ?_
  refine r_aload_n (pc := 12) dX3_advance_12 rfl ?_
  refine s_getI (pc := 13) dX3_advance_13 fl_X3_39 rfl k_b0 ?_
  refine r_icmp_ge (pc := 16) (tgt := 60) dX3_advance_16 (by decide) (fun q => ?_) (fun q => ?_)
  · have K0 := K0.1 q
    exact r_le (L' := [some (.ref b0)]) ⟨rfl, trivial⟩ K0
  · have K0 := K0.2 q
    refine r_aload_n (pc := 19) dX3_advance_19 rfl ?_
    refine s_getR (pc := 20) dX3_advance_20 fl_X3_35 rfl k_b0 g_b0_5 ?_
    refine r_aload_n (pc := 23) dX3_advance_23 rfl ?_
    refine s_getI (pc := 24) dX3_advance_24 fl_X3_42 rfl k_b0 ?_
    obtain ⟨i_2, K0⟩ := K0
    refine s_bald (pc := 27) dX3_advance_27 k_b0_5 i_2 ?_
    refine r_bipush (pc := 28) (v := 32) dX3_advance_28 (by decide) ?_
    refine r_icmp_eq (pc := 30) (tgt := 47) dX3_advance_30 (by decide) (fun q => ?_) (fun q => ?_)
    · have K0 := K0.1 q
      refine r_aload_n (pc := 47) dX3_advance_47 rfl ?_
      refine r_dup (pc := 48) dX3_advance_48 rfl ?_
      refine s_getI (pc := 49) dX3_advance_49 fl_X3_42 rfl k_b0 ?_
      refine r_iconst (pc := 52) (v := 1) dX3_advance_52 (by decide) ?_
      refine r_iadd (pc := 53) dX3_advance_53 ?_
      refine s_putI (pc := 54) dX3_advance_54 fl_X3_42 rfl rfl k_b0 ?_
      refine r_goto (pc := 57) (tgt := 8) dX3_advance_57 (by decide) ?_
      exact r_le (L' := [some (.ref b0)]) ⟨rfl, trivial⟩ K0
    · have K0 := K0.2 q
      refine r_aload_n (pc := 33) dX3_advance_33 rfl ?_
      refine s_getR (pc := 34) dX3_advance_34 fl_X3_35 rfl k_b0 g_b0_5 ?_
      refine r_aload_n (pc := 37) dX3_advance_37 rfl ?_
      refine s_getI (pc := 38) dX3_advance_38 fl_X3_42 rfl k_b0 ?_
      refine s_bald (pc := 41) dX3_advance_41 k_b0_5 i_2 ?_
      refine r_bipush (pc := 42) (v := 10) dX3_advance_42 (by decide) ?_
      refine r_icmp_ne (pc := 44) (tgt := 60) dX3_advance_44 (by decide) (fun q => ?_) (fun q => ?_)
      · have K0 := K0.1 q
        exact r_le (L' := [some (.ref b0)]) ⟨rfl, trivial⟩ K0
      · have K0 := K0.2 q
        refine r_aload_n (pc := 47) dX3_advance_47 rfl ?_
        refine r_dup (pc := 48) dX3_advance_48 rfl ?_
        refine s_getI (pc := 49) dX3_advance_49 fl_X3_42 rfl k_b0 ?_
        refine r_iconst (pc := 52) (v := 1) dX3_advance_52 (by decide) ?_
        refine r_iadd (pc := 53) dX3_advance_53 ?_
        refine s_putI (pc := 54) dX3_advance_54 fl_X3_42 rfl rfl k_b0 ?_
        refine r_goto (pc := 57) (tgt := 8) dX3_advance_57 (by decide) ?_
        exact r_le (L' := [some (.ref b0)]) ⟨rfl, trivial⟩ K0
set_option maxHeartbeats 2000000 in
theorem v_X3_advance_60 {K : Sh} {x : Cn} {Q : Cn → Prop} {b0 : Nat}  (k_b0 : kk K b0 = some (3, 0)) (K0 : ((gi (ui (ui x b0 8 (gi x b0 7)) b0 10 0) b0 7) < (gi (ui (ui x b0 8 (gi x b0 7)) b0 10 0) b0 6) → (GV mX3_advance 92 [some (.ref b0)] [] K (ui (ui x b0 8 (gi x b0 7)) b0 10 0) Q)) ∧ (¬ (gi (ui (ui x b0 8 (gi x b0 7)) b0 10 0) b0 7) < (gi (ui (ui x b0 8 (gi x b0 7)) b0 10 0) b0 6) → (Q (ui (ui (ui x b0 8 (gi x b0 7)) b0 10 0) b0 9 0)))) : GV mX3_advance 60 [some (.ref b0)] [] K x Q := by
  show mGM mX3_advance 60 [some (.ref b0)] [] (hp K x) (PV K Q)
  refine r_aload_n (pc := 60) dX3_advance_60 rfl ?_
  refine r_aload_n (pc := 61) dX3_advance_61 rfl ?_
  refine s_getI (pc := 62) dX3_advance_62 fl_X3_42 rfl k_b0 ?_
  refine s_putI (pc := 65) dX3_advance_65 fl_X3_45 rfl rfl k_b0 ?_
  refine r_aload_n (pc := 68) dX3_advance_68 rfl ?_
  refine r_iconst (pc := 69) (v := 0) dX3_advance_69 (by decide) ?_
  refine s_putI (pc := 70) dX3_advance_70 fl_X3_51 rfl rfl k_b0 ?_
  refine r_aload_n (pc := 73) dX3_advance_73 rfl ?_
  refine s_getI (pc := 74) dX3_advance_74 fl_X3_42 rfl k_b0 ?_
  refine r_aload_n (pc := 77) dX3_advance_77 rfl ?_
  refine s_getI (pc := 78) dX3_advance_78 fl_X3_39 rfl k_b0 ?_
  refine r_icmp_lt (pc := 81) (tgt := 92) dX3_advance_81 (by decide) (fun q => ?_) (fun q => ?_)
  · have K0 := K0.1 q
    exact r_le (L' := [some (.ref b0)]) ⟨rfl, trivial⟩ K0
  · have K0 := K0.2 q
    refine r_aload_n (pc := 84) dX3_advance_84 rfl ?_
    refine r_iconst (pc := 85) (v := 0) dX3_advance_85 (by decide) ?_
    refine s_putI (pc := 86) dX3_advance_86 fl_X3_48 rfl rfl k_b0 ?_
    refine r_goto (pc := 89) (tgt := 278) dX3_advance_89 (by decide) ?_
    exact s_ret rfl dX3_advance_278 K0
set_option maxHeartbeats 2000000 in
theorem v_X3_advance_92 {K : Sh} {x : Cn} {Q : Cn → Prop} {b0 : Nat} {b0_5 : Nat} {n_b0_5 : Nat} (k_b0 : kk K b0 = some (3, 0)) (g_b0_5 : gr x b0 5 = some b0_5) (k_b0_5 : kk K b0_5 = some (21, n_b0_5)) (K0 : vp_in (gi x b0 7) n_b0_5 ∧ ((¬ (97 ≤ (gi x b0_5 ((gi x b0 7) : Int32).toNatClampNeg) ∧ (gi x b0_5 ((gi x b0 7) : Int32).toNatClampNeg) ≤ 122) → ((¬ (48 ≤ (gi x b0_5 ((gi x b0 7) : Int32).toNatClampNeg) ∧ (gi x b0_5 ((gi x b0 7) : Int32).toNatClampNeg) ≤ 57) → (vp_in (gi (ui x b0 9 3) b0 7) n_b0_5 ∧ (∀ r_5 : Int32, r_5 = gi (ui (ui x b0 9 3) b0 10 (gi (ui x b0 9 3) b0_5 ((gi (ui x b0 9 3) b0 7) : Int32).toNatClampNeg)) b0 8 → (Q (ui (ui (ui x b0 9 3) b0 10 (gi (ui x b0 9 3) b0_5 ((gi (ui x b0 9 3) b0 7) : Int32).toNatClampNeg)) b0 8 (r_5 + 1)))))) ∧ ((48 ≤ (gi x b0_5 ((gi x b0 7) : Int32).toNatClampNeg) ∧ (gi x b0_5 ((gi x b0 7) : Int32).toNatClampNeg) ≤ 57) → (GV mX3_advance 182 [some (.ref b0)] [] K (ui x b0 9 2) Q)))) ∧ ((97 ≤ (gi x b0_5 ((gi x b0 7) : Int32).toNatClampNeg) ∧ (gi x b0_5 ((gi x b0 7) : Int32).toNatClampNeg) ≤ 122) → (GV mX3_advance 112 [some (.ref b0)] [] K (ui x b0 9 1) Q)))) : GV mX3_advance 92 [some (.ref b0)] [] K x Q := by
  show mGM mX3_advance 92 [some (.ref b0)] [] (hp K x) (PV K Q)
  refine r_aload_n (pc := 92) dX3_advance_92 rfl ?_
  refine s_getR (pc := 93) dX3_advance_93 fl_X3_35 rfl k_b0 g_b0_5 ?_
  refine r_aload_n (pc := 96) dX3_advance_96 rfl ?_
  refine s_getI (pc := 97) dX3_advance_97 fl_X3_42 rfl k_b0 ?_
  obtain ⟨i_1, K0⟩ := K0
  refine s_bald (pc := 100) dX3_advance_100 k_b0_5 i_1 ?_
  refine s_SNI (pc := 101) mX7_isLetter (As := [.int (gi x b0_5 ((gi x b0 7) : Int32).toNatClampNeg)]) dX3_advance_101 nl_X3_204 st_X7_isLetter mo_X7_isLetter ⟨by decide, by decide⟩ (Nat.le_of_ble_eq_true rfl) (sp_X7_isLetter  ?_)
  refine r_if_eq (pc := 104) (tgt := 162) dX3_advance_104 (by decide) (fun q => ?_) (fun q => ?_)
  · have q := (b2i_z _).mp q
    have K0 := K0.1 q
    refine r_aload_n (pc := 162) dX3_advance_162 rfl ?_
    refine s_getR (pc := 163) dX3_advance_163 fl_X3_35 rfl k_b0 g_b0_5 ?_
    refine r_aload_n (pc := 166) dX3_advance_166 rfl ?_
    refine s_getI (pc := 167) dX3_advance_167 fl_X3_42 rfl k_b0 ?_
    refine s_bald (pc := 170) dX3_advance_170 k_b0_5 i_1 ?_
    refine s_SNI (pc := 171) mX7_isDigit (As := [.int (gi x b0_5 ((gi x b0 7) : Int32).toNatClampNeg)]) dX3_advance_171 nl_X3_211 st_X7_isDigit mo_X7_isDigit ⟨by decide, by decide⟩ (Nat.le_of_ble_eq_true rfl) (sp_X7_isDigit  ?_)
    refine r_if_eq (pc := 174) (tgt := 250) dX3_advance_174 (by decide) (fun q => ?_) (fun q => ?_)
    · have q := (b2i_z _).mp q
      have K0 := K0.1 q
      refine r_aload_n (pc := 250) dX3_advance_250 rfl ?_
      refine r_iconst (pc := 251) (v := 3) dX3_advance_251 (by decide) ?_
      refine s_putI (pc := 252) dX3_advance_252 fl_X3_48 rfl rfl k_b0 ?_
      refine r_aload_n (pc := 255) dX3_advance_255 rfl ?_
      refine r_aload_n (pc := 256) dX3_advance_256 rfl ?_
      refine s_getR (pc := 257) dX3_advance_257 fl_X3_35 rfl k_b0 g_b0_5 ?_
      refine r_aload_n (pc := 260) dX3_advance_260 rfl ?_
      refine s_getI (pc := 261) dX3_advance_261 fl_X3_42 rfl k_b0 ?_
      obtain ⟨i_4, K0⟩ := K0
      refine s_bald (pc := 264) dX3_advance_264 k_b0_5 i_4 ?_
      refine s_putI (pc := 265) dX3_advance_265 fl_X3_51 rfl rfl k_b0 ?_
      refine r_aload_n (pc := 268) dX3_advance_268 rfl ?_
      refine r_dup (pc := 269) dX3_advance_269 rfl ?_
      refine s_getI (pc := 270) dX3_advance_270 fl_X3_45 rfl k_b0 ?_
      obtain ⟨r_5, w_6⟩ : ∃ z : Int32, z = gi (ui (ui x b0 9 3) b0 10 (gi (ui x b0 9 3) b0_5 ((gi (ui x b0 9 3) b0 7) : Int32).toNatClampNeg)) b0 8 := ⟨_, rfl⟩
      rw [← w_6]
      have K0 := K0 r_5 w_6
      refine r_iconst (pc := 273) (v := 1) dX3_advance_273 (by decide) ?_
      refine r_iadd (pc := 274) dX3_advance_274 ?_
      refine s_putI (pc := 275) dX3_advance_275 fl_X3_45 rfl rfl k_b0 ?_
      exact s_ret rfl dX3_advance_278 K0
    · have q := b2i_nz q
      have K0 := K0.2 q
      refine r_aload_n (pc := 177) dX3_advance_177 rfl ?_
      refine r_iconst (pc := 178) (v := 2) dX3_advance_178 (by decide) ?_
      refine s_putI (pc := 179) dX3_advance_179 fl_X3_48 rfl rfl k_b0 ?_
      exact r_le (L' := [some (.ref b0)]) ⟨rfl, trivial⟩ K0
  · have q := b2i_nz q
    have K0 := K0.2 q
    refine r_aload_n (pc := 107) dX3_advance_107 rfl ?_
    refine r_iconst (pc := 108) (v := 1) dX3_advance_108 (by decide) ?_
    refine s_putI (pc := 109) dX3_advance_109 fl_X3_48 rfl rfl k_b0 ?_
    exact r_le (L' := [some (.ref b0)]) ⟨rfl, trivial⟩ K0
set_option maxHeartbeats 2000000 in
theorem v_X3_advance_112 {K : Sh} {x : Cn} {Q : Cn → Prop} {b0 : Nat} {b0_5 : Nat} {n_b0_5 : Nat} (k_b0 : kk K b0 = some (3, 0)) (g_b0_5 : gr x b0 5 = some b0_5) (k_b0_5 : kk K b0_5 = some (21, n_b0_5)) (K0 : ((gi x b0 6) ≤ (gi x b0 8) → (mSI mX3_wordTold [.ref b0] K x (fun r_3 y_2 => Q (ui y_2 b0 10 r_3)))) ∧ (¬ (gi x b0 6) ≤ (gi x b0 8) → (vp_in (gi x b0 8) n_b0_5 ∧ ((¬ (97 ≤ (gi x b0_5 ((gi x b0 8) : Int32).toNatClampNeg) ∧ (gi x b0_5 ((gi x b0 8) : Int32).toNatClampNeg) ≤ 122) → (mSI mX3_wordTold [.ref b0] K x (fun r_7 y_6 => Q (ui y_6 b0 10 r_7)))) ∧ ((97 ≤ (gi x b0_5 ((gi x b0 8) : Int32).toNatClampNeg) ∧ (gi x b0_5 ((gi x b0 8) : Int32).toNatClampNeg) ≤ 122) → (GV mX3_advance 112 [some (.ref b0)] [] K (ui x b0 8 ((gi x b0 8) + 1)) Q)))))) : GV mX3_advance 112 [some (.ref b0)] [] K x Q := by
  show mGM mX3_advance 112 [some (.ref b0)] [] (hp K x) (PV K Q)
  refine r_aload_n (pc := 112) dX3_advance_112 rfl ?_
  refine s_getI (pc := 113) dX3_advance_113 fl_X3_45 rfl k_b0 ?_
  refine r_aload_n (pc := 116) dX3_advance_116 rfl ?_
  refine s_getI (pc := 117) dX3_advance_117 fl_X3_39 rfl k_b0 ?_
  refine r_icmp_ge (pc := 120) (tgt := 151) dX3_advance_120 (by decide) (fun q => ?_) (fun q => ?_)
  · have K0 := K0.1 q
    refine r_aload_n (pc := 151) dX3_advance_151 rfl ?_
    refine r_aload_n (pc := 152) dX3_advance_152 rfl ?_
    refine s_VI (pc := 153) mX3_wordTold (ci := 3) (a := b0) (As := []) dX3_advance_153 lk_X3_207 in_X3_wordTold mo_X3_wordTold ⟨by decide, rfl⟩ ⟨by decide, by decide⟩ (Nat.le_of_ble_eq_true rfl) k_b0 (mSI_mono K0 (fun r_3 y_2 K0 => ?_))
    refine s_putI (pc := 156) dX3_advance_156 fl_X3_51 rfl rfl k_b0 ?_
    refine r_goto (pc := 159) (tgt := 278) dX3_advance_159 (by decide) ?_
    exact s_ret rfl dX3_advance_278 K0
  · have K0 := K0.2 q
    refine r_aload_n (pc := 123) dX3_advance_123 rfl ?_
    refine s_getR (pc := 124) dX3_advance_124 fl_X3_35 rfl k_b0 g_b0_5 ?_
    refine r_aload_n (pc := 127) dX3_advance_127 rfl ?_
    refine s_getI (pc := 128) dX3_advance_128 fl_X3_45 rfl k_b0 ?_
    obtain ⟨i_4, K0⟩ := K0
    refine s_bald (pc := 131) dX3_advance_131 k_b0_5 i_4 ?_
    refine s_SNI (pc := 132) mX7_isLetter (As := [.int (gi x b0_5 ((gi x b0 8) : Int32).toNatClampNeg)]) dX3_advance_132 nl_X3_204 st_X7_isLetter mo_X7_isLetter ⟨by decide, by decide⟩ (Nat.le_of_ble_eq_true rfl) (sp_X7_isLetter  ?_)
    refine r_if_eq (pc := 135) (tgt := 151) dX3_advance_135 (by decide) (fun q => ?_) (fun q => ?_)
    · have q := (b2i_z _).mp q
      have K0 := K0.1 q
      refine r_aload_n (pc := 151) dX3_advance_151 rfl ?_
      refine r_aload_n (pc := 152) dX3_advance_152 rfl ?_
      refine s_VI (pc := 153) mX3_wordTold (ci := 3) (a := b0) (As := []) dX3_advance_153 lk_X3_207 in_X3_wordTold mo_X3_wordTold ⟨by decide, rfl⟩ ⟨by decide, by decide⟩ (Nat.le_of_ble_eq_true rfl) k_b0 (mSI_mono K0 (fun r_7 y_6 K0 => ?_))
      refine s_putI (pc := 156) dX3_advance_156 fl_X3_51 rfl rfl k_b0 ?_
      refine r_goto (pc := 159) (tgt := 278) dX3_advance_159 (by decide) ?_
      exact s_ret rfl dX3_advance_278 K0
    · have q := b2i_nz q
      have K0 := K0.2 q
      refine r_aload_n (pc := 138) dX3_advance_138 rfl ?_
      refine r_dup (pc := 139) dX3_advance_139 rfl ?_
      refine s_getI (pc := 140) dX3_advance_140 fl_X3_45 rfl k_b0 ?_
      refine r_iconst (pc := 143) (v := 1) dX3_advance_143 (by decide) ?_
      refine r_iadd (pc := 144) dX3_advance_144 ?_
      refine s_putI (pc := 145) dX3_advance_145 fl_X3_45 rfl rfl k_b0 ?_
      refine r_goto (pc := 148) (tgt := 112) dX3_advance_148 (by decide) ?_
      exact r_le (L' := [some (.ref b0)]) ⟨rfl, trivial⟩ K0
set_option maxHeartbeats 2000000 in
theorem v_X3_advance_182 {K : Sh} {x : Cn} {Q : Cn → Prop} {b0 : Nat} {b0_5 : Nat} {n_b0_5 : Nat} (k_b0 : kk K b0 = some (3, 0)) (g_b0_5 : gr x b0 5 = some b0_5) (k_b0_5 : kk K b0_5 = some (21, n_b0_5)) (K0 : ((gi x b0 6) ≤ (gi x b0 8) → (Q x)) ∧ (¬ (gi x b0 6) ≤ (gi x b0 8) → (vp_in (gi x b0 8) n_b0_5 ∧ ((¬ (48 ≤ (gi x b0_5 ((gi x b0 8) : Int32).toNatClampNeg) ∧ (gi x b0_5 ((gi x b0 8) : Int32).toNatClampNeg) ≤ 57) → (Q x)) ∧ ((48 ≤ (gi x b0_5 ((gi x b0 8) : Int32).toNatClampNeg) ∧ (gi x b0_5 ((gi x b0 8) : Int32).toNatClampNeg) ≤ 57) → (∀ r_4 : Int32, r_4 = gi (ui x b0 10 (if 100000 < ((((gi x b0 10) * 10) + (gi x b0_5 ((gi x b0 8) : Int32).toNatClampNeg)) - 48) then 100000 else ((((gi x b0 10) * 10) + (gi x b0_5 ((gi x b0 8) : Int32).toNatClampNeg)) - 48))) b0 8 → (GV mX3_advance 182 [some (.ref b0)] [] K (ui (ui x b0 10 (if 100000 < ((((gi x b0 10) * 10) + (gi x b0_5 ((gi x b0 8) : Int32).toNatClampNeg)) - 48) then 100000 else ((((gi x b0 10) * 10) + (gi x b0_5 ((gi x b0 8) : Int32).toNatClampNeg)) - 48))) b0 8 (r_4 + 1)) Q))))))) : GV mX3_advance 182 [some (.ref b0)] [] K x Q := by
  show mGM mX3_advance 182 [some (.ref b0)] [] (hp K x) (PV K Q)
  refine r_aload_n (pc := 182) dX3_advance_182 rfl ?_
  refine s_getI (pc := 183) dX3_advance_183 fl_X3_45 rfl k_b0 ?_
  refine r_aload_n (pc := 186) dX3_advance_186 rfl ?_
  refine s_getI (pc := 187) dX3_advance_187 fl_X3_39 rfl k_b0 ?_
  refine r_icmp_ge (pc := 190) (tgt := 278) dX3_advance_190 (by decide) (fun q => ?_) (fun q => ?_)
  · have K0 := K0.1 q
    exact s_ret rfl dX3_advance_278 K0
  · have K0 := K0.2 q
    refine r_aload_n (pc := 193) dX3_advance_193 rfl ?_
    refine s_getR (pc := 194) dX3_advance_194 fl_X3_35 rfl k_b0 g_b0_5 ?_
    refine r_aload_n (pc := 197) dX3_advance_197 rfl ?_
    refine s_getI (pc := 198) dX3_advance_198 fl_X3_45 rfl k_b0 ?_
    obtain ⟨i_2, K0⟩ := K0
    refine s_bald (pc := 201) dX3_advance_201 k_b0_5 i_2 ?_
    refine s_SNI (pc := 202) mX7_isDigit (As := [.int (gi x b0_5 ((gi x b0 8) : Int32).toNatClampNeg)]) dX3_advance_202 nl_X3_211 st_X7_isDigit mo_X7_isDigit ⟨by decide, by decide⟩ (Nat.le_of_ble_eq_true rfl) (sp_X7_isDigit  ?_)
    refine r_if_eq (pc := 205) (tgt := 278) dX3_advance_205 (by decide) (fun q => ?_) (fun q => ?_)
    · have q := (b2i_z _).mp q
      have K0 := K0.1 q
      exact s_ret rfl dX3_advance_278 K0
    · have q := b2i_nz q
      have K0 := K0.2 q
      refine r_aload_n (pc := 208) dX3_advance_208 rfl ?_
      refine r_aload_n (pc := 209) dX3_advance_209 rfl ?_
      refine s_getI (pc := 210) dX3_advance_210 fl_X3_51 rfl k_b0 ?_
      refine r_bipush (pc := 213) (v := 10) dX3_advance_213 (by decide) ?_
      refine r_imul (pc := 215) dX3_advance_215 ?_
      refine r_aload_n (pc := 216) dX3_advance_216 rfl ?_
      refine s_getR (pc := 217) dX3_advance_217 fl_X3_35 rfl k_b0 g_b0_5 ?_
      refine r_aload_n (pc := 220) dX3_advance_220 rfl ?_
      refine s_getI (pc := 221) dX3_advance_221 fl_X3_45 rfl k_b0 ?_
      refine s_bald (pc := 224) dX3_advance_224 k_b0_5 i_2 ?_
      refine r_iadd (pc := 225) dX3_advance_225 ?_
      refine r_bipush (pc := 226) (v := 48) dX3_advance_226 (by decide) ?_
      refine r_isub (pc := 228) dX3_advance_228 ?_
      refine r_ldc (pc := 229) (v := 100000) dX3_advance_229 cn_X3_214 ?_
      refine r_mmin (pc := 231) dX3_advance_231 lk_X3_75 mw_min ⟨by decide, by decide⟩ (Nat.le_of_ble_eq_true rfl) ?_
      refine s_putI (pc := 234) dX3_advance_234 fl_X3_51 rfl rfl k_b0 ?_
      refine r_aload_n (pc := 237) dX3_advance_237 rfl ?_
      refine r_dup (pc := 238) dX3_advance_238 rfl ?_
      refine s_getI (pc := 239) dX3_advance_239 fl_X3_45 rfl k_b0 ?_
      obtain ⟨r_4, w_5⟩ : ∃ z : Int32, z = gi (ui x b0 10 (if 100000 < ((((gi x b0 10) * 10) + (gi x b0_5 ((gi x b0 8) : Int32).toNatClampNeg)) - 48) then 100000 else ((((gi x b0 10) * 10) + (gi x b0_5 ((gi x b0 8) : Int32).toNatClampNeg)) - 48))) b0 8 := ⟨_, rfl⟩
      rw [← w_5]
      have K0 := K0 r_4 w_5
      refine r_iconst (pc := 242) (v := 1) dX3_advance_242 (by decide) ?_
      refine r_iadd (pc := 243) dX3_advance_243 ?_
      refine s_putI (pc := 244) dX3_advance_244 fl_X3_45 rfl rfl k_b0 ?_
      refine r_goto (pc := 247) (tgt := 182) dX3_advance_247 (by decide) ?_
      exact r_le (L' := [some (.ref b0)]) ⟨rfl, trivial⟩ K0
section
variable {x : Cn} {Q : Cn → Prop} {b : TT} {n : Nat}
variable {x : Cn} {Q : Cn → Prop} {b : TT} {n : Nat}
theorem lp_X3_advance_8 (c : gr x 59 5 = some 1) (hn : n ≤ 1200) (hb : ∀ i, i < n → gi x 1 i = b i) (h6 : gi x 59 6 = nI n) : ∀ d q y, q + d = n → ATf x y → gi y 59 7 = nI q → (∀ y, ATf x y → gi y 59 7 = nI (skB b d q) → GV mX3_advance 60 [some (.ref 59)] [] KW y Q) → GV mX3_advance 8 [some (.ref 59)] [] KW y Q := by
  intro d
  induction d with
  | zero =>
    intro q y hq f h7 k
    have v6 : gi y 59 6 = nI n := (f.2 59 6 (by omega)).trans h6
    refine v_X3_advance_8 k59 (by unfold gr; rw [f.1]; exact c) k1t ?_
    rw [v6, h7]
    exact ⟨fun _ => k y f h7, fun z => absurd (nI_le (by omega) (by omega)) z⟩
  | succ d ih =>
    intro q y hq f h7 k
    have v6 : gi y 59 6 = nI n := (f.2 59 6 (by omega)).trans h6
    have vb : gi y 1 q = b q := (f.2 1 q (by omega)).trans (hb q (by omega))
    have go : (b q = 32 ∨ b q = 10) → GV mX3_advance 8 [some (.ref 59)] [] KW (ui y 59 7 (nI q + 1)) Q := by
      intro z
      refine ih (q + 1) _ (by omega) (f.u (by omega)) (by rw [gi_ui, if_pos ⟨rfl, rfl⟩, nI_succ]) (fun w fw hw => k w fw ?_)
      unfold skB
      rw [if_pos z]
      exact hw
    have st : ¬ (b q = 32 ∨ b q = 10) → GV mX3_advance 60 [some (.ref 59)] [] KW y Q := by
      intro z
      refine k y f ?_
      unfold skB
      rw [if_neg z]
      exact h7
    refine v_X3_advance_8 k59 (by unfold gr; rw [f.1]; exact c) k1t ?_
    rw [v6, h7, nI_clamp (by omega), vb]
    exact ⟨fun z => absurd z (nI_ge (by omega) (by omega)), fun _ => ⟨vp_in_nI (by omega) (by decide), fun z => go (Or.inl z), fun z => ⟨fun z2 => st (fun w => w.elim z z2), fun z2 => go (Or.inr z2)⟩⟩⟩
theorem lp_X3_advance_112 {s : Nat} (c : gr x 59 5 = some 1) (hn : n ≤ 1200) (hb : ∀ i, i < n → gi x 1 i = b i) (h6 : gi x 59 6 = nI n) : ∀ d q y, q + d = n → s ≤ q → ATf x y → gi y 59 7 = nI s → gi y 59 8 = nI q → gi y 59 9 = 1 → (∀ y, ATf x y → gi y 59 7 = nI s → gi y 59 8 = nI (scL b d q) → gi y 59 9 = 1 → gi y 59 10 = wno b s (scL b d q) → Q y) → GV mX3_advance 112 [some (.ref 59)] [] KW y Q := by
  have fin : ∀ q y, q ≤ n → s ≤ q → ATf x y → gi y 59 7 = nI s → gi y 59 8 = nI q → gi y 59 9 = 1 → (∀ y, ATf x y → gi y 59 7 = nI s → gi y 59 8 = nI q → gi y 59 9 = 1 → gi y 59 10 = wno b s q → Q y) → mSI mX3_wordTold [.ref 59] KW y (fun r z => Q (ui z 59 10 r)) := by
    intro q y hq hs f h7 h8 h9 k
    refine sp_X3_wordTold (b := b) (n := n) (s := s) (e := q) (by unfold gr; rw [f.1]; exact c) hn (fun i hi => (f.2 1 i (by omega)).trans (hb i hi)) h7 h8 hq hs ?_
    exact k _ (f.u (by omega)) (by rw [gi_ui, if_neg (by omega)]; exact h7) (by rw [gi_ui, if_neg (by omega)]; exact h8) (by rw [gi_ui, if_neg (by omega)]; exact h9) (by rw [gi_ui, if_pos ⟨rfl, rfl⟩])
  intro d
  induction d with
  | zero =>
    intro q y hq hs f h7 h8 h9 k
    have v6 : gi y 59 6 = nI n := (f.2 59 6 (by omega)).trans h6
    refine v_X3_advance_112 k59 (by unfold gr; rw [f.1]; exact c) k1t ?_
    rw [v6, h8]
    exact ⟨fun _ => fin q y (by omega) hs f h7 h8 h9 k, fun z => absurd (nI_le (by omega) (by omega)) z⟩
  | succ d ih =>
    intro q y hq hs f h7 h8 h9 k
    have v6 : gi y 59 6 = nI n := (f.2 59 6 (by omega)).trans h6
    have vb : gi y 1 q = b q := (f.2 1 q (by omega)).trans (hb q (by omega))
    refine v_X3_advance_112 k59 (by unfold gr; rw [f.1]; exact c) k1t ?_
    rw [v6, h8, nI_clamp (by omega), vb]
    refine ⟨fun z => absurd z (nI_ge (by omega) (by omega)), fun _ => ⟨vp_in_nI (by omega) (by decide), fun z => ?_, fun z => ?_⟩⟩
    · refine fin q y (by omega) hs f h7 h8 h9 (fun w f1 f2 f3 f4 f5 => ?_)
      have e : scL b (d + 1) q = q := by unfold scL; rw [if_neg z]
      rw [e] at k
      exact k w f1 f2 f3 f4 f5
    · have e : scL b (d + 1) q = scL b d (q + 1) := by
        show (if 97 ≤ b q ∧ b q ≤ 122 then scL b d (q + 1) else q) = _
        rw [if_pos z]
      rw [e] at k
      exact ih (q + 1) _ (by omega) (by omega) (f.u (by omega)) (by rw [gi_ui, if_neg (by omega)]; exact h7) (by rw [gi_ui, if_pos ⟨rfl, rfl⟩, nI_succ]) (by rw [gi_ui, if_neg (by omega)]; exact h9) k
theorem lp_X3_advance_182 {s : Nat} (c : gr x 59 5 = some 1) (hn : n ≤ 1200) (hb : ∀ i, i < n → gi x 1 i = b i) (hB : ∀ i, i < n → isB (b i)) (h6 : gi x 59 6 = nI n) : ∀ d q V y, q + d = n → ATf x y → gi y 59 7 = nI s → gi y 59 8 = nI q → gi y 59 9 = 2 → gi y 59 10 = nI (min V 100000) → (∀ y, ATf x y → gi y 59 7 = nI s → gi y 59 8 = nI (scD b d q) → gi y 59 9 = 2 → gi y 59 10 = nI (min (nvD b d q V) 100000) → Q y) → GV mX3_advance 182 [some (.ref 59)] [] KW y Q := by
  intro d
  induction d with
  | zero =>
    intro q V y hq f h7 h8 h9 h10 k
    have v6 : gi y 59 6 = nI n := (f.2 59 6 (by omega)).trans h6
    refine v_X3_advance_182 k59 (by unfold gr; rw [f.1]; exact c) k1t ?_
    rw [v6, h8]
    exact ⟨fun _ => k y f h7 h8 h9 h10, fun z => absurd (nI_le (by omega) (by omega)) z⟩
  | succ d ih =>
    intro q V y hq f h7 h8 h9 h10 k
    have v6 : gi y 59 6 = nI n := (f.2 59 6 (by omega)).trans h6
    have vb : gi y 1 q = b q := (f.2 1 q (by omega)).trans (hb q (by omega))
    refine v_X3_advance_182 k59 (by unfold gr; rw [f.1]; exact c) k1t ?_
    rw [v6, h8, nI_clamp (by omega), vb]
    refine ⟨fun z => absurd z (nI_ge (by omega) (by omega)), fun _ => ⟨vp_in_nI (by omega) (by decide), fun z => ?_, fun z r hr => ?_⟩⟩
    · have e1 : scD b (d + 1) q = q := by unfold scD; rw [if_neg z]
      have e2 : nvD b (d + 1) q V = V := by unfold nvD; rw [if_neg z]
      rw [e1, e2] at k
      exact k y f h7 h8 h9 h10
    · have e1 : scD b (d + 1) q = scD b d (q + 1) := by
        show (if 48 ≤ b q ∧ b q ≤ 57 then scD b d (q + 1) else q) = _
        rw [if_pos z]
      have e2 : nvD b (d + 1) q V = nvD b d (q + 1) (10 * V + ((b q).toNatClampNeg - 48)) := by
        show (if 48 ≤ b q ∧ b q ≤ 57 then nvD b d (q + 1) (10 * V + ((b q).toNatClampNeg - 48)) else V) = _
        rw [if_pos z]
      rw [e1, e2] at k
      have hd := (FB_of (hB q (by omega))).2.2.2.2.2.2.2.1 z
      have hc := cap1 (V := V) hd.2.2
      rw [← hd.2.1] at hc
      rw [h10] at hr ⊢
      rw [hc] at hr ⊢
      rw [gi_ui, if_neg (by omega), h8] at hr
      rw [hr]
      exact ih (q + 1) _ _ (by omega) ((f.u (by omega)).u (by omega)) (by rw [gi_ui, if_neg (by omega), gi_ui, if_neg (by omega)]; exact h7) (by rw [gi_ui, if_pos ⟨rfl, rfl⟩, nI_succ]) (by rw [gi_ui, if_neg (by omega), gi_ui, if_neg (by omega)]; exact h9) (by rw [gi_ui, if_neg (by omega), gi_ui, if_pos ⟨rfl, rfl⟩]) k
theorem sp_X3_advance {x : Cn} {Q : Cn → Prop} {b : TT} {n p : Nat} (c : gr x 59 5 = some 1) (hn : n ≤ 1200) (hb : ∀ i, i < n → gi x 1 i = b i) (hB : ∀ i, i < n → isB (b i)) (h6 : gi x 59 6 = nI n) (h8 : gi x 59 8 = nI p) (hp : p ≤ n) (k : ∀ y, ATf x y → CTk y b n p → Q y) : mSV mX3_advance [.ref 59] KW x Q := by
  have hs := tS_b (b := b) hp
  refine v_X3_advance_0 k59 ?_
  refine lp_X3_advance_8 c hn hb h6 (n - p) p _ (by omega) ((ATf.rf x).u (by omega)) (by rw [gi_ui, if_pos ⟨rfl, rfl⟩]; exact h8) (fun y fy hy => ?_)
  have hy : gi y 59 7 = nI (tS b n p) := hy
  have y6 : gi y 59 6 = nI n := (fy.2 59 6 (by omega)).trans h6
  refine v_X3_advance_60 k59 ?_
  rw [hy]
  have u7 : gi (ui (ui y 59 8 (nI (tS b n p))) 59 10 0) 59 7 = nI (tS b n p) := by rw [gi_ui, if_neg (by omega), gi_ui, if_neg (by omega)]; exact hy
  have u6 : gi (ui (ui y 59 8 (nI (tS b n p))) 59 10 0) 59 6 = nI n := by rw [gi_ui, if_neg (by omega), gi_ui, if_neg (by omega)]; exact y6
  have u8 : gi (ui (ui y 59 8 (nI (tS b n p))) 59 10 0) 59 8 = nI (tS b n p) := by rw [gi_ui, if_neg (by omega), gi_ui, if_pos ⟨rfl, rfl⟩]
  have u10 : gi (ui (ui y 59 8 (nI (tS b n p))) 59 10 0) 59 10 = nI (min 0 100000) := by rw [gi_ui, if_pos ⟨rfl, rfl⟩]; rfl
  have fu : ATf x (ui (ui y 59 8 (nI (tS b n p))) 59 10 0) := (fy.u (by omega)).u (by omega)
  rw [u6, u7]
  generalize ui (ui y 59 8 (nI (tS b n p))) 59 10 0 = u at u6 u7 u8 u10 fu
  refine ⟨fun z => ?_, fun z => ?_⟩
  · have hlt : tS b n p < n := (nI_ltI (by omega) (by omega)).mp z
    have ub : gi u 1 (tS b n p) = b (tS b n p) := (fu.2 1 _ (by omega)).trans (hb _ hlt)
    refine v_X3_advance_92 k59 (by unfold gr; rw [fu.1]; exact c) k1t ?_
    have w7 : gi (ui u 59 9 3) 59 7 = nI (tS b n p) := by rw [gi_ui, if_neg (by omega)]; exact u7
    have wb : gi (ui u 59 9 3) 1 (tS b n p) = b (tS b n p) := by rw [gi_ui, if_neg (by omega)]; exact ub
    rw [w7, u7, nI_clamp (by omega), ub, wb]
    refine ⟨vp_in_nI (by omega) (by decide), fun z1 => ⟨fun z2 => ⟨vp_in_nI (by omega) (by decide), fun r hr => ?_⟩, fun z2 => ?_⟩, fun z1 => ?_⟩
    · have hK : tK b n p = 3 := by unfold tK; rw [if_neg (by omega), if_neg z1, if_neg z2]
      have hE : tE b n p = tS b n p + 1 := by unfold tE; rw [hK]; rfl
      rw [gi_ui, if_neg (by omega), gi_ui, if_neg (by omega), u8] at hr
      rw [hr]
      refine k _ (((fu.u (by omega)).u (by omega)).u (by omega)) ⟨?_, ?_, ?_, fun h => by omega, fun h => by omega, fun _ => ?_⟩
      · rw [gi_ui, if_neg (by omega), gi_ui, if_neg (by omega), gi_ui, if_neg (by omega)]; exact u7
      · rw [gi_ui, if_pos ⟨rfl, rfl⟩, hE, nI_succ]
      · rw [gi_ui, if_neg (by omega), gi_ui, if_neg (by omega), gi_ui, if_pos ⟨rfl, rfl⟩, hK]; rfl
      · rw [gi_ui, if_neg (by omega), gi_ui, if_pos ⟨rfl, rfl⟩]
    · have hK : tK b n p = 2 := by unfold tK; rw [if_neg (by omega), if_neg z1, if_pos z2]
      have hE : tE b n p = scD b (n - tS b n p) (tS b n p) := by unfold tE; rw [hK]; rfl
      refine lp_X3_advance_182 c hn hb hB h6 (n - tS b n p) (tS b n p) 0 _ (by omega) (fu.u (by omega)) (by rw [gi_ui, if_neg (by omega)]; exact u7) (by rw [gi_ui, if_neg (by omega)]; exact u8) (by rw [gi_ui, if_pos ⟨rfl, rfl⟩]) (by rw [gi_ui, if_neg (by omega)]; exact u10) (fun w f1 f2 f3 f4 f5 => k w f1 ⟨f2, by rw [f3, hE], by rw [f4, hK]; rfl, fun h => by omega, fun _ => f5, fun h => by omega⟩)
    · have hK : tK b n p = 1 := by unfold tK; rw [if_neg (by omega), if_pos z1]
      have hE : tE b n p = scL b (n - tS b n p) (tS b n p) := by unfold tE; rw [hK]; rfl
      refine lp_X3_advance_112 c hn hb h6 (n - tS b n p) (tS b n p) _ (by omega) (Nat.le_refl _) (fu.u (by omega)) (by rw [gi_ui, if_neg (by omega)]; exact u7) (by rw [gi_ui, if_neg (by omega)]; exact u8) (by rw [gi_ui, if_pos ⟨rfl, rfl⟩]) (fun w f1 f2 f3 f4 f5 => k w f1 ⟨f2, by rw [f3, hE], by rw [f4, hK]; rfl, fun _ => by rw [f5, hE], fun h => by omega, fun h => by omega⟩)
  · have hge : n ≤ tS b n p := by
      rcases Nat.lt_or_ge (tS b n p) n with q | q
      · exact absurd (nI_lt q (by omega)) z
      · exact q
    have hK : tK b n p = 0 := by unfold tK; rw [if_pos hge]
    have hE : tE b n p = tS b n p := by unfold tE; rw [hK]; rfl
    exact k _ (fu.u (by omega)) ⟨by rw [gi_ui, if_neg (by omega)]; exact u7, by rw [gi_ui, if_neg (by omega), u8, hE], by rw [gi_ui, if_pos ⟨rfl, rfl⟩, hK]; rfl, fun h => by omega, fun h => by omega, fun h => by omega⟩
def inS (k n : Int32) (N : Nat) : Prop := k < n → vp_in k N
def f_see (b : TT) (n k : Int32) : Int32 := if k < n then b k.toNatClampNeg &&& 255 else -1
end
set_option maxHeartbeats 2000000 in
theorem v_X8_see_0 {K : Sh} {x : Cn} {Q : Int32 → Cn → Prop} {b0 : Nat} {l1 : Int32} {b0_4 : Nat} {n_b0_4 : Nat} (k_b0 : kk K b0 = some (8, 0)) (g_b0_4 : gr x b0 4 = some b0_4) (k_b0_4 : kk K b0_4 = some (21, n_b0_4)) (K0 : ((gi x b0 6) ≤ l1 → (Q (-1) x)) ∧ (¬ (gi x b0 6) ≤ l1 → (vp_in l1 n_b0_4 ∧ (Q ((gi x b0_4 (l1 : Int32).toNatClampNeg) &&& 255) x)))) : mSI mX8_see [.ref b0, .int l1] K x Q := by
  refine s_I (by decide) (by simp [Value.category]) (Nat.le_of_ble_eq_true rfl) ?_
  show mGM mX8_see 0 [some (.ref b0), some (.int l1)] [] (hp K x) (PI K Q)
  refine r_iload_n (pc := 0) dX8_see_0 rfl ?_
  refine r_aload_n (pc := 1) dX8_see_1 rfl ?_
  refine s_getI (pc := 2) dX8_see_2 fl_X8_107 rfl k_b0 ?_
  refine r_icmp_ge (pc := 5) (tgt := 21) dX8_see_5 (by decide) (fun q => ?_) (fun q => ?_)
  · have K0 := K0.1 q
    refine r_iconst (pc := 21) (v := (-1)) dX8_see_21 (by decide) ?_
    exact s_iret rfl dX8_see_22 K0
  · have K0 := K0.2 q
    refine r_aload_n (pc := 8) dX8_see_8 rfl ?_
    refine s_getR (pc := 9) dX8_see_9 fl_X8_19 rfl k_b0 g_b0_4 ?_
    refine r_iload_n (pc := 12) dX8_see_12 rfl ?_
    obtain ⟨i_2, K0⟩ := K0
    refine s_bald (pc := 13) dX8_see_13 k_b0_4 i_2 ?_
    refine r_sipush (pc := 14) (v := 255) dX8_see_14 (by decide) ?_
    refine r_iand (pc := 17) dX8_see_17 ?_
    refine r_goto (pc := 18) (tgt := 22) dX8_see_18 (by decide) ?_
    exact s_iret rfl dX8_see_22 K0
section
variable {x : Cn} {Q : Cn → Prop} {b : TT} {n : Nat}
variable {x : Cn} {Q : Cn → Prop} {b : TT} {n : Nat}
theorem sp_X8_see {K : Sh} {x : Cn} {Q : Int32 → Cn → Prop} {a t N : Nat} {v : Int32} (h1 : kk K a = some (8, 0)) (h2 : gr x a 4 = some t) (h3 : kk K t = some (21, N)) (h4 : inS v (gi x a 6) N) (k : Q (f_see (gi x t) (gi x a 6) v) x) : mSI mX8_see [.ref a, .int v] K x Q := by
  refine v_X8_see_0 h1 h2 h3 ⟨fun z => ?_, fun z => ⟨h4 (Int32.not_le.mp z), ?_⟩⟩
  · unfold f_see at k
    rw [if_neg (Int32.not_lt.mpr z)] at k
    exact k
  · unfold f_see at k
    rw [if_pos (Int32.not_le.mp z)] at k
    exact k
theorem f_see_in {b : TT} {n q : Nat} (h : q < n) (hn : n < 2 ^ 31) : f_see b (nI n) (nI q) = b q &&& 255 := by unfold f_see; rw [if_pos (nI_lt h hn), nI_clamp (by omega)]
theorem f_see_out {b : TT} {n q : Nat} (h : n ≤ q) (hn : q < 2 ^ 31) : f_see b (nI n) (nI q) = -1 := by unfold f_see; rw [if_neg (fun z => absurd ((nI_ltI (by omega) (by omega)).mp z) (by omega))]
theorem inS_n {n q : Nat} (hn : n ≤ 1200) (hq : q < 2 ^ 31) : inS (nI q) (nI n) 1200 := fun z => vp_in_nI (by have := (nI_ltI (by omega) (by omega)).mp z; omega) (by decide)
end
set_option maxHeartbeats 2000000 in
theorem v_X8_advance_0 {K : Sh} {x : Cn} {Q : Cn → Prop} {b0 : Nat} {b0_4 : Nat} {n_b0_4 : Nat} (k_b0 : kk K b0 = some (8, 0)) (g_b0_4 : gr x b0 4 = some b0_4) (k_b0_4 : kk K b0_4 = some (21, n_b0_4)) (K0 : (inS (gi x b0 7) (gi x b0 6) n_b0_4) ∧ (((f_see (gi x b0_4) (gi x b0 6) (gi x b0 7)) = 32 → (GV mX8_advance 0 [some (.ref b0), none] [] K (ui x b0 7 ((gi x b0 7) + 1)) Q)) ∧ (¬ (f_see (gi x b0_4) (gi x b0 6) (gi x b0 7)) = 32 → ((¬ (f_see (gi x b0_4) (gi x b0 6) (gi x b0 7)) = 10 → (GV mX8_advance 39 [some (.ref b0), none] [] K x Q)) ∧ ((f_see (gi x b0_4) (gi x b0 6) (gi x b0 7)) = 10 → (GV mX8_advance 0 [some (.ref b0), none] [] K (ui x b0 7 ((gi x b0 7) + 1)) Q)))))) : mSV mX8_advance [.ref b0] K x Q := by
  refine s_V (by decide) (by simp [Value.category]) (Nat.le_of_ble_eq_true rfl) ?_
  show mGM mX8_advance 0 [some (.ref b0), none] [] (hp K x) (PV K Q)
  refine r_aload_n (pc := 0) dX8_advance_0 rfl ?_
  refine r_aload_n (pc := 1) dX8_advance_1 rfl ?_
  refine s_getI (pc := 2) dX8_advance_2 fl_X8_110 rfl k_b0 ?_
  obtain ⟨p_1, K0⟩ := K0
  refine s_VI (pc := 5) mX8_see (ci := 8) (a := b0) (As := [.int (gi x b0 7)]) dX8_advance_5 lk_X8_113 in_X8_see mo_X8_see ⟨by decide, rfl⟩ ⟨by decide, by decide⟩ (Nat.le_of_ble_eq_true rfl) k_b0 (sp_X8_see k_b0 g_b0_4 k_b0_4 p_1 ?_)
  refine r_bipush (pc := 8) (v := 32) dX8_advance_8 (by decide) ?_
  refine r_icmp_eq (pc := 10) (tgt := 26) dX8_advance_10 (by decide) (fun q => ?_) (fun q => ?_)
  · have K0 := K0.1 q
    refine r_aload_n (pc := 26) dX8_advance_26 rfl ?_
    refine r_dup (pc := 27) dX8_advance_27 rfl ?_
    refine s_getI (pc := 28) dX8_advance_28 fl_X8_110 rfl k_b0 ?_
    refine r_iconst (pc := 31) (v := 1) dX8_advance_31 (by decide) ?_
    refine r_iadd (pc := 32) dX8_advance_32 ?_
    refine s_putI (pc := 33) dX8_advance_33 fl_X8_110 rfl rfl k_b0 ?_
    refine r_goto (pc := 36) (tgt := 0) dX8_advance_36 (by decide) ?_
    exact r_le (L' := [some (.ref b0), none]) ⟨rfl, trivial⟩ K0
  · have K0 := K0.2 q
    refine r_aload_n (pc := 13) dX8_advance_13 rfl ?_
    refine r_aload_n (pc := 14) dX8_advance_14 rfl ?_
    refine s_getI (pc := 15) dX8_advance_15 fl_X8_110 rfl k_b0 ?_
    refine s_VI (pc := 18) mX8_see (ci := 8) (a := b0) (As := [.int (gi x b0 7)]) dX8_advance_18 lk_X8_113 in_X8_see mo_X8_see ⟨by decide, rfl⟩ ⟨by decide, by decide⟩ (Nat.le_of_ble_eq_true rfl) k_b0 (sp_X8_see k_b0 g_b0_4 k_b0_4 p_1 ?_)
    refine r_bipush (pc := 21) (v := 10) dX8_advance_21 (by decide) ?_
    refine r_icmp_ne (pc := 23) (tgt := 39) dX8_advance_23 (by decide) (fun q => ?_) (fun q => ?_)
    · have K0 := K0.1 q
      exact r_le (L' := [some (.ref b0), none]) ⟨rfl, trivial⟩ K0
    · have K0 := K0.2 q
      refine r_aload_n (pc := 26) dX8_advance_26 rfl ?_
      refine r_dup (pc := 27) dX8_advance_27 rfl ?_
      refine s_getI (pc := 28) dX8_advance_28 fl_X8_110 rfl k_b0 ?_
      refine r_iconst (pc := 31) (v := 1) dX8_advance_31 (by decide) ?_
      refine r_iadd (pc := 32) dX8_advance_32 ?_
      refine s_putI (pc := 33) dX8_advance_33 fl_X8_110 rfl rfl k_b0 ?_
      refine r_goto (pc := 36) (tgt := 0) dX8_advance_36 (by decide) ?_
      exact r_le (L' := [some (.ref b0), none]) ⟨rfl, trivial⟩ K0
set_option maxHeartbeats 2000000 in
theorem v_X8_advance_0g {K : Sh} {x : Cn} {Q : Cn → Prop} {b0 : Nat} {b0_4 : Nat} {n_b0_4 : Nat} (k_b0 : kk K b0 = some (8, 0)) (g_b0_4 : gr x b0 4 = some b0_4) (k_b0_4 : kk K b0_4 = some (21, n_b0_4)) (K0 : (inS (gi x b0 7) (gi x b0 6) n_b0_4) ∧ (((f_see (gi x b0_4) (gi x b0 6) (gi x b0 7)) = 32 → (GV mX8_advance 0 [some (.ref b0), none] [] K (ui x b0 7 ((gi x b0 7) + 1)) Q)) ∧ (¬ (f_see (gi x b0_4) (gi x b0 6) (gi x b0 7)) = 32 → ((¬ (f_see (gi x b0_4) (gi x b0 6) (gi x b0 7)) = 10 → (GV mX8_advance 39 [some (.ref b0), none] [] K x Q)) ∧ ((f_see (gi x b0_4) (gi x b0 6) (gi x b0 7)) = 10 → (GV mX8_advance 0 [some (.ref b0), none] [] K (ui x b0 7 ((gi x b0 7) + 1)) Q)))))) : GV mX8_advance 0 [some (.ref b0), none] [] K x Q := by
  show mGM mX8_advance 0 [some (.ref b0), none] [] (hp K x) (PV K Q)
  refine r_aload_n (pc := 0) dX8_advance_0 rfl ?_
  refine r_aload_n (pc := 1) dX8_advance_1 rfl ?_
  refine s_getI (pc := 2) dX8_advance_2 fl_X8_110 rfl k_b0 ?_
  obtain ⟨p_1, K0⟩ := K0
  refine s_VI (pc := 5) mX8_see (ci := 8) (a := b0) (As := [.int (gi x b0 7)]) dX8_advance_5 lk_X8_113 in_X8_see mo_X8_see ⟨by decide, rfl⟩ ⟨by decide, by decide⟩ (Nat.le_of_ble_eq_true rfl) k_b0 (sp_X8_see k_b0 g_b0_4 k_b0_4 p_1 ?_)
  refine r_bipush (pc := 8) (v := 32) dX8_advance_8 (by decide) ?_
  refine r_icmp_eq (pc := 10) (tgt := 26) dX8_advance_10 (by decide) (fun q => ?_) (fun q => ?_)
  · have K0 := K0.1 q
    refine r_aload_n (pc := 26) dX8_advance_26 rfl ?_
    refine r_dup (pc := 27) dX8_advance_27 rfl ?_
    refine s_getI (pc := 28) dX8_advance_28 fl_X8_110 rfl k_b0 ?_
    refine r_iconst (pc := 31) (v := 1) dX8_advance_31 (by decide) ?_
    refine r_iadd (pc := 32) dX8_advance_32 ?_
    refine s_putI (pc := 33) dX8_advance_33 fl_X8_110 rfl rfl k_b0 ?_
    refine r_goto (pc := 36) (tgt := 0) dX8_advance_36 (by decide) ?_
    exact r_le (L' := [some (.ref b0), none]) ⟨rfl, trivial⟩ K0
  · have K0 := K0.2 q
    refine r_aload_n (pc := 13) dX8_advance_13 rfl ?_
    refine r_aload_n (pc := 14) dX8_advance_14 rfl ?_
    refine s_getI (pc := 15) dX8_advance_15 fl_X8_110 rfl k_b0 ?_
    refine s_VI (pc := 18) mX8_see (ci := 8) (a := b0) (As := [.int (gi x b0 7)]) dX8_advance_18 lk_X8_113 in_X8_see mo_X8_see ⟨by decide, rfl⟩ ⟨by decide, by decide⟩ (Nat.le_of_ble_eq_true rfl) k_b0 (sp_X8_see k_b0 g_b0_4 k_b0_4 p_1 ?_)
    refine r_bipush (pc := 21) (v := 10) dX8_advance_21 (by decide) ?_
    refine r_icmp_ne (pc := 23) (tgt := 39) dX8_advance_23 (by decide) (fun q => ?_) (fun q => ?_)
    · have K0 := K0.1 q
      exact r_le (L' := [some (.ref b0), none]) ⟨rfl, trivial⟩ K0
    · have K0 := K0.2 q
      refine r_aload_n (pc := 26) dX8_advance_26 rfl ?_
      refine r_dup (pc := 27) dX8_advance_27 rfl ?_
      refine s_getI (pc := 28) dX8_advance_28 fl_X8_110 rfl k_b0 ?_
      refine r_iconst (pc := 31) (v := 1) dX8_advance_31 (by decide) ?_
      refine r_iadd (pc := 32) dX8_advance_32 ?_
      refine s_putI (pc := 33) dX8_advance_33 fl_X8_110 rfl rfl k_b0 ?_
      refine r_goto (pc := 36) (tgt := 0) dX8_advance_36 (by decide) ?_
      exact r_le (L' := [some (.ref b0), none]) ⟨rfl, trivial⟩ K0
set_option maxHeartbeats 2000000 in
theorem v_X8_advance_39 {K : Sh} {x : Cn} {Q : Cn → Prop} {b0 : Nat} {b0_4 : Nat} {n_b0_4 : Nat} (k_b0 : kk K b0 = some (8, 0)) (g_b0_4 : gr x b0 4 = some b0_4) (k_b0_4 : kk K b0_4 = some (21, n_b0_4)) (K0 : (inS (gi (ui x b0 8 (gi x b0 7)) b0 7) (gi (ui x b0 8 (gi x b0 7)) b0 6) n_b0_4) ∧ (∀ r_2 : Int32, r_2 = (f_see (gi (ui x b0 8 (gi x b0 7)) b0_4) (gi (ui x b0 8 (gi x b0 7)) b0 6) (gi (ui x b0 8 (gi x b0 7)) b0 7)) → ((¬ r_2 = (-1) → (GV mX8_advance 69 [some (.ref b0), some (.int r_2)] [] K (ui x b0 8 (gi x b0 7)) Q)) ∧ (r_2 = (-1) → (Q (ui (ui x b0 8 (gi x b0 7)) b0 9 0)))))) : GV mX8_advance 39 [some (.ref b0), none] [] K x Q := by
  show mGM mX8_advance 39 [some (.ref b0), none] [] (hp K x) (PV K Q)
  refine r_aload_n (pc := 39) dX8_advance_39 rfl ?_
  refine r_aload_n (pc := 40) dX8_advance_40 rfl ?_
  refine s_getI (pc := 41) dX8_advance_41 fl_X8_110 rfl k_b0 ?_
  refine s_putI (pc := 44) dX8_advance_44 fl_X8_116 rfl rfl k_b0 ?_
  refine r_aload_n (pc := 47) dX8_advance_47 rfl ?_
  refine r_aload_n (pc := 48) dX8_advance_48 rfl ?_
  refine s_getI (pc := 49) dX8_advance_49 fl_X8_110 rfl k_b0 ?_
  obtain ⟨p_1, K0⟩ := K0
  refine s_VI (pc := 52) mX8_see (ci := 8) (a := b0) (As := [.int (gi (ui x b0 8 (gi x b0 7)) b0 7)]) dX8_advance_52 lk_X8_113 in_X8_see mo_X8_see ⟨by decide, rfl⟩ ⟨by decide, by decide⟩ (Nat.le_of_ble_eq_true rfl) k_b0 (sp_X8_see k_b0 g_b0_4 k_b0_4 p_1 ?_)
  obtain ⟨r_2, w_3⟩ : ∃ z : Int32, z = (f_see (gi (ui x b0 8 (gi x b0 7)) b0_4) (gi (ui x b0 8 (gi x b0 7)) b0 6) (gi (ui x b0 8 (gi x b0 7)) b0 7)) := ⟨_, rfl⟩
  rw [← w_3]
  have K0 := K0 r_2 w_3
  refine r_istore_n (pc := 55) dX8_advance_55 (by decide) ?_
  refine r_iload_n (pc := 56) (L := [some (.ref b0), some (.int r_2)]) dX8_advance_56 rfl ?_
  refine r_iconst (pc := 57) (v := (-1)) dX8_advance_57 (by decide) ?_
  refine r_icmp_ne (pc := 58) (tgt := 69) dX8_advance_58 (by decide) (fun q => ?_) (fun q => ?_)
  · have K0 := K0.1 q
    exact r_le (L' := [some (.ref b0), some (.int r_2)]) ⟨rfl, ⟨rfl, trivial⟩⟩ K0
  · have K0 := K0.2 q
    refine r_aload_n (pc := 61) dX8_advance_61 rfl ?_
    refine r_iconst (pc := 62) (v := 0) dX8_advance_62 (by decide) ?_
    refine s_putI (pc := 63) dX8_advance_63 fl_X8_119 rfl rfl k_b0 ?_
    refine r_goto (pc := 66) (tgt := 235) dX8_advance_66 (by decide) ?_
    exact s_ret rfl dX8_advance_235 K0
set_option maxHeartbeats 2000000 in
theorem v_X8_advance_69 {K : Sh} {x : Cn} {Q : Cn → Prop} {b0 : Nat} {l1 : Int32}   (K0 : (¬ (97 ≤ l1 ∧ l1 ≤ 122) → (GV mX8_advance 125 [some (.ref b0), some (.int l1)] [] K x Q)) ∧ ((97 ≤ l1 ∧ l1 ≤ 122) → (GV mX8_advance 83 [some (.ref b0), some (.int l1)] [] K x Q))) : GV mX8_advance 69 [some (.ref b0), some (.int l1)] [] K x Q := by
  show mGM mX8_advance 69 [some (.ref b0), some (.int l1)] [] (hp K x) (PV K Q)
  refine r_iload_n (pc := 69) dX8_advance_69 rfl ?_
  refine r_i2l (pc := 70) dX8_advance_70 ?_
  refine r_ldc2 (pc := 71) (v := 97) dX8_advance_71 cn_X8_122 ?_
  refine r_ldc2 (pc := 74) (v := 122) dX8_advance_74 cn_X8_124 ?_
  refine s_SI (pc := 77) mX8_in (As := [.long ((l1 : Int32).toInt64), .long 97, .long 122]) dX8_advance_77 lk_X8_45 st_X8_in mo_X8_in ⟨by decide, by decide⟩ (Nat.le_of_ble_eq_true rfl) (sq_X8_in (v := l1) (lo := 97) (hi := 122) rfl (by decide) (by decide) ?_)
  refine r_if_eq (pc := 80) (tgt := 125) dX8_advance_80 (by decide) (fun q => ?_) (fun q => ?_)
  · have q := (b2i_z _).mp q
    have K0 := K0.1 q
    exact r_le (L' := [some (.ref b0), some (.int l1)]) ⟨rfl, ⟨rfl, trivial⟩⟩ K0
  · have q := b2i_nz q
    have K0 := K0.2 q
    exact r_le (L' := [some (.ref b0), some (.int l1)]) ⟨rfl, ⟨rfl, trivial⟩⟩ K0
set_option maxHeartbeats 2000000 in
theorem v_X8_advance_83 {K : Sh} {x : Cn} {Q : Cn → Prop} {b0 : Nat} {l1 : Int32} {b0_4 : Nat} {n_b0_4 : Nat} (k_b0 : kk K b0 = some (8, 0)) (g_b0_4 : gr x b0 4 = some b0_4) (k_b0_4 : kk K b0_4 = some (21, n_b0_4)) (K0 : (inS (gi x b0 7) (gi x b0 6) n_b0_4) ∧ ((¬ (97 ≤ (f_see (gi x b0_4) (gi x b0 6) (gi x b0 7)) ∧ (f_see (gi x b0_4) (gi x b0 6) (gi x b0 7)) ≤ 122) → (Q (ui x b0 9 1))) ∧ ((97 ≤ (f_see (gi x b0_4) (gi x b0 6) (gi x b0 7)) ∧ (f_see (gi x b0_4) (gi x b0 6) (gi x b0 7)) ≤ 122) → (GV mX8_advance 83 [some (.ref b0), some (.int l1)] [] K (ui x b0 7 ((gi x b0 7) + 1)) Q)))) : GV mX8_advance 83 [some (.ref b0), some (.int l1)] [] K x Q := by
  show mGM mX8_advance 83 [some (.ref b0), some (.int l1)] [] (hp K x) (PV K Q)
  refine r_aload_n (pc := 83) dX8_advance_83 rfl ?_
  refine r_aload_n (pc := 84) dX8_advance_84 rfl ?_
  refine s_getI (pc := 85) dX8_advance_85 fl_X8_110 rfl k_b0 ?_
  obtain ⟨p_1, K0⟩ := K0
  refine s_VI (pc := 88) mX8_see (ci := 8) (a := b0) (As := [.int (gi x b0 7)]) dX8_advance_88 lk_X8_113 in_X8_see mo_X8_see ⟨by decide, rfl⟩ ⟨by decide, by decide⟩ (Nat.le_of_ble_eq_true rfl) k_b0 (sp_X8_see k_b0 g_b0_4 k_b0_4 p_1 ?_)
  refine r_i2l (pc := 91) dX8_advance_91 ?_
  refine r_ldc2 (pc := 92) (v := 97) dX8_advance_92 cn_X8_122 ?_
  refine r_ldc2 (pc := 95) (v := 122) dX8_advance_95 cn_X8_124 ?_
  refine s_SI (pc := 98) mX8_in (As := [.long (((f_see (gi x b0_4) (gi x b0 6) (gi x b0 7)) : Int32).toInt64), .long 97, .long 122]) dX8_advance_98 lk_X8_45 st_X8_in mo_X8_in ⟨by decide, by decide⟩ (Nat.le_of_ble_eq_true rfl) (sq_X8_in (v := (f_see (gi x b0_4) (gi x b0 6) (gi x b0 7))) (lo := 97) (hi := 122) rfl (by decide) (by decide) ?_)
  refine r_if_eq (pc := 101) (tgt := 117) dX8_advance_101 (by decide) (fun q => ?_) (fun q => ?_)
  · have q := (b2i_z _).mp q
    have K0 := K0.1 q
    refine r_aload_n (pc := 117) dX8_advance_117 rfl ?_
    refine r_iconst (pc := 118) (v := 1) dX8_advance_118 (by decide) ?_
    refine s_putI (pc := 119) dX8_advance_119 fl_X8_119 rfl rfl k_b0 ?_
    refine r_goto (pc := 122) (tgt := 235) dX8_advance_122 (by decide) ?_
    exact s_ret rfl dX8_advance_235 K0
  · have q := b2i_nz q
    have K0 := K0.2 q
    refine r_aload_n (pc := 104) dX8_advance_104 rfl ?_
    refine r_dup (pc := 105) dX8_advance_105 rfl ?_
    refine s_getI (pc := 106) dX8_advance_106 fl_X8_110 rfl k_b0 ?_
    refine r_iconst (pc := 109) (v := 1) dX8_advance_109 (by decide) ?_
    refine r_iadd (pc := 110) dX8_advance_110 ?_
    refine s_putI (pc := 111) dX8_advance_111 fl_X8_110 rfl rfl k_b0 ?_
    refine r_goto (pc := 114) (tgt := 83) dX8_advance_114 (by decide) ?_
    exact r_le (L' := [some (.ref b0), some (.int l1)]) ⟨rfl, ⟨rfl, trivial⟩⟩ K0
set_option maxHeartbeats 2000000 in
theorem v_X8_advance_125 {K : Sh} {x : Cn} {Q : Cn → Prop} {b0 : Nat} {l1 : Int32}  (k_b0 : kk K b0 = some (8, 0)) (K0 : (¬ (48 ≤ l1 ∧ l1 ≤ 57) → (Q (ui (ui (ui x b0 9 3) b0 10 l1) b0 7 ((gi (ui (ui x b0 9 3) b0 10 l1) b0 7) + 1)))) ∧ ((48 ≤ l1 ∧ l1 ≤ 57) → (GV mX8_advance 144 [some (.ref b0), some (.int l1)] [] K (ui x b0 10 0) Q))) : GV mX8_advance 125 [some (.ref b0), some (.int l1)] [] K x Q := by
  show mGM mX8_advance 125 [some (.ref b0), some (.int l1)] [] (hp K x) (PV K Q)
  refine r_iload_n (pc := 125) dX8_advance_125 rfl ?_
  refine r_i2l (pc := 126) dX8_advance_126 ?_
  refine r_ldc2 (pc := 127) (v := 48) dX8_advance_127 cn_X8_126 ?_
  refine r_ldc2 (pc := 130) (v := 57) dX8_advance_130 cn_X8_128 ?_
  refine s_SI (pc := 133) mX8_in (As := [.long ((l1 : Int32).toInt64), .long 48, .long 57]) dX8_advance_133 lk_X8_45 st_X8_in mo_X8_in ⟨by decide, by decide⟩ (Nat.le_of_ble_eq_true rfl) (sq_X8_in (v := l1) (lo := 48) (hi := 57) rfl (by decide) (by decide) ?_)
  refine r_if_eq (pc := 136) (tgt := 215) dX8_advance_136 (by decide) (fun q => ?_) (fun q => ?_)
  · have q := (b2i_z _).mp q
    have K0 := K0.1 q
    refine r_aload_n (pc := 215) dX8_advance_215 rfl ?_
    refine r_iconst (pc := 216) (v := 3) dX8_advance_216 (by decide) ?_
    refine s_putI (pc := 217) dX8_advance_217 fl_X8_119 rfl rfl k_b0 ?_
    refine r_aload_n (pc := 220) dX8_advance_220 rfl ?_
    refine r_iload_n (pc := 221) dX8_advance_221 rfl ?_
    refine s_putI (pc := 222) dX8_advance_222 fl_X8_130 rfl rfl k_b0 ?_
    refine r_aload_n (pc := 225) dX8_advance_225 rfl ?_
    refine r_dup (pc := 226) dX8_advance_226 rfl ?_
    refine s_getI (pc := 227) dX8_advance_227 fl_X8_110 rfl k_b0 ?_
    refine r_iconst (pc := 230) (v := 1) dX8_advance_230 (by decide) ?_
    refine r_iadd (pc := 231) dX8_advance_231 ?_
    refine s_putI (pc := 232) dX8_advance_232 fl_X8_110 rfl rfl k_b0 ?_
    exact s_ret rfl dX8_advance_235 K0
  · have q := b2i_nz q
    have K0 := K0.2 q
    refine r_aload_n (pc := 139) dX8_advance_139 rfl ?_
    refine r_iconst (pc := 140) (v := 0) dX8_advance_140 (by decide) ?_
    refine s_putI (pc := 141) dX8_advance_141 fl_X8_130 rfl rfl k_b0 ?_
    exact r_le (L' := [some (.ref b0), some (.int l1)]) ⟨rfl, ⟨rfl, trivial⟩⟩ K0
set_option maxHeartbeats 2000000 in
theorem v_X8_advance_144 {K : Sh} {x : Cn} {Q : Cn → Prop} {b0 : Nat} {l1 : Int32} {b0_4 : Nat} {n_b0_4 : Nat} (k_b0 : kk K b0 = some (8, 0)) (g_b0_4 : gr x b0 4 = some b0_4) (k_b0_4 : kk K b0_4 = some (21, n_b0_4)) (K0 : (inS (gi x b0 7) (gi x b0 6) n_b0_4) ∧ ((¬ (48 ≤ (f_see (gi x b0_4) (gi x b0 6) (gi x b0 7)) ∧ (f_see (gi x b0_4) (gi x b0 6) (gi x b0 7)) ≤ 57) → (Q (ui x b0 9 2))) ∧ ((48 ≤ (f_see (gi x b0_4) (gi x b0 6) (gi x b0 7)) ∧ (f_see (gi x b0_4) (gi x b0 6) (gi x b0 7)) ≤ 57) → (∀ r_3 : Int32, r_3 = gi (ui x b0 10 (if (((10 * (gi x b0 10)) + (f_see (gi x b0_4) (gi x b0 6) (gi x b0 7))) - 48) < 9999 then (((10 * (gi x b0 10)) + (f_see (gi x b0_4) (gi x b0 6) (gi x b0 7))) - 48) else 9999)) b0 7 → (GV mX8_advance 144 [some (.ref b0), some (.int l1)] [] K (ui (ui x b0 10 (if (((10 * (gi x b0 10)) + (f_see (gi x b0_4) (gi x b0 6) (gi x b0 7))) - 48) < 9999 then (((10 * (gi x b0 10)) + (f_see (gi x b0_4) (gi x b0 6) (gi x b0 7))) - 48) else 9999)) b0 7 (r_3 + 1)) Q))))) : GV mX8_advance 144 [some (.ref b0), some (.int l1)] [] K x Q := by
  show mGM mX8_advance 144 [some (.ref b0), some (.int l1)] [] (hp K x) (PV K Q)
  refine r_aload_n (pc := 144) dX8_advance_144 rfl ?_
  refine r_aload_n (pc := 145) dX8_advance_145 rfl ?_
  refine s_getI (pc := 146) dX8_advance_146 fl_X8_110 rfl k_b0 ?_
  obtain ⟨p_1, K0⟩ := K0
  refine s_VI (pc := 149) mX8_see (ci := 8) (a := b0) (As := [.int (gi x b0 7)]) dX8_advance_149 lk_X8_113 in_X8_see mo_X8_see ⟨by decide, rfl⟩ ⟨by decide, by decide⟩ (Nat.le_of_ble_eq_true rfl) k_b0 (sp_X8_see k_b0 g_b0_4 k_b0_4 p_1 ?_)
  refine r_i2l (pc := 152) dX8_advance_152 ?_
  refine r_ldc2 (pc := 153) (v := 48) dX8_advance_153 cn_X8_126 ?_
  refine r_ldc2 (pc := 156) (v := 57) dX8_advance_156 cn_X8_128 ?_
  refine s_SI (pc := 159) mX8_in (As := [.long (((f_see (gi x b0_4) (gi x b0 6) (gi x b0 7)) : Int32).toInt64), .long 48, .long 57]) dX8_advance_159 lk_X8_45 st_X8_in mo_X8_in ⟨by decide, by decide⟩ (Nat.le_of_ble_eq_true rfl) (sq_X8_in (v := (f_see (gi x b0_4) (gi x b0 6) (gi x b0 7))) (lo := 48) (hi := 57) rfl (by decide) (by decide) ?_)
  refine r_if_eq (pc := 162) (tgt := 207) dX8_advance_162 (by decide) (fun q => ?_) (fun q => ?_)
  · have q := (b2i_z _).mp q
    have K0 := K0.1 q
    refine r_aload_n (pc := 207) dX8_advance_207 rfl ?_
    refine r_iconst (pc := 208) (v := 2) dX8_advance_208 (by decide) ?_
    refine s_putI (pc := 209) dX8_advance_209 fl_X8_119 rfl rfl k_b0 ?_
    refine r_goto (pc := 212) (tgt := 235) dX8_advance_212 (by decide) ?_
    exact s_ret rfl dX8_advance_235 K0
  · have q := b2i_nz q
    have K0 := K0.2 q
    refine r_aload_n (pc := 165) dX8_advance_165 rfl ?_
    refine r_sipush (pc := 166) (v := 9999) dX8_advance_166 (by decide) ?_
    refine r_bipush (pc := 169) (v := 10) dX8_advance_169 (by decide) ?_
    refine r_aload_n (pc := 171) dX8_advance_171 rfl ?_
    refine s_getI (pc := 172) dX8_advance_172 fl_X8_130 rfl k_b0 ?_
    refine r_imul (pc := 175) dX8_advance_175 ?_
    refine r_aload_n (pc := 176) dX8_advance_176 rfl ?_
    refine r_aload_n (pc := 177) dX8_advance_177 rfl ?_
    refine s_getI (pc := 178) dX8_advance_178 fl_X8_110 rfl k_b0 ?_
    refine s_VI (pc := 181) mX8_see (ci := 8) (a := b0) (As := [.int (gi x b0 7)]) dX8_advance_181 lk_X8_113 in_X8_see mo_X8_see ⟨by decide, rfl⟩ ⟨by decide, by decide⟩ (Nat.le_of_ble_eq_true rfl) k_b0 (sp_X8_see k_b0 g_b0_4 k_b0_4 p_1 ?_)
    refine r_iadd (pc := 184) dX8_advance_184 ?_
    refine r_bipush (pc := 185) (v := 48) dX8_advance_185 (by decide) ?_
    refine r_isub (pc := 187) dX8_advance_187 ?_
    refine r_mmin (pc := 188) dX8_advance_188 lk_X8_133 mw_min ⟨by decide, by decide⟩ (Nat.le_of_ble_eq_true rfl) ?_
    refine s_putI (pc := 191) dX8_advance_191 fl_X8_130 rfl rfl k_b0 ?_
    refine r_aload_n (pc := 194) dX8_advance_194 rfl ?_
    refine r_dup (pc := 195) dX8_advance_195 rfl ?_
    refine s_getI (pc := 196) dX8_advance_196 fl_X8_110 rfl k_b0 ?_
    obtain ⟨r_3, w_4⟩ : ∃ z : Int32, z = gi (ui x b0 10 (if (((10 * (gi x b0 10)) + (f_see (gi x b0_4) (gi x b0 6) (gi x b0 7))) - 48) < 9999 then (((10 * (gi x b0 10)) + (f_see (gi x b0_4) (gi x b0 6) (gi x b0 7))) - 48) else 9999)) b0 7 := ⟨_, rfl⟩
    rw [← w_4]
    have K0 := K0 r_3 w_4
    refine r_iconst (pc := 199) (v := 1) dX8_advance_199 (by decide) ?_
    refine r_iadd (pc := 200) dX8_advance_200 ?_
    refine s_putI (pc := 201) dX8_advance_201 fl_X8_110 rfl rfl k_b0 ?_
    refine r_goto (pc := 204) (tgt := 144) dX8_advance_204 (by decide) ?_
    exact r_le (L' := [some (.ref b0), some (.int l1)]) ⟨rfl, ⟨rfl, trivial⟩⟩ K0
section
variable {x : Cn} {Q : Cn → Prop} {b : TT} {n : Nat}
variable {x : Cn} {Q : Cn → Prop} {b : TT} {n : Nat}
theorem lp_X8_advance_0 (c : gr x 717 4 = some 720) (hn : n ≤ 1200) (hb : gi x 720 = b) (hB : ∀ i, i < n → isB (b i)) (h6 : gi x 717 6 = nI n) : ∀ d q y, q + d = n → BTf x y → gi y 717 7 = nI q → (∀ y, BTf x y → gi y 717 7 = nI (skB b d q) → GV mX8_advance 39 [some (.ref 717), none] [] KW y Q) → GV mX8_advance 0 [some (.ref 717), none] [] KW y Q := by
  intro d
  induction d with
  | zero =>
    intro q y hq f h7 k
    have v6 : gi y 717 6 = nI n := (f.2 717 6 (by omega)).trans h6
    refine v_X8_advance_0g km (by unfold gr; rw [f.1]; exact c) k720 ?_
    rw [v6, h7, f_see_out (by omega) (by omega)]
    exact ⟨inS_n hn (by omega), fun z => absurd z (by decide), fun _ => ⟨fun _ => k y f h7, fun z => absurd z (by decide)⟩⟩
  | succ d ih =>
    intro q y hq f h7 k
    have v6 : gi y 717 6 = nI n := (f.2 717 6 (by omega)).trans h6
    have vb : gi y 720 = b := (funext fun i => f.2 720 i (by omega)).trans hb
    have go : (b q = 32 ∨ b q = 10) → GV mX8_advance 0 [some (.ref 717), none] [] KW (ui y 717 7 (nI q + 1)) Q := by
      intro z
      refine ih (q + 1) _ (by omega) (f.u (by omega)) (by rw [gi_ui, if_pos ⟨rfl, rfl⟩, nI_succ]) (fun w fw hw => k w fw ?_)
      unfold skB
      rw [if_pos z]
      exact hw
    have st : ¬ (b q = 32 ∨ b q = 10) → GV mX8_advance 39 [some (.ref 717), none] [] KW y Q := by
      intro z
      refine k y f ?_
      unfold skB
      rw [if_neg z]
      exact h7
    have fb := FB_of (hB q (by omega))
    refine v_X8_advance_0g km (by unfold gr; rw [f.1]; exact c) k720 ?_
    rw [v6, h7, vb, f_see_in (by omega) (by omega), fb.1, fb.2.1]
    exact ⟨inS_n hn (by omega), fun z => go (Or.inl z), fun z => ⟨fun z2 => st (fun w => w.elim z z2), fun z2 => go (Or.inr z2)⟩⟩
theorem lp_X8_advance_83 {s : Nat} {l1 : Int32} (c : gr x 717 4 = some 720) (hn : n ≤ 1200) (hb : gi x 720 = b) (hB : ∀ i, i < n → isB (b i)) (h6 : gi x 717 6 = nI n) : ∀ d q y, q + d = n → BTf x y → gi y 717 8 = nI s → gi y 717 7 = nI q → (∀ y, BTf x y → gi y 717 8 = nI s → gi y 717 7 = nI (scL b d q) → gi y 717 9 = 1 → Q y) → GV mX8_advance 83 [some (.ref 717), some (.int l1)] [] KW y Q := by
  intro d
  induction d with
  | zero =>
    intro q y hq f h8 h7 k
    have v6 : gi y 717 6 = nI n := (f.2 717 6 (by omega)).trans h6
    refine v_X8_advance_83 km (by unfold gr; rw [f.1]; exact c) k720 ?_
    rw [v6, h7, f_see_out (by omega) (by omega)]
    exact ⟨inS_n hn (by omega), fun _ => k _ (f.u (by omega)) (by rw [gi_ui, if_neg (by omega)]; exact h8) (by rw [gi_ui, if_neg (by omega)]; exact h7) (by rw [gi_ui, if_pos ⟨rfl, rfl⟩]), fun z => absurd z.1 (by decide)⟩
  | succ d ih =>
    intro q y hq f h8 h7 k
    have v6 : gi y 717 6 = nI n := (f.2 717 6 (by omega)).trans h6
    have vb : gi y 720 = b := (funext fun i => f.2 720 i (by omega)).trans hb
    have fb := FB_of (hB q (by omega))
    refine v_X8_advance_83 km (by unfold gr; rw [f.1]; exact c) k720 ?_
    rw [v6, h7, vb, f_see_in (by omega) (by omega), fb.2.2.1]
    refine ⟨inS_n hn (by omega), fun z => ?_, fun z => ?_⟩
    · have e : scL b (d + 1) q = q := by unfold scL; rw [if_neg z]
      rw [e] at k
      exact k _ (f.u (by omega)) (by rw [gi_ui, if_neg (by omega)]; exact h8) (by rw [gi_ui, if_neg (by omega)]; exact h7) (by rw [gi_ui, if_pos ⟨rfl, rfl⟩])
    · have e : scL b (d + 1) q = scL b d (q + 1) := by
        show (if 97 ≤ b q ∧ b q ≤ 122 then scL b d (q + 1) else q) = _
        rw [if_pos z]
      rw [e] at k
      exact ih (q + 1) _ (by omega) (f.u (by omega)) (by rw [gi_ui, if_neg (by omega)]; exact h8) (by rw [gi_ui, if_pos ⟨rfl, rfl⟩, nI_succ]) k
theorem lp_X8_advance_144 {s : Nat} {l1 : Int32} (c : gr x 717 4 = some 720) (hn : n ≤ 1200) (hb : gi x 720 = b) (hB : ∀ i, i < n → isB (b i)) (h6 : gi x 717 6 = nI n) : ∀ d q V y, q + d = n → BTf x y → gi y 717 8 = nI s → gi y 717 7 = nI q → gi y 717 10 = nI (min V 9999) → (∀ y, BTf x y → gi y 717 8 = nI s → gi y 717 7 = nI (scD b d q) → gi y 717 9 = 2 → gi y 717 10 = nI (min (nvD b d q V) 9999) → Q y) → GV mX8_advance 144 [some (.ref 717), some (.int l1)] [] KW y Q := by
  intro d
  induction d with
  | zero =>
    intro q V y hq f h8 h7 h10 k
    have v6 : gi y 717 6 = nI n := (f.2 717 6 (by omega)).trans h6
    refine v_X8_advance_144 km (by unfold gr; rw [f.1]; exact c) k720 ?_
    rw [v6, h7, f_see_out (by omega) (by omega)]
    exact ⟨inS_n hn (by omega), fun _ => k _ (f.u (by omega)) (by rw [gi_ui, if_neg (by omega)]; exact h8) (by rw [gi_ui, if_neg (by omega)]; exact h7) (by rw [gi_ui, if_pos ⟨rfl, rfl⟩]) (by rw [gi_ui, if_neg (by omega)]; exact h10), fun z => absurd z.1 (by decide)⟩
  | succ d ih =>
    intro q V y hq f h8 h7 h10 k
    have v6 : gi y 717 6 = nI n := (f.2 717 6 (by omega)).trans h6
    have vb : gi y 720 = b := (funext fun i => f.2 720 i (by omega)).trans hb
    have fb := FB_of (hB q (by omega))
    refine v_X8_advance_144 km (by unfold gr; rw [f.1]; exact c) k720 ?_
    rw [v6, h7, vb, f_see_in (by omega) (by omega), fb.2.2.2.1]
    refine ⟨inS_n hn (by omega), fun z => ?_, fun z r hr => ?_⟩
    · have e1 : scD b (d + 1) q = q := by unfold scD; rw [if_neg z]
      have e2 : nvD b (d + 1) q V = V := by unfold nvD; rw [if_neg z]
      rw [e1, e2] at k
      exact k _ (f.u (by omega)) (by rw [gi_ui, if_neg (by omega)]; exact h8) (by rw [gi_ui, if_neg (by omega)]; exact h7) (by rw [gi_ui, if_pos ⟨rfl, rfl⟩]) (by rw [gi_ui, if_neg (by omega)]; exact h10)
    · have e1 : scD b (d + 1) q = scD b d (q + 1) := by
        show (if 48 ≤ b q ∧ b q ≤ 57 then scD b d (q + 1) else q) = _
        rw [if_pos z]
      have e2 : nvD b (d + 1) q V = nvD b d (q + 1) (10 * V + ((b q).toNatClampNeg - 48)) := by
        show (if 48 ≤ b q ∧ b q ≤ 57 then nvD b d (q + 1) (10 * V + ((b q).toNatClampNeg - 48)) else V) = _
        rw [if_pos z]
      rw [e1, e2] at k
      have hd := fb.2.2.2.2.2.2.2.1 z
      have hc := cap2 (V := V) hd.2.2
      rw [← hd.2.1] at hc
      rw [hd.1, h10] at hr ⊢
      rw [hc] at hr ⊢
      rw [gi_ui, if_neg (by omega), h7] at hr
      rw [hr]
      exact ih (q + 1) _ _ (by omega) ((f.u (by omega)).u (by omega)) (by rw [gi_ui, if_neg (by omega), gi_ui, if_neg (by omega)]; exact h8) (by rw [gi_ui, if_pos ⟨rfl, rfl⟩, nI_succ]) (by rw [gi_ui, if_neg (by omega), gi_ui, if_pos ⟨rfl, rfl⟩]) k
theorem sp_X8_advance {x : Cn} {Q : Cn → Prop} {b : TT} {n p : Nat} (c : gr x 717 4 = some 720) (hn : n ≤ 1200) (hb : gi x 720 = b) (hB : ∀ i, i < n → isB (b i)) (h6 : gi x 717 6 = nI n) (h7 : gi x 717 7 = nI p) (hp : p ≤ n) (k : ∀ y, BTf x y → RTk y b n p → Q y) : mSV mX8_advance [.ref 717] KW x Q := by
  have hs := tS_b (b := b) hp
  refine s_V (by decide) (by simp [Value.category]) (Nat.le_of_ble_eq_true rfl) ?_
  show GV mX8_advance 0 [some (.ref 717), none] [] KW x Q
  refine lp_X8_advance_0 c hn hb hB h6 (n - p) p x (by omega) (BTf.rf x) h7 (fun y fy hy => ?_)
  have hy : gi y 717 7 = nI (tS b n p) := hy
  have y6 : gi y 717 6 = nI n := (fy.2 717 6 (by omega)).trans h6
  refine v_X8_advance_39 km (by unfold gr; rw [fy.1]; exact c) k720 ?_
  rw [hy]
  have u7 : gi (ui y 717 8 (nI (tS b n p))) 717 7 = nI (tS b n p) := by rw [gi_ui, if_neg (by omega)]; exact hy
  have u6 : gi (ui y 717 8 (nI (tS b n p))) 717 6 = nI n := by rw [gi_ui, if_neg (by omega)]; exact y6
  have u8 : gi (ui y 717 8 (nI (tS b n p))) 717 8 = nI (tS b n p) := by rw [gi_ui, if_pos ⟨rfl, rfl⟩]
  have fu : BTf x (ui y 717 8 (nI (tS b n p))) := fy.u (by omega)
  have ub : gi (ui y 717 8 (nI (tS b n p))) 720 = b := (funext fun i => fu.2 720 i (by omega)).trans hb
  rw [u6, u7, ub]
  generalize ui y 717 8 (nI (tS b n p)) = u at u6 u7 u8 ub fu
  refine ⟨inS_n hn (by omega), fun r hr => ⟨fun z => ?_, fun z => ?_⟩⟩
  · have hlt : tS b n p < n := by
      rcases Nat.lt_or_ge (tS b n p) n with q | q
      · exact q
      · rw [f_see_out q (by omega)] at hr; exact absurd hr z
    rw [f_see_in hlt (by omega)] at hr
    have fb := FB_of (hB _ hlt)
    subst hr
    refine v_X8_advance_69 ?_
    rw [fb.2.2.1]
    refine ⟨fun z1 => v_X8_advance_125 km ?_, fun z1 => ?_⟩
    · rw [fb.2.2.2.1]
      refine ⟨fun z2 => ?_, fun z2 => ?_⟩
      · have hK : tK b n p = 3 := by unfold tK; rw [if_neg (by omega), if_neg z1, if_neg z2]
        have hE : tE b n p = tS b n p + 1 := by unfold tE; rw [hK]; rfl
        refine k _ (((fu.u (by omega)).u (by omega)).u (by omega)) ⟨?_, ?_, ?_, fun h => by omega, fun _ => ?_⟩
        · rw [gi_ui, if_neg (by omega), gi_ui, if_neg (by omega), gi_ui, if_neg (by omega)]; exact u8
        · rw [gi_ui, if_pos ⟨rfl, rfl⟩, gi_ui, if_neg (by omega), gi_ui, if_neg (by omega), u7, hE, nI_succ]
        · rw [gi_ui, if_neg (by omega), gi_ui, if_neg (by omega), gi_ui, if_pos ⟨rfl, rfl⟩, hK]; rfl
        · rw [gi_ui, if_neg (by omega), gi_ui, if_pos ⟨rfl, rfl⟩]
      · have hK : tK b n p = 2 := by unfold tK; rw [if_neg (by omega), if_neg z1, if_pos z2]
        have hE : tE b n p = scD b (n - tS b n p) (tS b n p) := by unfold tE; rw [hK]; rfl
        exact lp_X8_advance_144 c hn hb hB h6 (n - tS b n p) (tS b n p) 0 _ (by omega) (fu.u (by omega)) (by rw [gi_ui, if_neg (by omega)]; exact u8) (by rw [gi_ui, if_neg (by omega)]; exact u7) (by rw [gi_ui, if_pos ⟨rfl, rfl⟩]; rfl) (fun w f1 f2 f3 f4 f5 => k w f1 ⟨f2, by rw [f3, hE], by rw [f4, hK]; rfl, fun _ => f5, fun h => by omega⟩)
    · have hK : tK b n p = 1 := by unfold tK; rw [if_neg (by omega), if_pos z1]
      have hE : tE b n p = scL b (n - tS b n p) (tS b n p) := by unfold tE; rw [hK]; rfl
      exact lp_X8_advance_83 c hn hb hB h6 (n - tS b n p) (tS b n p) _ (by omega) fu u8 u7 (fun w f1 f2 f3 f4 => k w f1 ⟨f2, by rw [f3, hE], by rw [f4, hK]; rfl, fun h => by omega, fun h => by omega⟩)
  · have hge : n ≤ tS b n p := by
      rcases Nat.lt_or_ge (tS b n p) n with q | q
      · rw [f_see_in q (by omega)] at hr
        exact absurd (hr.symm.trans z) (FB_of (hB _ q)).2.2.2.2.2.2.1
      · exact q
    have hK : tK b n p = 0 := by unfold tK; rw [if_pos hge]
    have hE : tE b n p = tS b n p := by unfold tE; rw [hK]; rfl
    exact k _ (fu.u (by omega)) ⟨by rw [gi_ui, if_neg (by omega)]; exact u8, by rw [gi_ui, if_neg (by omega), u7, hE], by rw [gi_ui, if_pos ⟨rfl, rfl⟩, hK]; rfl, fun h => by omega, fun h => by omega⟩

end

/-! what is told -/
def mSq (k : Nat) : String × Nat × String × List Int32 := mS.getD k ("", 0, "", [])
theorem mSq_at {k : Nat} (h : k < 37) : mS[k]? = some (mSq k) := by
  have hl : k < mS.length := h
  unfold mSq
  rw [List.getD_eq_getElem?_getD, List.getElem?_eq_getElem hl]
  rfl
theorem sp_chv {K : Sh} {x : Cn} {Q : Int32 → Cn → Prop} {j n : Nat} {q : String × Nat × String × List Int32} {v : Int32} (hj : mS[j]? = some q) (ev : v = nI n) (hn : n < q.2.2.2.length) (k : Q (q.2.2.2.getD n 0) x) : mSI mJ0_charAt_5068e [.ref (mSB + j), .int v] K x Q := by
  subst ev
  exact sp_ch hj hn k
def wq (q : String × Nat × String × List Int32) : List Nat := q.2.2.2.map Int32.toNatClampNeg
abbrev wd (k : Nat) : List Nat := wq (mSq k)
theorem wq_len (q : String × Nat × String × List Int32) : (wq q).length = q.2.2.2.length := List.length_map _
theorem wq_at {j n : Nat} {q : String × Nat × String × List Int32} (hj : mS[j]? = some q) (hn : n < q.2.2.2.length) : q.2.2.2.getD n 0 = nI ((wq q).getD n 0) ∧ (wq q).getD n 0 < 128 := by
  have hb := (mS_ok q (List.mem_of_getElem? hj)).2 (q.2.2.2.getD n 0) (by rw [List.getD_eq_getElem?_getD, List.getElem?_eq_getElem hn]; exact List.getElem_mem hn)
  have e : (wq q).getD n 0 = (q.2.2.2.getD n 0).toNatClampNeg := by
    unfold wq
    rw [List.getD_eq_getElem?_getD, List.getD_eq_getElem?_getD, List.getElem?_map, List.getElem?_eq_getElem hn]
    rfl
  obtain ⟨m, h1, h2⟩ := nI_of2 (M := 127) (n := 127) (by decide) (Int32.not_lt.mpr hb.2.1) hb.2.2
  rw [e, h2, nI_clamp (by omega)]
  exact ⟨rfl, by omega⟩
theorem gD_l {l m : List Nat} {i : Nat} (h : i < l.length) : (l ++ m).getD i 0 = l.getD i 0 := by
  rw [List.getD_eq_getElem?_getD, List.getD_eq_getElem?_getD, List.getElem?_append_left h]
theorem gD_r {l m : List Nat} {i : Nat} (h : l.length ≤ i) : (l ++ m).getD i 0 = m.getD (i - l.length) 0 := by
  rw [List.getD_eq_getElem?_getD, List.getD_eq_getElem?_getD, List.getElem?_append_right h]
theorem b8 : ∀ n, n < 128 → (nI n).toInt8.toInt32 = nI n := by decide
theorem b16 : ∀ n, n < 128 → ((nI n).toUInt32 % 65536).toInt32 = nI n := by decide
theorem k175 : kk KW 175 = some (6, 0) := by decide
/-- the landed one's told bytes, at most B of them -/
def WR (y : Cn) (l : List Nat) (B : Nat) : Prop := gi y 175 1 = nI l.length ∧ (∀ i, i < l.length → gi y 176 i = nI (l.getD i 0) ∧ l.getD i 0 < 128) ∧ l.length ≤ B
def OR (y : Cn) (l : List Nat) (B : Nat) : Prop := gi y 717 22 = nI l.length ∧ (∀ i, i < l.length → gi y 725 i = nI (l.getD i 0) ∧ l.getD i 0 < 128) ∧ l.length ≤ B
def WFr (x y : Cn) : Prop := y.2 = x.2 ∧ ∀ a k, a ≠ 176 → ¬ (a = 175 ∧ k = 1) → gi y a k = gi x a k
def OFr (x y : Cn) : Prop := y.2 = x.2 ∧ ∀ a k, a ≠ 725 → ¬ (a = 717 ∧ k = 22) → gi y a k = gi x a k
theorem WFr.rf (x : Cn) : WFr x x := ⟨rfl, fun _ _ _ _ => rfl⟩
theorem OFr.rf (x : Cn) : OFr x x := ⟨rfl, fun _ _ _ _ => rfl⟩
theorem WFr.tr {x y z : Cn} (h : WFr x y) (g : WFr y z) : WFr x z := ⟨g.1.trans h.1, fun a k a1 a2 => (g.2 a k a1 a2).trans (h.2 a k a1 a2)⟩
theorem OFr.tr {x y z : Cn} (h : OFr x y) (g : OFr y z) : OFr x z := ⟨g.1.trans h.1, fun a k a1 a2 => (g.2 a k a1 a2).trans (h.2 a k a1 a2)⟩
theorem WR.le {y : Cn} {l : List Nat} {B B' : Nat} (h : WR y l B) (c : B ≤ B') : WR y l B' := ⟨h.1, h.2.1, by have := h.2.2; omega⟩
theorem OR.le {y : Cn} {l : List Nat} {B B' : Nat} (h : OR y l B) (c : B ≤ B') : OR y l B' := ⟨h.1, h.2.1, by have := h.2.2; omega⟩
def lst (l : List Nat) : Nat := l.getD (l.length - 1) 0
abbrev aln (b : Nat) : Prop := (97 ≤ b ∧ b ≤ 122) ∨ (48 ≤ b ∧ b ≤ 57)
def bl (l : List Nat) : List Nat := if aln (lst l) then [32] else []
theorem lst_1 (l : List Nat) (b : Nat) : lst (l ++ [b]) = b := by
  unfold lst
  rw [gD_r (by simp)]
  simp
theorem lst_a (l : List Nat) {w : List Nat} (h : w ≠ []) : lst (l ++ w) = lst w := by
  have hp : 0 < w.length := List.length_pos_iff.mpr h
  unfold lst
  rw [List.length_append, gD_r (by omega)]
  congr 1
  omega
theorem bl_1 (l : List Nat) {b : Nat} (h : ¬ aln b) : bl (l ++ [b]) = [] := by
  unfold bl
  rw [lst_1, if_neg h]
theorem bl_a (l : List Nat) {w : List Nat} (h : w ≠ []) (h2 : aln (lst w)) : bl (l ++ w) = [32] := by
  unfold bl
  rw [lst_a l h, if_pos h2]
theorem bl_le (l : List Nat) : (bl l).length ≤ 1 := by
  unfold bl
  split <;> simp
def numL (n : Nat) : List Nat := if n < 10 then [48 + n] else [48 + n / 10, 48 + n % 10]
theorem bl_num (l : List Nat) {n : Nat} (h : n < 100) : bl (l ++ numL n) = [32] := by
  unfold numL
  by_cases c : n < 10
  · rw [if_pos c]
    exact bl_a l (by simp) (Or.inr (by show 48 ≤ 48 + n ∧ 48 + n ≤ 57; omega))
  · rw [if_neg c]
    exact bl_a l (by simp) (Or.inr (by show 48 ≤ 48 + n % 10 ∧ 48 + n % 10 ≤ 57; omega))
def dg (v i : Nat) : Nat := v / 27 ^ (5 - i) % 27
def nmS (v : Nat) : Nat → List Nat → List Nat := fun i l => if dg v i = 0 then l else l ++ [96 + dg v i]
def nmL (v : Nat) : List Nat := accT (nmS v) 6 []
theorem nm_acc (v : Nat) (l : List Nat) : ∀ i, accT (nmS v) i l = l ++ accT (nmS v) i [] := by
  intro i
  induction i with
  | zero => show l = l ++ []; simp
  | succ i ih =>
    simp only [accT]
    rw [ih]
    unfold nmS
    by_cases c : dg v i = 0
    · rw [if_pos c, if_pos c]
    · rw [if_neg c, if_neg c, List.append_assoc]
theorem dg_lt (v i : Nat) : dg v i < 27 := Nat.mod_lt _ (by decide)
theorem nm_al (v : Nat) : ∀ i, accT (nmS v) i [] = [] ∨ aln (lst (accT (nmS v) i [])) := by
  intro i
  induction i with
  | zero => exact Or.inl rfl
  | succ i ih =>
    simp only [accT]
    generalize accT (nmS v) i [] = l at ih ⊢
    unfold nmS
    by_cases c : dg v i = 0
    · rw [if_pos c]; exact ih
    · rw [if_neg c, lst_1]
      have := dg_lt v i
      exact Or.inr (Or.inl (by omega))
theorem nm_ne {v : Nat} (h0 : 0 < v) (h1 : v < 387420489) : nmL v ≠ [] := by
  have key : ∀ i, accT (nmS v) i [] = [] → ∀ j, j < i → dg v j = 0 := by
    intro i
    induction i with
    | zero => intro _ j hj; omega
    | succ i ih =>
      intro h j hj
      simp only [accT] at h
      generalize hl : accT (nmS v) i [] = l at h ih
      unfold nmS at h
      by_cases c : dg v i = 0
      · rw [if_pos c] at h
        by_cases c2 : j = i
        · rw [c2]; exact c
        · exact ih h j (by omega)
      · rw [if_neg c] at h
        simp at h
  intro hn
  have d := key 6 hn
  have d0 := d 0 (by decide)
  have d1 := d 1 (by decide)
  have d2 := d 2 (by decide)
  have d3 := d 3 (by decide)
  have d4 := d 4 (by decide)
  have d5 := d 5 (by decide)
  have e0 : v / 14348907 % 27 = 0 := d0
  have e1 : v / 531441 % 27 = 0 := d1
  have e2 : v / 19683 % 27 = 0 := d2
  have e3 : v / 729 % 27 = 0 := d3
  have e4 : v / 27 % 27 = 0 := d4
  have e5 : v / 1 % 27 = 0 := d5
  omega
theorem bl_nm (l : List Nat) {v : Nat} (h0 : 0 < v) (h1 : v < 387420489) : bl (l ++ nmL v) = [32] := bl_a l (nm_ne h0 h1) ((nm_al v 6).resolve_left (nm_ne h0 h1))
def dc (d i : Nat) : Nat := ((mSq 6).2.2.2.getD (4 * d + i) 0).toNatClampNeg
def dayL (d : Nat) : List Nat := [dc d 0, dc d 1, dc d 2]
theorem dc_ok : ∀ d, d < 7 → ∀ i, i < 3 → (mSq 6).2.2.2.getD (4 * d + i) 0 = nI (dc d i) ∧ 97 ≤ dc d i ∧ dc d i ≤ 122 := by decide +kernel
theorem day_wd : ∀ d, d < 7 → wd (15 + d) = dayL d := by decide +kernel
theorem bl_day (l : List Nat) {d : Nat} (h : d < 7) : bl (l ++ dayL d) = [32] := bl_a l (by simp [dayL]) (Or.inl (dc_ok d h 2 (by decide)).2)
theorem wd_27 : wd 27 = wd 1 ++ [32] := by decide +kernel
theorem wd_28 : wd 28 = wd 2 ++ [32] := by decide +kernel
theorem wd_29 : wd 29 = [32] ++ wd 3 ++ [32] := by decide +kernel
theorem wd_30 : wd 30 = wd 4 ++ [32] := by decide +kernel
theorem wd_31 : wd 31 = wd 5 ++ [32] := by decide +kernel
theorem wd_32 : wd 32 = [32] ++ wd 7 ++ [32] := by decide +kernel
theorem wd_33 : wd 33 = [32] ++ wd 8 ++ [59] := by decide +kernel
theorem wd_34 : wd 34 = [59] := by decide +kernel
theorem wd_35 : wd 35 = wd 9 ++ [32] := by decide +kernel
theorem wd_36 : wd 36 = [32] ++ wd 10 ++ [32] := by decide +kernel
theorem wd_al : ∀ k, k < 11 → k ≠ 0 → k ≠ 6 → wd k ≠ [] ∧ aln (lst (wd k)) := by decide +kernel
theorem bl_wd (l : List Nat) {k : Nat} (h1 : k < 11) (h2 : k ≠ 0) (h3 : k ≠ 6) : bl (l ++ wd k) = [32] := bl_a l (wd_al k h1 h2 h3).1 (wd_al k h1 h2 h3).2
set_option maxHeartbeats 2000000 in
theorem v_X6_putSign_0 {K : Sh} {x : Cn} {Q : Cn → Prop} {b0 : Nat} {l1 : Int32} {b0_0 : Nat} {n_b0_0 : Nat} (k_b0 : kk K b0 = some (6, 0)) (g_b0_0 : gr x b0 0 = some b0_0) (k_b0_0 : kk K b0_0 = some (21, n_b0_0)) (K0 : (2400 ≤ (gi x b0 1) → (Q x)) ∧ (¬ 2400 ≤ (gi x b0 1) → (vp_in (gi x b0 1) n_b0_0 ∧ (∀ r_3 : Int32, r_3 = gi (ui x b0_0 ((gi x b0 1) : Int32).toNatClampNeg (((l1 : Int32).toInt8.toInt32 : Int32).toInt8.toInt32)) b0 1 → (Q (ui (ui x b0_0 ((gi x b0 1) : Int32).toNatClampNeg (((l1 : Int32).toInt8.toInt32 : Int32).toInt8.toInt32)) b0 1 (r_3 + 1))))))) : mSV mX6_putSign [.ref b0, .int l1] K x Q := by
  refine s_V (by decide) (by simp [Value.category]) (Nat.le_of_ble_eq_true rfl) ?_
  show mGM mX6_putSign 0 [some (.ref b0), some (.int l1)] [] (hp K x) (PV K Q)
  refine r_aload_n (pc := 0) dX6_putSign_0 rfl ?_
  refine s_getI (pc := 1) dX6_putSign_1 fl_X6_15 rfl k_b0 ?_
  refine r_sipush (pc := 4) (v := 2400) dX6_putSign_4 (by decide) ?_
  refine r_icmp_ge (pc := 7) (tgt := 31) dX6_putSign_7 (by decide) (fun q => ?_) (fun q => ?_)
  · have K0 := K0.1 q
    exact s_ret rfl dX6_putSign_31 K0
  · have K0 := K0.2 q
    refine r_aload_n (pc := 10) dX6_putSign_10 rfl ?_
    refine s_getR (pc := 11) dX6_putSign_11 fl_X6_9 rfl k_b0 g_b0_0 ?_
    refine r_aload_n (pc := 14) dX6_putSign_14 rfl ?_
    refine s_getI (pc := 15) dX6_putSign_15 fl_X6_15 rfl k_b0 ?_
    refine r_iload_n (pc := 18) dX6_putSign_18 rfl ?_
    refine r_i2b (pc := 19) dX6_putSign_19 ?_
    obtain ⟨i_2, K0⟩ := K0
    refine s_bast (pc := 20) dX6_putSign_20 k_b0_0 i_2 ?_
    refine r_aload_n (pc := 21) dX6_putSign_21 rfl ?_
    refine r_dup (pc := 22) dX6_putSign_22 rfl ?_
    refine s_getI (pc := 23) dX6_putSign_23 fl_X6_15 rfl k_b0 ?_
    obtain ⟨r_3, w_4⟩ : ∃ z : Int32, z = gi (ui x b0_0 ((gi x b0 1) : Int32).toNatClampNeg (((l1 : Int32).toInt8.toInt32 : Int32).toInt8.toInt32)) b0 1 := ⟨_, rfl⟩
    rw [← w_4]
    have K0 := K0 r_3 w_4
    refine r_iconst (pc := 26) (v := 1) dX6_putSign_26 (by decide) ?_
    refine r_iadd (pc := 27) dX6_putSign_27 ?_
    refine s_putI (pc := 28) dX6_putSign_28 fl_X6_15 rfl rfl k_b0 ?_
    exact s_ret rfl dX6_putSign_31 K0
section
variable {x : Cn} {Q : Cn → Prop} {l : List Nat} {B : Nat}
theorem sp_X6_putSign {n : Nat} (hn : n < 128) (c : gr x 175 0 = some 176) (w : WR x l B) (hB : B < 2400) (k : ∀ y, WFr x y → WR y (l ++ [n]) (B + 1) → Q y) : mSV mX6_putSign [.ref 175, .int (nI n)] KW x Q := by
  have hl := w.2.2
  refine v_X6_putSign_0 k175 c k176 ⟨fun z => absurd (by rw [w.1] at z; exact z) (nI_ge (b := 2400) (by omega) (by decide)), fun _ => ?_⟩
  rw [w.1, nI_clamp (by omega), b8 n hn, b8 n hn]
  refine ⟨vp_in_nI (by omega) (by decide), fun r hr => ?_⟩
  have er : r = nI l.length := by rw [hr, gi_ui, if_neg (by omega)]; exact w.1
  rw [er, nI_1]
  refine k _ ⟨rfl, fun a j a1 a2 => by rw [gi_ui, if_neg a2, gi_ui, if_neg (fun u => a1 u.1)]⟩ ⟨?_, fun i hi => ?_, ?_⟩
  · rw [gi_ui, if_pos ⟨rfl, rfl⟩, List.length_append]; rfl
  · rw [List.length_append] at hi
    have hi : i < l.length + 1 := hi
    rw [gi_ui, if_neg (by omega), gi_ui]
    by_cases c1 : i = l.length
    · rw [if_pos ⟨rfl, c1⟩, gD_r (by omega), c1, Nat.sub_self]; exact ⟨rfl, hn⟩
    · rw [if_neg (fun u => c1 u.2), gD_l (by omega)]; exact w.2.1 i (by omega)
  · rw [List.length_append]; show l.length + 1 ≤ B + 1; omega
end
set_option maxHeartbeats 2000000 in
theorem v_X6_putBlank_0 {K : Sh} {x : Cn} {Q : Cn → Prop} {b0 : Nat} {b0_0 : Nat} {n_b0_0 : Nat} (k_b0 : kk K b0 = some (6, 0)) (g_b0_0 : gr x b0 0 = some b0_0) (k_b0_0 : kk K b0_0 = some (21, n_b0_0)) (K0 : ((gi x b0 1) ≤ 0 → (Q x)) ∧ (¬ (gi x b0 1) ≤ 0 → (vp_in ((gi x b0 1) - 1) n_b0_0 ∧ (((97 ≤ (gi x b0_0 (((gi x b0 1) - 1) : Int32).toNatClampNeg) ∧ (gi x b0_0 (((gi x b0 1) - 1) : Int32).toNatClampNeg) ≤ 122) → (mSV mX6_putSign [.ref b0, .int 32] K x (fun y_4 => Q y_4))) ∧ (¬ (97 ≤ (gi x b0_0 (((gi x b0 1) - 1) : Int32).toNatClampNeg) ∧ (gi x b0_0 (((gi x b0 1) - 1) : Int32).toNatClampNeg) ≤ 122) → ((¬ (48 ≤ (gi x b0_0 (((gi x b0 1) - 1) : Int32).toNatClampNeg) ∧ (gi x b0_0 (((gi x b0 1) - 1) : Int32).toNatClampNeg) ≤ 57) → (Q x)) ∧ ((48 ≤ (gi x b0_0 (((gi x b0 1) - 1) : Int32).toNatClampNeg) ∧ (gi x b0_0 (((gi x b0 1) - 1) : Int32).toNatClampNeg) ≤ 57) → (mSV mX6_putSign [.ref b0, .int 32] K x (fun y_6 => Q y_6))))))))) : mSV mX6_putBlank [.ref b0] K x Q := by
  refine s_V (by decide) (by simp [Value.category]) (Nat.le_of_ble_eq_true rfl) ?_
  show mGM mX6_putBlank 0 [some (.ref b0)] [] (hp K x) (PV K Q)
  refine r_aload_n (pc := 0) dX6_putBlank_0 rfl ?_
  refine s_getI (pc := 1) dX6_putBlank_1 fl_X6_15 rfl k_b0 ?_
  refine r_if_le (pc := 4) (tgt := 47) dX6_putBlank_4 (by decide) (fun q => ?_) (fun q => ?_)
  · have K0 := K0.1 q
    exact s_ret rfl dX6_putBlank_47 K0
  · have K0 := K0.2 q
    refine r_aload_n (pc := 7) dX6_putBlank_7 rfl ?_
    refine s_getR (pc := 8) dX6_putBlank_8 fl_X6_9 rfl k_b0 g_b0_0 ?_
    refine r_aload_n (pc := 11) dX6_putBlank_11 rfl ?_
    refine s_getI (pc := 12) dX6_putBlank_12 fl_X6_15 rfl k_b0 ?_
    refine r_iconst (pc := 15) (v := 1) dX6_putBlank_15 (by decide) ?_
    refine r_isub (pc := 16) dX6_putBlank_16 ?_
    obtain ⟨i_2, K0⟩ := K0
    refine s_bald (pc := 17) dX6_putBlank_17 k_b0_0 i_2 ?_
    refine s_SNI (pc := 18) mX7_isLetter (As := [.int (gi x b0_0 (((gi x b0 1) - 1) : Int32).toNatClampNeg)]) dX6_putBlank_18 nl_X6_151 st_X7_isLetter mo_X7_isLetter ⟨by decide, by decide⟩ (Nat.le_of_ble_eq_true rfl) (sp_X7_isLetter  ?_)
    refine r_if_ne (pc := 21) (tgt := 41) dX6_putBlank_21 (by decide) (fun q => ?_) (fun q => ?_)
    · have q := b2i_nz q
      have K0 := K0.1 q
      refine r_aload_n (pc := 41) dX6_putBlank_41 rfl ?_
      refine r_bipush (pc := 42) (v := 32) dX6_putBlank_42 (by decide) ?_
      refine s_VV (pc := 44) mX6_putSign (ci := 6) (a := b0) (As := [.int 32]) dX6_putBlank_44 lk_X6_32 in_X6_putSign mo_X6_putSign ⟨by decide, rfl⟩ ⟨by decide, by decide⟩ (Nat.le_of_ble_eq_true rfl) k_b0 (mSV_mono K0 (fun y_4 K0 => ?_))
      exact s_ret rfl dX6_putBlank_47 K0
    · have q := (b2i_z _).mp q
      have K0 := K0.2 q
      refine r_aload_n (pc := 24) dX6_putBlank_24 rfl ?_
      refine s_getR (pc := 25) dX6_putBlank_25 fl_X6_9 rfl k_b0 g_b0_0 ?_
      refine r_aload_n (pc := 28) dX6_putBlank_28 rfl ?_
      refine s_getI (pc := 29) dX6_putBlank_29 fl_X6_15 rfl k_b0 ?_
      refine r_iconst (pc := 32) (v := 1) dX6_putBlank_32 (by decide) ?_
      refine r_isub (pc := 33) dX6_putBlank_33 ?_
      refine s_bald (pc := 34) dX6_putBlank_34 k_b0_0 i_2 ?_
      refine s_SNI (pc := 35) mX7_isDigit (As := [.int (gi x b0_0 (((gi x b0 1) - 1) : Int32).toNatClampNeg)]) dX6_putBlank_35 nl_X6_155 st_X7_isDigit mo_X7_isDigit ⟨by decide, by decide⟩ (Nat.le_of_ble_eq_true rfl) (sp_X7_isDigit  ?_)
      refine r_if_eq (pc := 38) (tgt := 47) dX6_putBlank_38 (by decide) (fun q => ?_) (fun q => ?_)
      · have q := (b2i_z _).mp q
        have K0 := K0.1 q
        exact s_ret rfl dX6_putBlank_47 K0
      · have q := b2i_nz q
        have K0 := K0.2 q
        refine r_aload_n (pc := 41) dX6_putBlank_41 rfl ?_
        refine r_bipush (pc := 42) (v := 32) dX6_putBlank_42 (by decide) ?_
        refine s_VV (pc := 44) mX6_putSign (ci := 6) (a := b0) (As := [.int 32]) dX6_putBlank_44 lk_X6_32 in_X6_putSign mo_X6_putSign ⟨by decide, rfl⟩ ⟨by decide, by decide⟩ (Nat.le_of_ble_eq_true rfl) k_b0 (mSV_mono K0 (fun y_6 K0 => ?_))
        exact s_ret rfl dX6_putBlank_47 K0
section
variable {x : Cn} {Q : Cn → Prop} {l : List Nat} {B : Nat}
theorem sp_X6_putBlank (c : gr x 175 0 = some 176) (w : WR x l B) (hB : B < 2400) (k : ∀ y, WFr x y → WR y (l ++ bl l) (B + 1) → Q y) : mSV mX6_putBlank [.ref 175] KW x Q := by
  have hl := w.2.2
  have no : ¬ aln (lst l) → Q x := fun h => by
    refine k x (WFr.rf x) ?_
    unfold bl
    rw [if_neg h, List.append_nil]
    exact w.le (by omega)
  have yes : aln (lst l) → mSV mX6_putSign [.ref 175, .int 32] KW x (fun y => Q y) := fun h => by
    refine sp_X6_putSign (n := 32) (by decide) c w hB (fun y fy wy => k y fy ?_)
    unfold bl
    rw [if_pos h]
    exact wy
  refine v_X6_putBlank_0 k175 c k176 ?_
  rw [w.1]
  by_cases c0 : l.length = 0
  · refine ⟨fun _ => no ?_, fun z => absurd (by rw [c0]; decide) z⟩
    have : l = [] := List.eq_nil_of_length_eq_zero c0
    rw [this]
    decide
  · rw [show nI l.length - 1 = nI (l.length - 1) from pk_sub (b := 1) (by omega), nI_clamp (by omega)]
    have hb := w.2.1 (l.length - 1) (by omega)
    rw [hb.1]
    have hb2 : lst l < 128 := hb.2
    have e1 : (97 ≤ nI (l.getD (l.length - 1) 0) ∧ nI (l.getD (l.length - 1) 0) ≤ 122) ↔ (97 ≤ lst l ∧ lst l ≤ 122) := by
      rw [show (97 ≤ nI (l.getD (l.length - 1) 0)) ↔ 97 ≤ lst l from nI_leI (a := 97) (by decide) (by omega), show (nI (l.getD (l.length - 1) 0) ≤ 122) ↔ lst l ≤ 122 from nI_leI (b := 122) (by omega) (by decide)]
    have e2 : (48 ≤ nI (l.getD (l.length - 1) 0) ∧ nI (l.getD (l.length - 1) 0) ≤ 57) ↔ (48 ≤ lst l ∧ lst l ≤ 57) := by
      rw [show (48 ≤ nI (l.getD (l.length - 1) 0)) ↔ 48 ≤ lst l from nI_leI (a := 48) (by decide) (by omega), show (nI (l.getD (l.length - 1) 0) ≤ 57) ↔ lst l ≤ 57 from nI_leI (b := 57) (by omega) (by decide)]
    rw [e1, e2]
    exact ⟨fun z => absurd ((nI_leI (b := 0) (by omega) (by decide)).mp z) (by omega), fun _ => ⟨vp_in_nI (by omega) (by decide), fun z => yes (Or.inl z), fun z => ⟨fun z2 => no (fun u => u.elim z z2), fun z2 => yes (Or.inr z2)⟩⟩⟩
theorem n48 (m : Nat) : (48 : Int32) + nI m = nI (48 + m) := nI_add 48 m
end
set_option maxHeartbeats 2000000 in
theorem v_X6_putNumber_0 {K : Sh} {x : Cn} {Q : Cn → Prop} {b0 : Nat} {l1 : Int32}  (k_b0 : kk K b0 = some (6, 0)) (K0 : mSV mX6_putBlank [.ref b0] K x (fun y_1 => (l1 < 10 → (mSV mX6_putSign [.ref b0, .int ((((48 + (l1 - l1 / 10 * 10)) : Int32).toUInt32 % 65536).toInt32)] K y_1 (fun y_3 => Q y_3))) ∧ (¬ l1 < 10 → (mSV mX6_putSign [.ref b0, .int ((((48 + ((l1 / 10) - (l1 / 10) / 10 * 10)) : Int32).toUInt32 % 65536).toInt32)] K y_1 (fun y_4 => mSV mX6_putSign [.ref b0, .int ((((48 + (l1 - l1 / 10 * 10)) : Int32).toUInt32 % 65536).toInt32)] K y_4 (fun y_5 => Q y_5)))))) : mSV mX6_putNumber [.ref b0, .int l1] K x Q := by
  refine s_V (by decide) (by simp [Value.category]) (Nat.le_of_ble_eq_true rfl) ?_
  show mGM mX6_putNumber 0 [some (.ref b0), some (.int l1)] [] (hp K x) (PV K Q)
  refine r_aload_n (pc := 0) dX6_putNumber_0 rfl ?_
  refine s_VV (pc := 1) mX6_putBlank (ci := 6) (a := b0) (As := []) dX6_putNumber_1 lk_X6_132 in_X6_putBlank mo_X6_putBlank ⟨by decide, rfl⟩ ⟨by decide, by decide⟩ (Nat.le_of_ble_eq_true rfl) k_b0 (mSV_mono K0 (fun y_1 K0 => ?_))
  refine r_iload_n (pc := 4) dX6_putNumber_4 rfl ?_
  refine r_bipush (pc := 5) (v := 10) dX6_putNumber_5 (by decide) ?_
  refine r_icmp_lt (pc := 7) (tgt := 25) dX6_putNumber_7 (by decide) (fun q => ?_) (fun q => ?_)
  · have K0 := K0.1 q
    refine r_aload_n (pc := 25) dX6_putNumber_25 rfl ?_
    refine r_bipush (pc := 26) (v := 48) dX6_putNumber_26 (by decide) ?_
    refine r_iload_n (pc := 28) dX6_putNumber_28 rfl ?_
    refine r_bipush (pc := 29) (v := 10) dX6_putNumber_29 (by decide) ?_
    refine r_irem (pc := 31) dX6_putNumber_31 (by decide) ?_
    refine r_iadd (pc := 32) dX6_putNumber_32 ?_
    refine r_i2c (pc := 33) dX6_putNumber_33 ?_
    refine s_VV (pc := 34) mX6_putSign (ci := 6) (a := b0) (As := [.int ((((48 + (l1 - l1 / 10 * 10)) : Int32).toUInt32 % 65536).toInt32)]) dX6_putNumber_34 lk_X6_32 in_X6_putSign mo_X6_putSign ⟨by decide, rfl⟩ ⟨by decide, by decide⟩ (Nat.le_of_ble_eq_true rfl) k_b0 (mSV_mono K0 (fun y_3 K0 => ?_))
    exact s_ret rfl dX6_putNumber_37 K0
  · have K0 := K0.2 q
    refine r_aload_n (pc := 10) dX6_putNumber_10 rfl ?_
    refine r_bipush (pc := 11) (v := 48) dX6_putNumber_11 (by decide) ?_
    refine r_iload_n (pc := 13) dX6_putNumber_13 rfl ?_
    refine r_bipush (pc := 14) (v := 10) dX6_putNumber_14 (by decide) ?_
    refine r_idiv (pc := 16) dX6_putNumber_16 (by decide) ?_
    refine r_bipush (pc := 17) (v := 10) dX6_putNumber_17 (by decide) ?_
    refine r_irem (pc := 19) dX6_putNumber_19 (by decide) ?_
    refine r_iadd (pc := 20) dX6_putNumber_20 ?_
    refine r_i2c (pc := 21) dX6_putNumber_21 ?_
    refine s_VV (pc := 22) mX6_putSign (ci := 6) (a := b0) (As := [.int ((((48 + ((l1 / 10) - (l1 / 10) / 10 * 10)) : Int32).toUInt32 % 65536).toInt32)]) dX6_putNumber_22 lk_X6_32 in_X6_putSign mo_X6_putSign ⟨by decide, rfl⟩ ⟨by decide, by decide⟩ (Nat.le_of_ble_eq_true rfl) k_b0 (mSV_mono K0 (fun y_4 K0 => ?_))
    refine r_aload_n (pc := 25) dX6_putNumber_25 rfl ?_
    refine r_bipush (pc := 26) (v := 48) dX6_putNumber_26 (by decide) ?_
    refine r_iload_n (pc := 28) dX6_putNumber_28 rfl ?_
    refine r_bipush (pc := 29) (v := 10) dX6_putNumber_29 (by decide) ?_
    refine r_irem (pc := 31) dX6_putNumber_31 (by decide) ?_
    refine r_iadd (pc := 32) dX6_putNumber_32 ?_
    refine r_i2c (pc := 33) dX6_putNumber_33 ?_
    refine s_VV (pc := 34) mX6_putSign (ci := 6) (a := b0) (As := [.int ((((48 + (l1 - l1 / 10 * 10)) : Int32).toUInt32 % 65536).toInt32)]) dX6_putNumber_34 lk_X6_32 in_X6_putSign mo_X6_putSign ⟨by decide, rfl⟩ ⟨by decide, by decide⟩ (Nat.le_of_ble_eq_true rfl) k_b0 (mSV_mono K0 (fun y_5 K0 => ?_))
    exact s_ret rfl dX6_putNumber_37 K0
section
variable {x : Cn} {Q : Cn → Prop} {l : List Nat} {B : Nat}
theorem sp_X6_putNumber {n : Nat} (hn : n < 100) (c : gr x 175 0 = some 176) (w : WR x l B) (hB : B + 3 ≤ 2400) (k : ∀ y, WFr x y → WR y (l ++ bl l ++ numL n) (B + 3) → Q y) : mSV mX6_putNumber [.ref 175, .int (nI n)] KW x Q := by
  refine v_X6_putNumber_0 k175 (sp_X6_putBlank c w (by omega) (fun y fy wy => ?_))
  have cy : gr y 175 0 = some 176 := by unfold gr; rw [fy.1]; exact c
  have e1 : nI n - nI n / 10 * 10 = nI (n % 10) := pk_rem (d := 10) (by omega) (by decide) (by decide)
  have e2 : nI n / 10 = nI (n / 10) := pk_div (d := 10) (by omega) (by decide) (by decide)
  have e3 : nI (n / 10) - nI (n / 10) / 10 * 10 = nI (n / 10 % 10) := pk_rem (d := 10) (by omega) (by decide) (by decide)
  rw [e1, e2, e3, n48, n48, b16 _ (by omega), b16 _ (by omega), show nI n < 10 ↔ n < 10 from nI_ltI (b := 10) (by omega) (by decide)]
  refine ⟨fun z => sp_X6_putSign (by omega) cy wy (by omega) (fun v fv wv => k v (fy.tr fv) ?_), fun z => sp_X6_putSign (by omega) cy wy (by omega) (fun v fv wv => sp_X6_putSign (by omega) (by unfold gr; rw [fv.1]; exact cy) wv (by omega) (fun u fu wu => k u (fy.tr (fv.tr fu)) ?_))⟩
  · unfold numL
    rw [if_pos z]
    rw [show n % 10 = n by omega] at wv
    exact wv.le (by omega)
  · unfold numL
    rw [if_neg z]
    rw [show n / 10 % 10 = n / 10 by omega, List.append_assoc] at wu
    exact wu
end
set_option maxHeartbeats 2000000 in
theorem v_X6_putWord_0 {K : Sh} {x : Cn} {Q : Cn → Prop} {b0 : Nat} {j1 : Nat} {q1 : String × Nat × String × List Int32} (hj1 : mS[j1]? = some q1)  (k_b0 : kk K b0 = some (6, 0)) (K0 : mSV mX6_putBlank [.ref b0] K x (fun y_1 => GV mX6_putWord 6 [some (.ref b0), some (.ref (mSB + j1)), some (.int 0)] [] K y_1 Q)) : mSV mX6_putWord [.ref b0, .ref (mSB + j1)] K x Q := by
  refine s_V (by decide) (by simp [Value.category]) (Nat.le_of_ble_eq_true rfl) ?_
  show mGM mX6_putWord 0 [some (.ref b0), some (.ref (mSB + j1)), none] [] (hp K x) (PV K Q)
  refine r_aload_n (pc := 0) dX6_putWord_0 rfl ?_
  refine s_VV (pc := 1) mX6_putBlank (ci := 6) (a := b0) (As := []) dX6_putWord_1 lk_X6_132 in_X6_putBlank mo_X6_putBlank ⟨by decide, rfl⟩ ⟨by decide, by decide⟩ (Nat.le_of_ble_eq_true rfl) k_b0 (mSV_mono K0 (fun y_1 K0 => ?_))
  refine r_iconst (pc := 4) (v := 0) dX6_putWord_4 (by decide) ?_
  refine r_istore_n (pc := 5) dX6_putWord_5 (by decide) ?_
  exact r_le (L' := [some (.ref b0), some (.ref (mSB + j1)), some (.int 0)]) ⟨rfl, ⟨rfl, ⟨rfl, trivial⟩⟩⟩ K0
set_option maxHeartbeats 2000000 in
theorem v_X6_putWord_6 {K : Sh} {x : Cn} {Q : Cn → Prop} {b0 : Nat} {j1 : Nat} {q1 : String × Nat × String × List Int32} (hj1 : mS[j1]? = some q1) {l2 : Int32}  (k_b0 : kk K b0 = some (6, 0)) (K0 : ((nI q1.2.2.2.length) ≤ l2 → (Q x)) ∧ (¬ (nI q1.2.2.2.length) ≤ l2 → (∃ n_2 : Nat, l2 = nI n_2 ∧ (n_2 < q1.2.2.2.length ∧ (mSV mX6_putSign [.ref b0, .int (q1.2.2.2.getD n_2 0)] K x (fun y_3 => GV mX6_putWord 6 [some (.ref b0), some (.ref (mSB + j1)), some (.int (l2 + 1))] [] K y_3 Q)))))) : GV mX6_putWord 6 [some (.ref b0), some (.ref (mSB + j1)), some (.int l2)] [] K x Q := by
  show mGM mX6_putWord 6 [some (.ref b0), some (.ref (mSB + j1)), some (.int l2)] [] (hp K x) (PV K Q)
  refine r_iload_n (pc := 6) dX6_putWord_6 rfl ?_
  refine r_aload_n (pc := 7) dX6_putWord_7 rfl ?_
  refine s_VIs (pc := 8) mJ0_length_8abf5 (j := j1) (q := q1) (As := []) dX6_putWord_8 lk_X6_148 in_J0_length_8abf5 mo_J0_length_8abf5 hj1 rfl ⟨by decide, by decide⟩ (Nat.le_of_ble_eq_true rfl) (sp_len hj1 ?_)
  refine r_icmp_ge (pc := 11) (tgt := 29) dX6_putWord_11 (by decide) (fun q => ?_) (fun q => ?_)
  · have K0 := K0.1 q
    exact s_ret rfl dX6_putWord_29 K0
  · have K0 := K0.2 q
    refine r_aload_n (pc := 14) dX6_putWord_14 rfl ?_
    refine r_aload_n (pc := 15) dX6_putWord_15 rfl ?_
    refine r_iload_n (pc := 16) dX6_putWord_16 rfl ?_
    obtain ⟨n_2, en_2, un_2, K0⟩ := K0
    refine s_VIs (pc := 17) mJ0_charAt_5068e (j := j1) (q := q1) (As := [.int l2]) dX6_putWord_17 lk_X6_137 in_J0_charAt_5068e mo_J0_charAt_5068e hj1 rfl ⟨by decide, by decide⟩ (Nat.le_of_ble_eq_true rfl) (sp_chv hj1 en_2 un_2 ?_)
    refine s_VV (pc := 20) mX6_putSign (ci := 6) (a := b0) (As := [.int (q1.2.2.2.getD n_2 0)]) dX6_putWord_20 lk_X6_32 in_X6_putSign mo_X6_putSign ⟨by decide, rfl⟩ ⟨by decide, by decide⟩ (Nat.le_of_ble_eq_true rfl) k_b0 (mSV_mono K0 (fun y_3 K0 => ?_))
    refine r_iinc (pc := 23) (v := l2 + 1) dX6_putWord_23 rfl rfl (by decide) ?_
    refine r_goto (pc := 26) (L := [some (.ref b0), some (.ref (mSB + j1)), some (.int (l2 + 1))]) (tgt := 6) dX6_putWord_26 (by decide) ?_
    exact r_le (L' := [some (.ref b0), some (.ref (mSB + j1)), some (.int (l2 + 1))]) ⟨rfl, ⟨rfl, ⟨rfl, trivial⟩⟩⟩ K0
section
variable {x : Cn} {Q : Cn → Prop} {l : List Nat} {B : Nat}
theorem sp_X6_putWord {j m : Nat} {q : String × Nat × String × List Int32} (hj : mS[j]? = some q) (hm : q.2.2.2.length ≤ m) (c : gr x 175 0 = some 176) (w : WR x l B) (hB : B + 1 + m ≤ 2400) (k : ∀ y, WFr x y → WR y (l ++ bl l ++ wq q) (B + 1 + m) → Q y) : mSV mX6_putWord [.ref 175, .ref (mSB + j)] KW x Q := by
  refine v_X6_putWord_0 hj k175 (sp_X6_putBlank c w (by omega) (fun y fy wy => ?_))
  have key : ∀ r n v, n + r = q.2.2.2.length → WFr x v → WR v (l ++ bl l ++ (wq q).take n) (B + 1 + n) → GV mX6_putWord 6 [some (.ref 175), some (.ref (mSB + j)), some (.int (nI n))] [] KW v Q := by
    intro r
    induction r with
    | zero =>
      intro n v hn fv wv
      refine v_X6_putWord_6 hj k175 ⟨fun _ => k v fv ?_, fun z => absurd (nI_le (by omega) (by omega)) z⟩
      rw [List.take_of_length_le (by rw [wq_len]; omega)] at wv
      exact wv.le (by omega)
    | succ r ih =>
      intro n v hn fv wv
      have ha := wq_at hj (n := n) (by omega)
      refine v_X6_putWord_6 hj k175 ⟨fun z => absurd z (nI_ge (by omega) (by omega)), fun _ => ⟨n, rfl, by omega, ?_⟩⟩
      rw [ha.1, nI_1]
      refine sp_X6_putSign ha.2 (by unfold gr; rw [fv.1]; exact c) wv (by omega) (fun u fu wu => ih (n + 1) u (by omega) (fv.tr fu) ?_)
      have e : (wq q).take (n + 1) = (wq q).take n ++ [(wq q).getD n 0] := by
        rw [List.take_add_one, List.getD_eq_getElem?_getD, List.getElem?_eq_getElem (by rw [wq_len]; omega)]
        rfl
      rw [e, ← List.append_assoc]
      exact wu
  exact key q.2.2.2.length 0 y (by omega) fy (by rw [List.take_zero, List.append_nil]; exact wy)
end
set_option maxHeartbeats 2000000 in
theorem v_X6_putName_0 {K : Sh} {x : Cn} {Q : Cn → Prop} {b0 : Nat} {b1 : Nat} {l2 : Int32}  (k_b0 : kk K b0 = some (6, 0)) (K0 : mSV mX6_putBlank [.ref b0] K x (fun y_1 => GV mX6_putName 6 [some (.ref b0), some (.ref b1), some (.int l2), some (.int 0), none] [] K y_1 Q)) : mSV mX6_putName [.ref b0, .ref b1, .int l2] K x Q := by
  refine s_V (by decide) (by simp [Value.category]) (Nat.le_of_ble_eq_true rfl) ?_
  show mGM mX6_putName 0 [some (.ref b0), some (.ref b1), some (.int l2), none, none] [] (hp K x) (PV K Q)
  refine r_aload_n (pc := 0) dX6_putName_0 rfl ?_
  refine s_VV (pc := 1) mX6_putBlank (ci := 6) (a := b0) (As := []) dX6_putName_1 lk_X6_132 in_X6_putBlank mo_X6_putBlank ⟨by decide, rfl⟩ ⟨by decide, by decide⟩ (Nat.le_of_ble_eq_true rfl) k_b0 (mSV_mono K0 (fun y_1 K0 => ?_))
  refine r_iconst (pc := 4) (v := 0) dX6_putName_4 (by decide) ?_
  refine r_istore_n (pc := 5) dX6_putName_5 (by decide) ?_
  exact r_le (L' := [some (.ref b0), some (.ref b1), some (.int l2), some (.int 0), none]) ⟨rfl, ⟨rfl, ⟨rfl, ⟨rfl, trivial⟩⟩⟩⟩ K0
set_option maxHeartbeats 2000000 in
theorem v_X6_putName_6 {K : Sh} {x : Cn} {Q : Cn → Prop} {b0 : Nat} {b1 : Nat} {l2 : Int32} {l3 : Int32}  (k_b1 : kk K b1 = some (1, 0)) (k_b0 : kk K b0 = some (6, 0)) (K0 : (6 ≤ l3 → (Q x)) ∧ (¬ 6 ≤ l3 → (mSI mX1_letterOf [.ref b1, .int l2, .int l3] K x (fun r_3 y_2 => (r_3 ≤ 0 → (GV mX6_putName 6 [some (.ref b0), some (.ref b1), some (.int l2), some (.int (l3 + 1)), none] [] K y_2 Q)) ∧ (¬ r_3 ≤ 0 → (mSV mX6_putSign [.ref b0, .int (((((97 + r_3) - 1) : Int32).toUInt32 % 65536).toInt32)] K y_2 (fun y_5 => GV mX6_putName 6 [some (.ref b0), some (.ref b1), some (.int l2), some (.int (l3 + 1)), none] [] K y_5 Q))))))) : GV mX6_putName 6 [some (.ref b0), some (.ref b1), some (.int l2), some (.int l3), none] [] K x Q := by
  show mGM mX6_putName 6 [some (.ref b0), some (.ref b1), some (.int l2), some (.int l3), none] [] (hp K x) (PV K Q)
  refine r_iload_n (pc := 6) dX6_putName_6 rfl ?_
  refine r_bipush (pc := 7) (v := 6) dX6_putName_7 (by decide) ?_
  refine r_icmp_ge (pc := 9) (tgt := 43) dX6_putName_9 (by decide) (fun q => ?_) (fun q => ?_)
  · have K0 := K0.1 q
    exact s_ret rfl dX6_putName_43 K0
  · have K0 := K0.2 q
    refine r_aload_n (pc := 12) dX6_putName_12 rfl ?_
    refine r_iload_n (pc := 13) dX6_putName_13 rfl ?_
    refine r_iload_n (pc := 14) dX6_putName_14 rfl ?_
    refine s_VI (pc := 15) mX1_letterOf (ci := 1) (a := b1) (As := [.int l2, .int l3]) dX6_putName_15 lk_X6_144 in_X1_letterOf mo_X1_letterOf ⟨by decide, rfl⟩ ⟨by decide, by decide⟩ (Nat.le_of_ble_eq_true rfl) k_b1 (mSI_mono K0 (fun r_3 y_2 K0 => ?_))
    refine r_istore (pc := 18) dX6_putName_18 (by decide) ?_
    refine r_iload (pc := 20) (L := [some (.ref b0), some (.ref b1), some (.int l2), some (.int l3), some (.int r_3)]) dX6_putName_20 rfl ?_
    refine r_if_le (pc := 22) (tgt := 37) dX6_putName_22 (by decide) (fun q => ?_) (fun q => ?_)
    · have K0 := K0.1 q
      refine r_iinc (pc := 37) (v := l3 + 1) dX6_putName_37 rfl rfl (by decide) ?_
      refine r_goto (pc := 40) (L := [some (.ref b0), some (.ref b1), some (.int l2), some (.int (l3 + 1)), some (.int r_3)]) (tgt := 6) dX6_putName_40 (by decide) ?_
      exact r_le (L' := [some (.ref b0), some (.ref b1), some (.int l2), some (.int (l3 + 1)), none]) ⟨rfl, ⟨rfl, ⟨rfl, ⟨rfl, trivial⟩⟩⟩⟩ K0
    · have K0 := K0.2 q
      refine r_aload_n (pc := 25) dX6_putName_25 rfl ?_
      refine r_bipush (pc := 26) (v := 97) dX6_putName_26 (by decide) ?_
      refine r_iload (pc := 28) dX6_putName_28 rfl ?_
      refine r_iadd (pc := 30) dX6_putName_30 ?_
      refine r_iconst (pc := 31) (v := 1) dX6_putName_31 (by decide) ?_
      refine r_isub (pc := 32) dX6_putName_32 ?_
      refine r_i2c (pc := 33) dX6_putName_33 ?_
      refine s_VV (pc := 34) mX6_putSign (ci := 6) (a := b0) (As := [.int (((((97 + r_3) - 1) : Int32).toUInt32 % 65536).toInt32)]) dX6_putName_34 lk_X6_32 in_X6_putSign mo_X6_putSign ⟨by decide, rfl⟩ ⟨by decide, by decide⟩ (Nat.le_of_ble_eq_true rfl) k_b0 (mSV_mono K0 (fun y_5 K0 => ?_))
      refine r_iinc (pc := 37) (v := l3 + 1) dX6_putName_37 rfl rfl (by decide) ?_
      refine r_goto (pc := 40) (L := [some (.ref b0), some (.ref b1), some (.int l2), some (.int (l3 + 1)), some (.int r_3)]) (tgt := 6) dX6_putName_40 (by decide) ?_
      exact r_le (L' := [some (.ref b0), some (.ref b1), some (.int l2), some (.int (l3 + 1)), none]) ⟨rfl, ⟨rfl, ⟨rfl, ⟨rfl, trivial⟩⟩⟩⟩ K0
section
variable {x : Cn} {Q : Cn → Prop} {l : List Nat} {B : Nat}
theorem sp_X6_putName {cr v : Nat} (hc : cr < 8) (hv : ∀ i, i < 6 → gi x 57 (6 * cr + i) = nI (dg v i)) (c : gr x 175 0 = some 176) (c2 : gr x 56 1 = some 57) (w : WR x l B) (hB : B + 7 ≤ 2400) (k : ∀ y, WFr x y → WR y (l ++ bl l ++ nmL v) (B + 7) → Q y) : mSV mX6_putName [.ref 175, .ref 56, .int (nI cr)] KW x Q := by
  refine v_X6_putName_0 k175 (sp_X6_putBlank c w (by omega) (fun y fy wy => ?_))
  have kn : kk KW 56 = some (1, 0) := by decide
  have key : GV mX6_putName 6 [some (.ref 175), some (.ref 56), some (.int (nI cr)), some (.int (nI 0)), none] [] KW y Q := by
    refine lp_acc (nmS v) (fun i l' => ∀ z, WFr x z → WR z l' (B + 1 + i) → GV mX6_putName 6 [some (.ref 175), some (.ref 56), some (.int (nI cr)), some (.int (nI i)), none] [] KW z Q) 6 (l ++ bl l) ?_ (fun i l' hi n1 => ?_) y fy wy
    · intro z fz wz
      refine v_X6_putName_6 kn k175 ⟨fun _ => k z fz ?_, fun u => absurd (by decide) u⟩
      rw [nm_acc] at wz
      exact wz
    · intro z fz wz
      have hd := dg_lt v i
      refine v_X6_putName_6 kn k175 ⟨fun u => absurd u (nI_ge (b := 6) hi (by decide)), fun _ => sp_X1_letterOf kn (by unfold gr; rw [fz.1]; exact c2) (by decide) hc hi ?_⟩
      rw [fz.2 57 _ (by decide) (by omega), hv i hi, nI_1, show nI (dg v i) ≤ 0 ↔ dg v i ≤ 0 from nI_leI (b := 0) (by omega) (by decide), show (97 + nI (dg v i)) - 1 = nI (96 + dg v i) from (by rw [show (97 : Int32) + nI (dg v i) = nI (97 + dg v i) from nI_add 97 _, show nI (97 + dg v i) - 1 = nI (97 + dg v i - 1) from pk_sub (b := 1) (by omega)]; congr 1; omega), b16 _ (by omega)]
      refine ⟨fun u => n1 l' ?_ z fz (wz.le (by omega)), fun u => sp_X6_putSign (by omega) (by unfold gr; rw [fz.1]; exact c) wz (by omega) (fun z2 f2 w2 => n1 _ ?_ z2 (fz.tr f2) w2)⟩
      · unfold nmS; rw [if_pos (by omega)]
      · unfold nmS; rw [if_neg (by omega)]
  exact key
end
set_option maxHeartbeats 2000000 in
theorem v_X6_putSpan_0 {K : Sh} {x : Cn} {Q : Cn → Prop} {b0 : Nat} {l1 : Int32} {l2 : Int32}  (k_b0 : kk K b0 = some (6, 0)) (K0 : mSV mX6_putNumber [.ref b0, .int l1] K x (fun y_1 => mSV mX6_putSign [.ref b0, .int 45] K y_1 (fun y_2 => mSV mX6_putNumber [.ref b0, .int l2] K y_2 (fun y_3 => Q y_3)))) : mSV mX6_putSpan [.ref b0, .int l1, .int l2] K x Q := by
  refine s_V (by decide) (by simp [Value.category]) (Nat.le_of_ble_eq_true rfl) ?_
  show mGM mX6_putSpan 0 [some (.ref b0), some (.int l1), some (.int l2)] [] (hp K x) (PV K Q)
  refine r_aload_n (pc := 0) dX6_putSpan_0 rfl ?_
  refine r_iload_n (pc := 1) dX6_putSpan_1 rfl ?_
  refine s_VV (pc := 2) mX6_putNumber (ci := 6) (a := b0) (As := [.int l1]) dX6_putSpan_2 lk_X6_28 in_X6_putNumber mo_X6_putNumber ⟨by decide, rfl⟩ ⟨by decide, by decide⟩ (Nat.le_of_ble_eq_true rfl) k_b0 (mSV_mono K0 (fun y_1 K0 => ?_))
  refine r_aload_n (pc := 5) dX6_putSpan_5 rfl ?_
  refine r_bipush (pc := 6) (v := 45) dX6_putSpan_6 (by decide) ?_
  refine s_VV (pc := 8) mX6_putSign (ci := 6) (a := b0) (As := [.int 45]) dX6_putSpan_8 lk_X6_32 in_X6_putSign mo_X6_putSign ⟨by decide, rfl⟩ ⟨by decide, by decide⟩ (Nat.le_of_ble_eq_true rfl) k_b0 (mSV_mono K0 (fun y_2 K0 => ?_))
  refine r_aload_n (pc := 11) dX6_putSpan_11 rfl ?_
  refine r_iload_n (pc := 12) dX6_putSpan_12 rfl ?_
  refine s_VV (pc := 13) mX6_putNumber (ci := 6) (a := b0) (As := [.int l2]) dX6_putSpan_13 lk_X6_28 in_X6_putNumber mo_X6_putNumber ⟨by decide, rfl⟩ ⟨by decide, by decide⟩ (Nat.le_of_ble_eq_true rfl) k_b0 (mSV_mono K0 (fun y_3 K0 => ?_))
  exact s_ret rfl dX6_putSpan_16 K0
section
variable {x : Cn} {Q : Cn → Prop} {l : List Nat} {B : Nat}
theorem sp_X6_putSpan {a b : Nat} (ha : a < 100) (hb : b < 100) (c : gr x 175 0 = some 176) (w : WR x l B) (hB : B + 7 ≤ 2400) (k : ∀ y, WFr x y → WR y (l ++ bl l ++ numL a ++ [45] ++ numL b) (B + 7) → Q y) : mSV mX6_putSpan [.ref 175, .int (nI a), .int (nI b)] KW x Q := by
  have cg : ∀ y : Cn, WFr x y → gr y 175 0 = some 176 := fun y fy => by unfold gr; rw [fy.1]; exact c
  refine v_X6_putSpan_0 k175 (sp_X6_putNumber ha c w (by omega) (fun y fy wy => sp_X6_putSign (n := 45) (by decide) (cg y fy) wy (by omega) (fun u fu wu => sp_X6_putNumber hb (cg u (fy.tr fu)) wu (by omega) (fun v fv wv => k v (fy.tr (fu.tr fv)) ?_))))
  rw [bl_1 _ (by decide), List.append_nil] at wv
  exact wv
end
set_option maxHeartbeats 2000000 in
theorem v_X6_putPlace_0 {K : Sh} {x : Cn} {Q : Cn → Prop} {b0 : Nat} {l1 : Int32} {l2 : Int32} {l3 : Int32}  (k_b0 : kk K b0 = some (6, 0)) (K0 : mSV mX6_putBlank [.ref b0] K x (fun y_1 => GV mX6_putPlace 7 [some (.ref b0), some (.int l1), some (.int l2), some (.int l3), some (.int 0)] [] K y_1 Q)) : mSV mX6_putPlace [.ref b0, .int l1, .int l2, .int l3] K x Q := by
  refine s_V (by decide) (by simp [Value.category]) (Nat.le_of_ble_eq_true rfl) ?_
  show mGM mX6_putPlace 0 [some (.ref b0), some (.int l1), some (.int l2), some (.int l3), none] [] (hp K x) (PV K Q)
  refine r_aload_n (pc := 0) dX6_putPlace_0 rfl ?_
  refine s_VV (pc := 1) mX6_putBlank (ci := 6) (a := b0) (As := []) dX6_putPlace_1 lk_X6_132 in_X6_putBlank mo_X6_putBlank ⟨by decide, rfl⟩ ⟨by decide, by decide⟩ (Nat.le_of_ble_eq_true rfl) k_b0 (mSV_mono K0 (fun y_1 K0 => ?_))
  refine r_iconst (pc := 4) (v := 0) dX6_putPlace_4 (by decide) ?_
  refine r_istore (pc := 5) dX6_putPlace_5 (by decide) ?_
  exact r_le (L' := [some (.ref b0), some (.int l1), some (.int l2), some (.int l3), some (.int 0)]) ⟨rfl, ⟨rfl, ⟨rfl, ⟨rfl, ⟨rfl, trivial⟩⟩⟩⟩⟩ K0
set_option maxHeartbeats 2000000 in
theorem v_X6_putPlace_7 {K : Sh} {x : Cn} {Q : Cn → Prop} {b0 : Nat} {l1 : Int32} {l2 : Int32} {l3 : Int32} {l4 : Int32}  (k_b0 : kk K b0 = some (6, 0)) (K0 : (3 ≤ l4 → (mSV mX6_putNumber [.ref b0, .int l2] K x (fun y_2 => (¬ l3 = 0 → (mSV mX6_putWord [.ref b0, .ref (mSB + 7)] K y_2 (fun y_4 => Q y_4))) ∧ (l3 = 0 → (mSV mX6_putWord [.ref b0, .ref (mSB + 3)] K y_2 (fun y_5 => Q y_5)))))) ∧ (¬ 3 ≤ l4 → (∃ n_6 : Nat, ((l1 * 4) + l4) = nI n_6 ∧ (n_6 < (mSq 6).2.2.2.length ∧ (mSV mX6_putSign [.ref b0, .int ((mSq 6).2.2.2.getD n_6 0)] K x (fun y_7 => GV mX6_putPlace 7 [some (.ref b0), some (.int l1), some (.int l2), some (.int l3), some (.int (l4 + 1))] [] K y_7 Q)))))) : GV mX6_putPlace 7 [some (.ref b0), some (.int l1), some (.int l2), some (.int l3), some (.int l4)] [] K x Q := by
  show mGM mX6_putPlace 7 [some (.ref b0), some (.int l1), some (.int l2), some (.int l3), some (.int l4)] [] (hp K x) (PV K Q)
  refine r_iload (pc := 7) dX6_putPlace_7 rfl ?_
  refine r_iconst (pc := 9) (v := 3) dX6_putPlace_9 (by decide) ?_
  refine r_icmp_ge (pc := 10) (tgt := 34) dX6_putPlace_10 (by decide) (fun q => ?_) (fun q => ?_)
  · have K0 := K0.1 q
    refine r_aload_n (pc := 34) dX6_putPlace_34 rfl ?_
    refine r_iload_n (pc := 35) dX6_putPlace_35 rfl ?_
    refine s_VV (pc := 36) mX6_putNumber (ci := 6) (a := b0) (As := [.int l2]) dX6_putPlace_36 lk_X6_28 in_X6_putNumber mo_X6_putNumber ⟨by decide, rfl⟩ ⟨by decide, by decide⟩ (Nat.le_of_ble_eq_true rfl) k_b0 (mSV_mono K0 (fun y_2 K0 => ?_))
    refine r_aload_n (pc := 39) dX6_putPlace_39 rfl ?_
    refine r_iload_n (pc := 40) dX6_putPlace_40 rfl ?_
    refine r_if_ne (pc := 41) (tgt := 49) dX6_putPlace_41 (by decide) (fun q => ?_) (fun q => ?_)
    · have K0 := K0.1 q
      refine r_ldcS (pc := 49) (j := 7) dX6_putPlace_49 rfl ?_
      refine s_VV (pc := 51) mX6_putWord (ci := 6) (a := b0) (As := [.ref (mSB + 7)]) dX6_putPlace_51 lk_X6_21 in_X6_putWord mo_X6_putWord ⟨by decide, rfl⟩ ⟨by decide, by decide⟩ (Nat.le_of_ble_eq_true rfl) k_b0 (mSV_mono K0 (fun y_4 K0 => ?_))
      exact s_ret rfl dX6_putPlace_54 K0
    · have K0 := K0.2 q
      refine r_ldcS (pc := 44) (j := 3) dX6_putPlace_44 rfl ?_
      refine r_goto (pc := 46) (tgt := 51) dX6_putPlace_46 (by decide) ?_
      refine s_VV (pc := 51) mX6_putWord (ci := 6) (a := b0) (As := [.ref (mSB + 3)]) dX6_putPlace_51 lk_X6_21 in_X6_putWord mo_X6_putWord ⟨by decide, rfl⟩ ⟨by decide, by decide⟩ (Nat.le_of_ble_eq_true rfl) k_b0 (mSV_mono K0 (fun y_5 K0 => ?_))
      exact s_ret rfl dX6_putPlace_54 K0
  · have K0 := K0.2 q
    refine r_aload_n (pc := 13) dX6_putPlace_13 rfl ?_
    refine r_ldcS (pc := 14) (j := 6) dX6_putPlace_14 rfl ?_
    refine r_iload_n (pc := 16) dX6_putPlace_16 rfl ?_
    refine r_iconst (pc := 17) (v := 4) dX6_putPlace_17 (by decide) ?_
    refine r_imul (pc := 18) dX6_putPlace_18 ?_
    refine r_iload (pc := 19) dX6_putPlace_19 rfl ?_
    refine r_iadd (pc := 21) dX6_putPlace_21 ?_
    obtain ⟨n_6, en_6, un_6, K0⟩ := K0
    refine s_VIs (pc := 22) mJ0_charAt_5068e (j := 6) (q := (mSq 6)) (As := [.int ((l1 * 4) + l4)]) dX6_putPlace_22 lk_X6_137 in_J0_charAt_5068e mo_J0_charAt_5068e (mSq_at (k := 6) (by decide)) rfl ⟨by decide, by decide⟩ (Nat.le_of_ble_eq_true rfl) (sp_chv (mSq_at (k := 6) (by decide)) en_6 un_6 ?_)
    refine s_VV (pc := 25) mX6_putSign (ci := 6) (a := b0) (As := [.int ((mSq 6).2.2.2.getD n_6 0)]) dX6_putPlace_25 lk_X6_32 in_X6_putSign mo_X6_putSign ⟨by decide, rfl⟩ ⟨by decide, by decide⟩ (Nat.le_of_ble_eq_true rfl) k_b0 (mSV_mono K0 (fun y_7 K0 => ?_))
    refine r_iinc (pc := 28) (v := l4 + 1) dX6_putPlace_28 rfl rfl (by decide) ?_
    refine r_goto (pc := 31) (L := [some (.ref b0), some (.int l1), some (.int l2), some (.int l3), some (.int (l4 + 1))]) (tgt := 7) dX6_putPlace_31 (by decide) ?_
    exact r_le (L' := [some (.ref b0), some (.int l1), some (.int l2), some (.int l3), some (.int (l4 + 1))]) ⟨rfl, ⟨rfl, ⟨rfl, ⟨rfl, ⟨rfl, trivial⟩⟩⟩⟩⟩ K0
section
variable {x : Cn} {Q : Cn → Prop} {l : List Nat} {B : Nat}
theorem sp_X6_putPlace {d h : Nat} {way : Int32} (hd : d < 7) (hh : h < 100) (c : gr x 175 0 = some 176) (w : WR x l B) (hB : B + 11 ≤ 2400) (k : ∀ y, WFr x y → WR y (l ++ bl l ++ dayL d ++ [32] ++ numL h ++ [32] ++ (if way = 0 then wd 3 else wd 7)) (B + 11) → Q y) : mSV mX6_putPlace [.ref 175, .int (nI d), .int (nI h), .int way] KW x Q := by
  have cg : ∀ y : Cn, WFr x y → gr y 175 0 = some 176 := fun y fy => by unfold gr; rw [fy.1]; exact c
  have ix : ∀ i, (nI d * 4) + nI i = nI (4 * d + i) := fun i => by rw [show (4 : Int32) = nI 4 by decide, pk_mul, nI_add, Nat.mul_comm]
  have step : ∀ i (v : Cn) (G : Cn → Prop) l' B', i < 3 → WFr x v → WR v l' B' → B' < 2400 → (∀ u, WFr x u → WR u (l' ++ [dc d i]) (B' + 1) → G u) → ∃ n_6 : Nat, ((nI d * 4) + nI i) = nI n_6 ∧ (n_6 < (mSq 6).2.2.2.length ∧ mSV mX6_putSign [.ref 175, .int ((mSq 6).2.2.2.getD n_6 0)] KW v G) := by
    intro i v G l' B' hi fv wv hB' k'
    have ho := dc_ok d hd i hi
    refine ⟨4 * d + i, ix i, by show 4 * d + i < 73; omega, ?_⟩
    rw [ho.1]
    exact sp_X6_putSign (by omega) (cg v fv) wv hB' (fun u fu wu => k' u (fv.tr fu) wu)
  refine v_X6_putPlace_0 k175 (sp_X6_putBlank c w (by omega) (fun y fy wy => ?_))
  refine v_X6_putPlace_7 k175 ⟨fun z => absurd z (by decide), fun _ => step 0 y _ _ _ (by decide) fy wy (by omega) (fun y1 f1 w1 => ?_)⟩
  refine v_X6_putPlace_7 k175 ⟨fun z => absurd z (by decide), fun _ => step 1 y1 _ _ _ (by decide) f1 w1 (by omega) (fun y2 f2 w2 => ?_)⟩
  refine v_X6_putPlace_7 k175 ⟨fun z => absurd z (by decide), fun _ => step 2 y2 _ _ _ (by decide) f2 w2 (by omega) (fun y3 f3 w3 => ?_)⟩
  have e3 : l ++ bl l ++ [dc d 0] ++ [dc d 1] ++ [dc d 2] = l ++ bl l ++ dayL d := by simp [dayL, List.append_assoc]
  rw [e3] at w3
  refine v_X6_putPlace_7 k175 ⟨fun _ => sp_X6_putNumber hh (cg y3 f3) w3 (by omega) (fun y4 f4 w4 => ?_), fun z => absurd (by decide) z⟩
  rw [bl_day _ hd] at w4
  refine ⟨fun z => sp_X6_putWord (j := 7) (m := 3) (mSq_at (by decide)) (by decide) (cg y4 (f3.tr f4)) w4 (by omega) (fun y5 f5 w5 => k y5 (f3.tr (f4.tr f5)) ?_), fun z => sp_X6_putWord (j := 3) (m := 2) (mSq_at (by decide)) (by decide) (cg y4 (f3.tr f4)) w4 (by omega) (fun y5 f5 w5 => k y5 (f3.tr (f4.tr f5)) ?_)⟩
  · rw [bl_num _ hh] at w5
    rw [if_neg z]
    exact w5.le (by omega)
  · rw [bl_num _ hh] at w5
    rw [if_pos z]
    exact w5.le (by omega)
end

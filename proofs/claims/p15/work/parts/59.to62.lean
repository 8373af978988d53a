/-! 59.tell1.lean.txt -/
section
/-! what is told -/
def mSq (k : Nat) : String × Nat × String × List Int32 := mS.getD k ("", 0, "", [])
theorem mSq_at {k : Nat} (h : k < 37) : mS[k]? = some (mSq k) := by
  have hl : k < mS.length := h
  unfold mSq
  rw [List.getD_eq_getElem?_getD, List.getElem?_eq_getElem hl]
  rfl
theorem sp_chv {K : Sh} {x : Cn} {Q : Int32 → Cn → Prop} {j n : Nat} {q : String × Nat × String × List Int32} {v : Int32} (hj : mS[j]? = some q) (ev : v = nI n) (hn : n < q.2.2.2.length) (k : Q (q.2.2.2.getD n 0) x) : mSI mJ0_charAt_5068e [.ref (mSB + j), .int v] K x Q := by
  subst ev
  exact sp_ch hj hn k
def wq (q : String × Nat × String × List Int32) : List Nat := q.2.2.2.map Int32.toNatClampNeg
abbrev wd (k : Nat) : List Nat := wq (mSq k)
theorem wq_len (q : String × Nat × String × List Int32) : (wq q).length = q.2.2.2.length := List.length_map _
theorem wq_at {j n : Nat} {q : String × Nat × String × List Int32} (hj : mS[j]? = some q) (hn : n < q.2.2.2.length) : q.2.2.2.getD n 0 = nI ((wq q).getD n 0) ∧ (wq q).getD n 0 < 128 := by
  have hb := (mS_ok q (List.mem_of_getElem? hj)).2 (q.2.2.2.getD n 0) (by rw [List.getD_eq_getElem?_getD, List.getElem?_eq_getElem hn]; exact List.getElem_mem hn)
  have e : (wq q).getD n 0 = (q.2.2.2.getD n 0).toNatClampNeg := by
    unfold wq
    rw [List.getD_eq_getElem?_getD, List.getD_eq_getElem?_getD, List.getElem?_map, List.getElem?_eq_getElem hn]
    rfl
  obtain ⟨m, h1, h2⟩ := nI_of2 (M := 127) (n := 127) (by decide) (Int32.not_lt.mpr hb.2.1) hb.2.2
  rw [e, h2, nI_clamp (by omega)]
  exact ⟨rfl, by omega⟩
theorem gD_l {l m : List Nat} {i : Nat} (h : i < l.length) : (l ++ m).getD i 0 = l.getD i 0 := by
  rw [List.getD_eq_getElem?_getD, List.getD_eq_getElem?_getD, List.getElem?_append_left h]
theorem gD_r {l m : List Nat} {i : Nat} (h : l.length ≤ i) : (l ++ m).getD i 0 = m.getD (i - l.length) 0 := by
  rw [List.getD_eq_getElem?_getD, List.getD_eq_getElem?_getD, List.getElem?_append_right h]
theorem b8 : ∀ n, n < 128 → (nI n).toInt8.toInt32 = nI n := by decide
theorem b16 : ∀ n, n < 128 → ((nI n).toUInt32 % 65536).toInt32 = nI n := by decide
theorem k175 : kk KW 175 = some (6, 0) := by decide
/-- the landed one's told bytes, at most B of them -/
def WR (y : Cn) (l : List Nat) (B : Nat) : Prop := gi y 175 1 = nI l.length ∧ (∀ i, i < l.length → gi y 176 i = nI (l.getD i 0) ∧ l.getD i 0 < 128) ∧ l.length ≤ B
def OR (y : Cn) (l : List Nat) (B : Nat) : Prop := gi y 717 22 = nI l.length ∧ (∀ i, i < l.length → gi y 725 i = nI (l.getD i 0) ∧ l.getD i 0 < 128) ∧ l.length ≤ B
def WFr (x y : Cn) : Prop := y.2 = x.2 ∧ ∀ a k, a ≠ 176 → ¬ (a = 175 ∧ k = 1) → gi y a k = gi x a k
def OFr (x y : Cn) : Prop := y.2 = x.2 ∧ ∀ a k, a ≠ 725 → ¬ (a = 717 ∧ k = 22) → gi y a k = gi x a k
theorem WFr.rf (x : Cn) : WFr x x := ⟨rfl, fun _ _ _ _ => rfl⟩
theorem OFr.rf (x : Cn) : OFr x x := ⟨rfl, fun _ _ _ _ => rfl⟩
theorem WFr.tr {x y z : Cn} (h : WFr x y) (g : WFr y z) : WFr x z := ⟨g.1.trans h.1, fun a k a1 a2 => (g.2 a k a1 a2).trans (h.2 a k a1 a2)⟩
theorem OFr.tr {x y z : Cn} (h : OFr x y) (g : OFr y z) : OFr x z := ⟨g.1.trans h.1, fun a k a1 a2 => (g.2 a k a1 a2).trans (h.2 a k a1 a2)⟩
theorem WR.le {y : Cn} {l : List Nat} {B B' : Nat} (h : WR y l B) (c : B ≤ B') : WR y l B' := ⟨h.1, h.2.1, by have := h.2.2; omega⟩
theorem OR.le {y : Cn} {l : List Nat} {B B' : Nat} (h : OR y l B) (c : B ≤ B') : OR y l B' := ⟨h.1, h.2.1, by have := h.2.2; omega⟩
def lst (l : List Nat) : Nat := l.getD (l.length - 1) 0
abbrev aln (b : Nat) : Prop := (97 ≤ b ∧ b ≤ 122) ∨ (48 ≤ b ∧ b ≤ 57)
def bl (l : List Nat) : List Nat := if aln (lst l) then [32] else []
theorem lst_1 (l : List Nat) (b : Nat) : lst (l ++ [b]) = b := by
  unfold lst
  rw [gD_r (by simp)]
  simp
theorem lst_a (l : List Nat) {w : List Nat} (h : w ≠ []) : lst (l ++ w) = lst w := by
  have hp : 0 < w.length := List.length_pos_iff.mpr h
  unfold lst
  rw [List.length_append, gD_r (by omega)]
  congr 1
  omega
theorem bl_1 (l : List Nat) {b : Nat} (h : ¬ aln b) : bl (l ++ [b]) = [] := by
  unfold bl
  rw [lst_1, if_neg h]
theorem bl_a (l : List Nat) {w : List Nat} (h : w ≠ []) (h2 : aln (lst w)) : bl (l ++ w) = [32] := by
  unfold bl
  rw [lst_a l h, if_pos h2]
theorem bl_le (l : List Nat) : (bl l).length ≤ 1 := by
  unfold bl
  split <;> simp
def numL (n : Nat) : List Nat := if n < 10 then [48 + n] else [48 + n / 10, 48 + n % 10]
theorem bl_num (l : List Nat) {n : Nat} (h : n < 100) : bl (l ++ numL n) = [32] := by
  unfold numL
  by_cases c : n < 10
  · rw [if_pos c]
    exact bl_a l (by simp) (Or.inr (by show 48 ≤ 48 + n ∧ 48 + n ≤ 57; omega))
  · rw [if_neg c]
    exact bl_a l (by simp) (Or.inr (by show 48 ≤ 48 + n % 10 ∧ 48 + n % 10 ≤ 57; omega))
def dg (v i : Nat) : Nat := v / 27 ^ (5 - i) % 27
def nmS (v : Nat) : Nat → List Nat → List Nat := fun i l => if dg v i = 0 then l else l ++ [96 + dg v i]
def nmL (v : Nat) : List Nat := accT (nmS v) 6 []
theorem nm_acc (v : Nat) (l : List Nat) : ∀ i, accT (nmS v) i l = l ++ accT (nmS v) i [] := by
  intro i
  induction i with
  | zero => show l = l ++ []; simp
  | succ i ih =>
    simp only [accT]
    rw [ih]
    unfold nmS
    by_cases c : dg v i = 0
    · rw [if_pos c, if_pos c]
    · rw [if_neg c, if_neg c, List.append_assoc]
theorem dg_lt (v i : Nat) : dg v i < 27 := Nat.mod_lt _ (by decide)
theorem nm_al (v : Nat) : ∀ i, accT (nmS v) i [] = [] ∨ aln (lst (accT (nmS v) i [])) := by
  intro i
  induction i with
  | zero => exact Or.inl rfl
  | succ i ih =>
    simp only [accT]
    generalize accT (nmS v) i [] = l at ih ⊢
    unfold nmS
    by_cases c : dg v i = 0
    · rw [if_pos c]; exact ih
    · rw [if_neg c, lst_1]
      have := dg_lt v i
      exact Or.inr (Or.inl (by omega))
theorem nm_ne {v : Nat} (h0 : 0 < v) (h1 : v < 387420489) : nmL v ≠ [] := by
  have key : ∀ i, accT (nmS v) i [] = [] → ∀ j, j < i → dg v j = 0 := by
    intro i
    induction i with
    | zero => intro _ j hj; omega
    | succ i ih =>
      intro h j hj
      simp only [accT] at h
      generalize hl : accT (nmS v) i [] = l at h ih
      unfold nmS at h
      by_cases c : dg v i = 0
      · rw [if_pos c] at h
        by_cases c2 : j = i
        · rw [c2]; exact c
        · exact ih h j (by omega)
      · rw [if_neg c] at h
        simp at h
  intro hn
  have d := key 6 hn
  have d0 := d 0 (by decide)
  have d1 := d 1 (by decide)
  have d2 := d 2 (by decide)
  have d3 := d 3 (by decide)
  have d4 := d 4 (by decide)
  have d5 := d 5 (by decide)
  have e0 : v / 14348907 % 27 = 0 := d0
  have e1 : v / 531441 % 27 = 0 := d1
  have e2 : v / 19683 % 27 = 0 := d2
  have e3 : v / 729 % 27 = 0 := d3
  have e4 : v / 27 % 27 = 0 := d4
  have e5 : v / 1 % 27 = 0 := d5
  omega
theorem bl_nm (l : List Nat) {v : Nat} (h0 : 0 < v) (h1 : v < 387420489) : bl (l ++ nmL v) = [32] := bl_a l (nm_ne h0 h1) ((nm_al v 6).resolve_left (nm_ne h0 h1))
def dc (d i : Nat) : Nat := ((mSq 6).2.2.2.getD (4 * d + i) 0).toNatClampNeg
def dayL (d : Nat) : List Nat := [dc d 0, dc d 1, dc d 2]
theorem dc_ok : ∀ d, d < 7 → ∀ i, i < 3 → (mSq 6).2.2.2.getD (4 * d + i) 0 = nI (dc d i) ∧ 97 ≤ dc d i ∧ dc d i ≤ 122 := by decide +kernel
theorem day_wd : ∀ d, d < 7 → wd (15 + d) = dayL d := by decide +kernel
theorem bl_day (l : List Nat) {d : Nat} (h : d < 7) : bl (l ++ dayL d) = [32] := bl_a l (by simp [dayL]) (Or.inl (dc_ok d h 2 (by decide)).2)
theorem wd_27 : wd 27 = wd 1 ++ [32] := by decide +kernel
theorem wd_28 : wd 28 = wd 2 ++ [32] := by decide +kernel
theorem wd_29 : wd 29 = [32] ++ wd 3 ++ [32] := by decide +kernel
theorem wd_30 : wd 30 = wd 4 ++ [32] := by decide +kernel
theorem wd_31 : wd 31 = wd 5 ++ [32] := by decide +kernel
theorem wd_32 : wd 32 = [32] ++ wd 7 ++ [32] := by decide +kernel
theorem wd_33 : wd 33 = [32] ++ wd 8 ++ [59] := by decide +kernel
theorem wd_34 : wd 34 = [59] := by decide +kernel
theorem wd_35 : wd 35 = wd 9 ++ [32] := by decide +kernel
theorem wd_36 : wd 36 = [32] ++ wd 10 ++ [32] := by decide +kernel
theorem wd_al : ∀ k, k < 11 → k ≠ 0 → k ≠ 6 → wd k ≠ [] ∧ aln (lst (wd k)) := by decide +kernel
theorem bl_wd (l : List Nat) {k : Nat} (h1 : k < 11) (h2 : k ≠ 0) (h3 : k ≠ 6) : bl (l ++ wd k) = [32] := bl_a l (wd_al k h1 h2 h3).1 (wd_al k h1 h2 h3).2
set_option maxHeartbeats 2000000 in
theorem v_X6_putSign_0 {K : Sh} {x : Cn} {Q : Cn → Prop} {b0 : Nat} {l1 : Int32} {b0_0 : Nat} {n_b0_0 : Nat} (k_b0 : kk K b0 = some (6, 0)) (g_b0_0 : gr x b0 0 = some b0_0) (k_b0_0 : kk K b0_0 = some (21, n_b0_0)) (K0 : (2400 ≤ (gi x b0 1) → (Q x)) ∧ (¬ 2400 ≤ (gi x b0 1) → (vp_in (gi x b0 1) n_b0_0 ∧ (∀ r_3 : Int32, r_3 = gi (ui x b0_0 ((gi x b0 1) : Int32).toNatClampNeg (((l1 : Int32).toInt8.toInt32 : Int32).toInt8.toInt32)) b0 1 → (Q (ui (ui x b0_0 ((gi x b0 1) : Int32).toNatClampNeg (((l1 : Int32).toInt8.toInt32 : Int32).toInt8.toInt32)) b0 1 (r_3 + 1))))))) : mSV mX6_putSign [.ref b0, .int l1] K x Q := by
  refine s_V (by decide) (by simp [Value.category]) (Nat.le_of_ble_eq_true rfl) ?_
  show mGM mX6_putSign 0 [some (.ref b0), some (.int l1)] [] (hp K x) (PV K Q)
  refine r_aload_n (pc := 0) dX6_putSign_0 rfl ?_
  refine s_getI (pc := 1) dX6_putSign_1 fl_X6_15 rfl k_b0 ?_
  refine r_sipush (pc := 4) (v := 2400) dX6_putSign_4 (by decide) ?_
  refine r_icmp_ge (pc := 7) (tgt := 31) dX6_putSign_7 (by decide) (fun q => ?_) (fun q => ?_)
  · have K0 := K0.1 q
    exact s_ret rfl dX6_putSign_31 K0
  · have K0 := K0.2 q
    refine r_aload_n (pc := 10) dX6_putSign_10 rfl ?_
    refine s_getR (pc := 11) dX6_putSign_11 fl_X6_9 rfl k_b0 g_b0_0 ?_
    refine r_aload_n (pc := 14) dX6_putSign_14 rfl ?_
    refine s_getI (pc := 15) dX6_putSign_15 fl_X6_15 rfl k_b0 ?_
    refine r_iload_n (pc := 18) dX6_putSign_18 rfl ?_
    refine r_i2b (pc := 19) dX6_putSign_19 ?_
    obtain ⟨i_2, K0⟩ := K0
    refine s_bast (pc := 20) dX6_putSign_20 k_b0_0 i_2 ?_
    refine r_aload_n (pc := 21) dX6_putSign_21 rfl ?_
    refine r_dup (pc := 22) dX6_putSign_22 rfl ?_
    refine s_getI (pc := 23) dX6_putSign_23 fl_X6_15 rfl k_b0 ?_
    obtain ⟨r_3, w_4⟩ : ∃ z : Int32, z = gi (ui x b0_0 ((gi x b0 1) : Int32).toNatClampNeg (((l1 : Int32).toInt8.toInt32 : Int32).toInt8.toInt32)) b0 1 := ⟨_, rfl⟩
    rw [← w_4]
    have K0 := K0 r_3 w_4
    refine r_iconst (pc := 26) (v := 1) dX6_putSign_26 (by decide) ?_
    refine r_iadd (pc := 27) dX6_putSign_27 ?_
    refine s_putI (pc := 28) dX6_putSign_28 fl_X6_15 rfl rfl k_b0 ?_
    exact s_ret rfl dX6_putSign_31 K0
section
variable {x : Cn} {Q : Cn → Prop} {l : List Nat} {B : Nat}
theorem sp_X6_putSign {n : Nat} (hn : n < 128) (c : gr x 175 0 = some 176) (w : WR x l B) (hB : B < 2400) (k : ∀ y, WFr x y → WR y (l ++ [n]) (B + 1) → Q y) : mSV mX6_putSign [.ref 175, .int (nI n)] KW x Q := by
  have hl := w.2.2
  refine v_X6_putSign_0 k175 c k176 ⟨fun z => absurd (by rw [w.1] at z; exact z) (nI_ge (b := 2400) (by omega) (by decide)), fun _ => ?_⟩
  rw [w.1, nI_clamp (by omega), b8 n hn, b8 n hn]
  refine ⟨vp_in_nI (by omega) (by decide), fun r hr => ?_⟩
  have er : r = nI l.length := by rw [hr, gi_ui, if_neg (by omega)]; exact w.1
  rw [er, nI_1]
  refine k _ ⟨rfl, fun a j a1 a2 => by rw [gi_ui, if_neg a2, gi_ui, if_neg (fun u => a1 u.1)]⟩ ⟨?_, fun i hi => ?_, ?_⟩
  · rw [gi_ui, if_pos ⟨rfl, rfl⟩, List.length_append]; rfl
  · rw [List.length_append] at hi
    have hi : i < l.length + 1 := hi
    rw [gi_ui, if_neg (by omega), gi_ui]
    by_cases c1 : i = l.length
    · rw [if_pos ⟨rfl, c1⟩, gD_r (by omega), c1, Nat.sub_self]; exact ⟨rfl, hn⟩
    · rw [if_neg (fun u => c1 u.2), gD_l (by omega)]; exact w.2.1 i (by omega)
  · rw [List.length_append]; show l.length + 1 ≤ B + 1; omega
end
set_option maxHeartbeats 2000000 in
theorem v_X6_putBlank_0 {K : Sh} {x : Cn} {Q : Cn → Prop} {b0 : Nat} {b0_0 : Nat} {n_b0_0 : Nat} (k_b0 : kk K b0 = some (6, 0)) (g_b0_0 : gr x b0 0 = some b0_0) (k_b0_0 : kk K b0_0 = some (21, n_b0_0)) (K0 : ((gi x b0 1) ≤ 0 → (Q x)) ∧ (¬ (gi x b0 1) ≤ 0 → (vp_in ((gi x b0 1) - 1) n_b0_0 ∧ (((97 ≤ (gi x b0_0 (((gi x b0 1) - 1) : Int32).toNatClampNeg) ∧ (gi x b0_0 (((gi x b0 1) - 1) : Int32).toNatClampNeg) ≤ 122) → (mSV mX6_putSign [.ref b0, .int 32] K x (fun y_4 => Q y_4))) ∧ (¬ (97 ≤ (gi x b0_0 (((gi x b0 1) - 1) : Int32).toNatClampNeg) ∧ (gi x b0_0 (((gi x b0 1) - 1) : Int32).toNatClampNeg) ≤ 122) → ((¬ (48 ≤ (gi x b0_0 (((gi x b0 1) - 1) : Int32).toNatClampNeg) ∧ (gi x b0_0 (((gi x b0 1) - 1) : Int32).toNatClampNeg) ≤ 57) → (Q x)) ∧ ((48 ≤ (gi x b0_0 (((gi x b0 1) - 1) : Int32).toNatClampNeg) ∧ (gi x b0_0 (((gi x b0 1) - 1) : Int32).toNatClampNeg) ≤ 57) → (mSV mX6_putSign [.ref b0, .int 32] K x (fun y_6 => Q y_6))))))))) : mSV mX6_putBlank [.ref b0] K x Q := by
  refine s_V (by decide) (by simp [Value.category]) (Nat.le_of_ble_eq_true rfl) ?_
  show mGM mX6_putBlank 0 [some (.ref b0)] [] (hp K x) (PV K Q)
  refine r_aload_n (pc := 0) dX6_putBlank_0 rfl ?_
  refine s_getI (pc := 1) dX6_putBlank_1 fl_X6_15 rfl k_b0 ?_
  refine r_if_le (pc := 4) (tgt := 47) dX6_putBlank_4 (by decide) (fun q => ?_) (fun q => ?_)
  · have K0 := K0.1 q
    exact s_ret rfl dX6_putBlank_47 K0
  · have K0 := K0.2 q
    refine r_aload_n (pc := 7) dX6_putBlank_7 rfl ?_
    refine s_getR (pc := 8) dX6_putBlank_8 fl_X6_9 rfl k_b0 g_b0_0 ?_
    refine r_aload_n (pc := 11) dX6_putBlank_11 rfl ?_
    refine s_getI (pc := 12) dX6_putBlank_12 fl_X6_15 rfl k_b0 ?_
    refine r_iconst (pc := 15) (v := 1) dX6_putBlank_15 (by decide) ?_
    refine r_isub (pc := 16) dX6_putBlank_16 ?_
    obtain ⟨i_2, K0⟩ := K0
    refine s_bald (pc := 17) dX6_putBlank_17 k_b0_0 i_2 ?_
    refine s_SNI (pc := 18) mX7_isLetter (As := [.int (gi x b0_0 (((gi x b0 1) - 1) : Int32).toNatClampNeg)]) dX6_putBlank_18 nl_X6_151 st_X7_isLetter mo_X7_isLetter ⟨by decide, by decide⟩ (Nat.le_of_ble_eq_true rfl) (sp_X7_isLetter  ?_)
    refine r_if_ne (pc := 21) (tgt := 41) dX6_putBlank_21 (by decide) (fun q => ?_) (fun q => ?_)
    · have q := b2i_nz q
      have K0 := K0.1 q
      refine r_aload_n (pc := 41) dX6_putBlank_41 rfl ?_
      refine r_bipush (pc := 42) (v := 32) dX6_putBlank_42 (by decide) ?_
      refine s_VV (pc := 44) mX6_putSign (ci := 6) (a := b0) (As := [.int 32]) dX6_putBlank_44 lk_X6_32 in_X6_putSign mo_X6_putSign ⟨by decide, rfl⟩ ⟨by decide, by decide⟩ (Nat.le_of_ble_eq_true rfl) k_b0 (mSV_mono K0 (fun y_4 K0 => ?_))
      exact s_ret rfl dX6_putBlank_47 K0
    · have q := (b2i_z _).mp q
      have K0 := K0.2 q
      refine r_aload_n (pc := 24) dX6_putBlank_24 rfl ?_
      refine s_getR (pc := 25) dX6_putBlank_25 fl_X6_9 rfl k_b0 g_b0_0 ?_
      refine r_aload_n (pc := 28) dX6_putBlank_28 rfl ?_
      refine s_getI (pc := 29) dX6_putBlank_29 fl_X6_15 rfl k_b0 ?_
      refine r_iconst (pc := 32) (v := 1) dX6_putBlank_32 (by decide) ?_
      refine r_isub (pc := 33) dX6_putBlank_33 ?_
      refine s_bald (pc := 34) dX6_putBlank_34 k_b0_0 i_2 ?_
      refine s_SNI (pc := 35) mX7_isDigit (As := [.int (gi x b0_0 (((gi x b0 1) - 1) : Int32).toNatClampNeg)]) dX6_putBlank_35 nl_X6_155 st_X7_isDigit mo_X7_isDigit ⟨by decide, by decide⟩ (Nat.le_of_ble_eq_true rfl) (sp_X7_isDigit  ?_)
      refine r_if_eq (pc := 38) (tgt := 47) dX6_putBlank_38 (by decide) (fun q => ?_) (fun q => ?_)
      · have q := (b2i_z _).mp q
        have K0 := K0.1 q
        exact s_ret rfl dX6_putBlank_47 K0
      · have q := b2i_nz q
        have K0 := K0.2 q
        refine r_aload_n (pc := 41) dX6_putBlank_41 rfl ?_
        refine r_bipush (pc := 42) (v := 32) dX6_putBlank_42 (by decide) ?_
        refine s_VV (pc := 44) mX6_putSign (ci := 6) (a := b0) (As := [.int 32]) dX6_putBlank_44 lk_X6_32 in_X6_putSign mo_X6_putSign ⟨by decide, rfl⟩ ⟨by decide, by decide⟩ (Nat.le_of_ble_eq_true rfl) k_b0 (mSV_mono K0 (fun y_6 K0 => ?_))
        exact s_ret rfl dX6_putBlank_47 K0
section
variable {x : Cn} {Q : Cn → Prop} {l : List Nat} {B : Nat}
theorem sp_X6_putBlank (c : gr x 175 0 = some 176) (w : WR x l B) (hB : B < 2400) (k : ∀ y, WFr x y → WR y (l ++ bl l) (B + 1) → Q y) : mSV mX6_putBlank [.ref 175] KW x Q := by
  have hl := w.2.2
  have no : ¬ aln (lst l) → Q x := fun h => by
    refine k x (WFr.rf x) ?_
    unfold bl
    rw [if_neg h, List.append_nil]
    exact w.le (by omega)
  have yes : aln (lst l) → mSV mX6_putSign [.ref 175, .int 32] KW x (fun y => Q y) := fun h => by
    refine sp_X6_putSign (n := 32) (by decide) c w hB (fun y fy wy => k y fy ?_)
    unfold bl
    rw [if_pos h]
    exact wy
  refine v_X6_putBlank_0 k175 c k176 ?_
  rw [w.1]
  by_cases c0 : l.length = 0
  · refine ⟨fun _ => no ?_, fun z => absurd (by rw [c0]; decide) z⟩
    have : l = [] := List.eq_nil_of_length_eq_zero c0
    rw [this]
    decide
  · rw [show nI l.length - 1 = nI (l.length - 1) from pk_sub (b := 1) (by omega), nI_clamp (by omega)]
    have hb := w.2.1 (l.length - 1) (by omega)
    rw [hb.1]
    have hb2 : lst l < 128 := hb.2
    have e1 : (97 ≤ nI (l.getD (l.length - 1) 0) ∧ nI (l.getD (l.length - 1) 0) ≤ 122) ↔ (97 ≤ lst l ∧ lst l ≤ 122) := by
      rw [show (97 ≤ nI (l.getD (l.length - 1) 0)) ↔ 97 ≤ lst l from nI_leI (a := 97) (by decide) (by omega), show (nI (l.getD (l.length - 1) 0) ≤ 122) ↔ lst l ≤ 122 from nI_leI (b := 122) (by omega) (by decide)]
    have e2 : (48 ≤ nI (l.getD (l.length - 1) 0) ∧ nI (l.getD (l.length - 1) 0) ≤ 57) ↔ (48 ≤ lst l ∧ lst l ≤ 57) := by
      rw [show (48 ≤ nI (l.getD (l.length - 1) 0)) ↔ 48 ≤ lst l from nI_leI (a := 48) (by decide) (by omega), show (nI (l.getD (l.length - 1) 0) ≤ 57) ↔ lst l ≤ 57 from nI_leI (b := 57) (by omega) (by decide)]
    rw [e1, e2]
    exact ⟨fun z => absurd ((nI_leI (b := 0) (by omega) (by decide)).mp z) (by omega), fun _ => ⟨vp_in_nI (by omega) (by decide), fun z => yes (Or.inl z), fun z => ⟨fun z2 => no (fun u => u.elim z z2), fun z2 => yes (Or.inr z2)⟩⟩⟩
theorem n48 (m : Nat) : (48 : Int32) + nI m = nI (48 + m) := nI_add 48 m
end
set_option maxHeartbeats 2000000 in
theorem v_X6_putNumber_0 {K : Sh} {x : Cn} {Q : Cn → Prop} {b0 : Nat} {l1 : Int32}  (k_b0 : kk K b0 = some (6, 0)) (K0 : mSV mX6_putBlank [.ref b0] K x (fun y_1 => (l1 < 10 → (mSV mX6_putSign [.ref b0, .int ((((48 + (l1 - l1 / 10 * 10)) : Int32).toUInt32 % 65536).toInt32)] K y_1 (fun y_3 => Q y_3))) ∧ (¬ l1 < 10 → (mSV mX6_putSign [.ref b0, .int ((((48 + ((l1 / 10) - (l1 / 10) / 10 * 10)) : Int32).toUInt32 % 65536).toInt32)] K y_1 (fun y_4 => mSV mX6_putSign [.ref b0, .int ((((48 + (l1 - l1 / 10 * 10)) : Int32).toUInt32 % 65536).toInt32)] K y_4 (fun y_5 => Q y_5)))))) : mSV mX6_putNumber [.ref b0, .int l1] K x Q := by
  refine s_V (by decide) (by simp [Value.category]) (Nat.le_of_ble_eq_true rfl) ?_
  show mGM mX6_putNumber 0 [some (.ref b0), some (.int l1)] [] (hp K x) (PV K Q)
  refine r_aload_n (pc := 0) dX6_putNumber_0 rfl ?_
  refine s_VV (pc := 1) mX6_putBlank (ci := 6) (a := b0) (As := []) dX6_putNumber_1 lk_X6_132 in_X6_putBlank mo_X6_putBlank ⟨by decide, rfl⟩ ⟨by decide, by decide⟩ (Nat.le_of_ble_eq_true rfl) k_b0 (mSV_mono K0 (fun y_1 K0 => ?_))
  refine r_iload_n (pc := 4) dX6_putNumber_4 rfl ?_
  refine r_bipush (pc := 5) (v := 10) dX6_putNumber_5 (by decide) ?_
  refine r_icmp_lt (pc := 7) (tgt := 25) dX6_putNumber_7 (by decide) (fun q => ?_) (fun q => ?_)
  · have K0 := K0.1 q
    refine r_aload_n (pc := 25) dX6_putNumber_25 rfl ?_
    refine r_bipush (pc := 26) (v := 48) dX6_putNumber_26 (by decide) ?_
    refine r_iload_n (pc := 28) dX6_putNumber_28 rfl ?_
    refine r_bipush (pc := 29) (v := 10) dX6_putNumber_29 (by decide) ?_
    refine r_irem (pc := 31) dX6_putNumber_31 (by decide) ?_
    refine r_iadd (pc := 32) dX6_putNumber_32 ?_
    refine r_i2c (pc := 33) dX6_putNumber_33 ?_
    refine s_VV (pc := 34) mX6_putSign (ci := 6) (a := b0) (As := [.int ((((48 + (l1 - l1 / 10 * 10)) : Int32).toUInt32 % 65536).toInt32)]) dX6_putNumber_34 lk_X6_32 in_X6_putSign mo_X6_putSign ⟨by decide, rfl⟩ ⟨by decide, by decide⟩ (Nat.le_of_ble_eq_true rfl) k_b0 (mSV_mono K0 (fun y_3 K0 => ?_))
    exact s_ret rfl dX6_putNumber_37 K0
  · have K0 := K0.2 q
    refine r_aload_n (pc := 10) dX6_putNumber_10 rfl ?_
    refine r_bipush (pc := 11) (v := 48) dX6_putNumber_11 (by decide) ?_
    refine r_iload_n (pc := 13) dX6_putNumber_13 rfl ?_
    refine r_bipush (pc := 14) (v := 10) dX6_putNumber_14 (by decide) ?_
    refine r_idiv (pc := 16) dX6_putNumber_16 (by decide) ?_
    refine r_bipush (pc := 17) (v := 10) dX6_putNumber_17 (by decide) ?_
    refine r_irem (pc := 19) dX6_putNumber_19 (by decide) ?_
    refine r_iadd (pc := 20) dX6_putNumber_20 ?_
    refine r_i2c (pc := 21) dX6_putNumber_21 ?_
    refine s_VV (pc := 22) mX6_putSign (ci := 6) (a := b0) (As := [.int ((((48 + ((l1 / 10) - (l1 / 10) / 10 * 10)) : Int32).toUInt32 % 65536).toInt32)]) dX6_putNumber_22 lk_X6_32 in_X6_putSign mo_X6_putSign ⟨by decide, rfl⟩ ⟨by decide, by decide⟩ (Nat.le_of_ble_eq_true rfl) k_b0 (mSV_mono K0 (fun y_4 K0 => ?_))
    refine r_aload_n (pc := 25) dX6_putNumber_25 rfl ?_
    refine r_bipush (pc := 26) (v := 48) dX6_putNumber_26 (by decide) ?_
    refine r_iload_n (pc := 28) dX6_putNumber_28 rfl ?_
    refine r_bipush (pc := 29) (v := 10) dX6_putNumber_29 (by decide) ?_
    refine r_irem (pc := 31) dX6_putNumber_31 (by decide) ?_
    refine r_iadd (pc := 32) dX6_putNumber_32 ?_
    refine r_i2c (pc := 33) dX6_putNumber_33 ?_
    refine s_VV (pc := 34) mX6_putSign (ci := 6) (a := b0) (As := [.int ((((48 + (l1 - l1 / 10 * 10)) : Int32).toUInt32 % 65536).toInt32)]) dX6_putNumber_34 lk_X6_32 in_X6_putSign mo_X6_putSign ⟨by decide, rfl⟩ ⟨by decide, by decide⟩ (Nat.le_of_ble_eq_true rfl) k_b0 (mSV_mono K0 (fun y_5 K0 => ?_))
    exact s_ret rfl dX6_putNumber_37 K0
section
variable {x : Cn} {Q : Cn → Prop} {l : List Nat} {B : Nat}
theorem sp_X6_putNumber {n : Nat} (hn : n < 100) (c : gr x 175 0 = some 176) (w : WR x l B) (hB : B + 3 ≤ 2400) (k : ∀ y, WFr x y → WR y (l ++ bl l ++ numL n) (B + 3) → Q y) : mSV mX6_putNumber [.ref 175, .int (nI n)] KW x Q := by
  refine v_X6_putNumber_0 k175 (sp_X6_putBlank c w (by omega) (fun y fy wy => ?_))
  have cy : gr y 175 0 = some 176 := by unfold gr; rw [fy.1]; exact c
  have e1 : nI n - nI n / 10 * 10 = nI (n % 10) := pk_rem (d := 10) (by omega) (by decide) (by decide)
  have e2 : nI n / 10 = nI (n / 10) := pk_div (d := 10) (by omega) (by decide) (by decide)
  have e3 : nI (n / 10) - nI (n / 10) / 10 * 10 = nI (n / 10 % 10) := pk_rem (d := 10) (by omega) (by decide) (by decide)
  rw [e1, e2, e3, n48, n48, b16 _ (by omega), b16 _ (by omega), show nI n < 10 ↔ n < 10 from nI_ltI (b := 10) (by omega) (by decide)]
  refine ⟨fun z => sp_X6_putSign (by omega) cy wy (by omega) (fun v fv wv => k v (fy.tr fv) ?_), fun z => sp_X6_putSign (by omega) cy wy (by omega) (fun v fv wv => sp_X6_putSign (by omega) (by unfold gr; rw [fv.1]; exact cy) wv (by omega) (fun u fu wu => k u (fy.tr (fv.tr fu)) ?_))⟩
  · unfold numL
    rw [if_pos z]
    rw [show n % 10 = n by omega] at wv
    exact wv.le (by omega)
  · unfold numL
    rw [if_neg z]
    rw [show n / 10 % 10 = n / 10 by omega, List.append_assoc] at wu
    exact wu
end
set_option maxHeartbeats 2000000 in
theorem v_X6_putWord_0 {K : Sh} {x : Cn} {Q : Cn → Prop} {b0 : Nat} {j1 : Nat} {q1 : String × Nat × String × List Int32} (hj1 : mS[j1]? = some q1)  (k_b0 : kk K b0 = some (6, 0)) (K0 : mSV mX6_putBlank [.ref b0] K x (fun y_1 => GV mX6_putWord 6 [some (.ref b0), some (.ref (mSB + j1)), some (.int 0)] [] K y_1 Q)) : mSV mX6_putWord [.ref b0, .ref (mSB + j1)] K x Q := by
  refine s_V (by decide) (by simp [Value.category]) (Nat.le_of_ble_eq_true rfl) ?_
  show mGM mX6_putWord 0 [some (.ref b0), some (.ref (mSB + j1)), none] [] (hp K x) (PV K Q)
  refine r_aload_n (pc := 0) dX6_putWord_0 rfl ?_
  refine s_VV (pc := 1) mX6_putBlank (ci := 6) (a := b0) (As := []) dX6_putWord_1 lk_X6_132 in_X6_putBlank mo_X6_putBlank ⟨by decide, rfl⟩ ⟨by decide, by decide⟩ (Nat.le_of_ble_eq_true rfl) k_b0 (mSV_mono K0 (fun y_1 K0 => ?_))
  refine r_iconst (pc := 4) (v := 0) dX6_putWord_4 (by decide) ?_
  refine r_istore_n (pc := 5) dX6_putWord_5 (by decide) ?_
  exact r_le (L' := [some (.ref b0), some (.ref (mSB + j1)), some (.int 0)]) ⟨rfl, ⟨rfl, ⟨rfl, trivial⟩⟩⟩ K0
set_option maxHeartbeats 2000000 in
theorem v_X6_putWord_6 {K : Sh} {x : Cn} {Q : Cn → Prop} {b0 : Nat} {j1 : Nat} {q1 : String × Nat × String × List Int32} (hj1 : mS[j1]? = some q1) {l2 : Int32}  (k_b0 : kk K b0 = some (6, 0)) (K0 : ((nI q1.2.2.2.length) ≤ l2 → (Q x)) ∧ (¬ (nI q1.2.2.2.length) ≤ l2 → (∃ n_2 : Nat, l2 = nI n_2 ∧ (n_2 < q1.2.2.2.length ∧ (mSV mX6_putSign [.ref b0, .int (q1.2.2.2.getD n_2 0)] K x (fun y_3 => GV mX6_putWord 6 [some (.ref b0), some (.ref (mSB + j1)), some (.int (l2 + 1))] [] K y_3 Q)))))) : GV mX6_putWord 6 [some (.ref b0), some (.ref (mSB + j1)), some (.int l2)] [] K x Q := by
  show mGM mX6_putWord 6 [some (.ref b0), some (.ref (mSB + j1)), some (.int l2)] [] (hp K x) (PV K Q)
  refine r_iload_n (pc := 6) dX6_putWord_6 rfl ?_
  refine r_aload_n (pc := 7) dX6_putWord_7 rfl ?_
  refine s_VIs (pc := 8) mJ0_length_8abf5 (j := j1) (q := q1) (As := []) dX6_putWord_8 lk_X6_148 in_J0_length_8abf5 mo_J0_length_8abf5 hj1 rfl ⟨by decide, by decide⟩ (Nat.le_of_ble_eq_true rfl) (sp_len hj1 ?_)
  refine r_icmp_ge (pc := 11) (tgt := 29) dX6_putWord_11 (by decide) (fun q => ?_) (fun q => ?_)
  · have K0 := K0.1 q
    exact s_ret rfl dX6_putWord_29 K0
  · have K0 := K0.2 q
    refine r_aload_n (pc := 14) dX6_putWord_14 rfl ?_
    refine r_aload_n (pc := 15) dX6_putWord_15 rfl ?_
    refine r_iload_n (pc := 16) dX6_putWord_16 rfl ?_
    obtain ⟨n_2, en_2, un_2, K0⟩ := K0
    refine s_VIs (pc := 17) mJ0_charAt_5068e (j := j1) (q := q1) (As := [.int l2]) dX6_putWord_17 lk_X6_137 in_J0_charAt_5068e mo_J0_charAt_5068e hj1 rfl ⟨by decide, by decide⟩ (Nat.le_of_ble_eq_true rfl) (sp_chv hj1 en_2 un_2 ?_)
    refine s_VV (pc := 20) mX6_putSign (ci := 6) (a := b0) (As := [.int (q1.2.2.2.getD n_2 0)]) dX6_putWord_20 lk_X6_32 in_X6_putSign mo_X6_putSign ⟨by decide, rfl⟩ ⟨by decide, by decide⟩ (Nat.le_of_ble_eq_true rfl) k_b0 (mSV_mono K0 (fun y_3 K0 => ?_))
    refine r_iinc (pc := 23) (v := l2 + 1) dX6_putWord_23 rfl rfl (by decide) ?_
    refine r_goto (pc := 26) (L := [some (.ref b0), some (.ref (mSB + j1)), some (.int (l2 + 1))]) (tgt := 6) dX6_putWord_26 (by decide) ?_
    exact r_le (L' := [some (.ref b0), some (.ref (mSB + j1)), some (.int (l2 + 1))]) ⟨rfl, ⟨rfl, ⟨rfl, trivial⟩⟩⟩ K0
section
variable {x : Cn} {Q : Cn → Prop} {l : List Nat} {B : Nat}
theorem sp_X6_putWord {j m : Nat} {q : String × Nat × String × List Int32} (hj : mS[j]? = some q) (hm : q.2.2.2.length ≤ m) (c : gr x 175 0 = some 176) (w : WR x l B) (hB : B + 1 + m ≤ 2400) (k : ∀ y, WFr x y → WR y (l ++ bl l ++ wq q) (B + 1 + m) → Q y) : mSV mX6_putWord [.ref 175, .ref (mSB + j)] KW x Q := by
  refine v_X6_putWord_0 hj k175 (sp_X6_putBlank c w (by omega) (fun y fy wy => ?_))
  have key : ∀ r n v, n + r = q.2.2.2.length → WFr x v → WR v (l ++ bl l ++ (wq q).take n) (B + 1 + n) → GV mX6_putWord 6 [some (.ref 175), some (.ref (mSB + j)), some (.int (nI n))] [] KW v Q := by
    intro r
    induction r with
    | zero =>
      intro n v hn fv wv
      refine v_X6_putWord_6 hj k175 ⟨fun _ => k v fv ?_, fun z => absurd (nI_le (by omega) (by omega)) z⟩
      rw [List.take_of_length_le (by rw [wq_len]; omega)] at wv
      exact wv.le (by omega)
    | succ r ih =>
      intro n v hn fv wv
      have ha := wq_at hj (n := n) (by omega)
      refine v_X6_putWord_6 hj k175 ⟨fun z => absurd z (nI_ge (by omega) (by omega)), fun _ => ⟨n, rfl, by omega, ?_⟩⟩
      rw [ha.1, nI_1]
      refine sp_X6_putSign ha.2 (by unfold gr; rw [fv.1]; exact c) wv (by omega) (fun u fu wu => ih (n + 1) u (by omega) (fv.tr fu) ?_)
      have e : (wq q).take (n + 1) = (wq q).take n ++ [(wq q).getD n 0] := by
        rw [List.take_add_one, List.getD_eq_getElem?_getD, List.getElem?_eq_getElem (by rw [wq_len]; omega)]
        rfl
      rw [e, ← List.append_assoc]
      exact wu
  exact key q.2.2.2.length 0 y (by omega) fy (by rw [List.take_zero, List.append_nil]; exact wy)
end
set_option maxHeartbeats 2000000 in
theorem v_X6_putName_0 {K : Sh} {x : Cn} {Q : Cn → Prop} {b0 : Nat} {b1 : Nat} {l2 : Int32}  (k_b0 : kk K b0 = some (6, 0)) (K0 : mSV mX6_putBlank [.ref b0] K x (fun y_1 => GV mX6_putName 6 [some (.ref b0), some (.ref b1), some (.int l2), some (.int 0), none] [] K y_1 Q)) : mSV mX6_putName [.ref b0, .ref b1, .int l2] K x Q := by
  refine s_V (by decide) (by simp [Value.category]) (Nat.le_of_ble_eq_true rfl) ?_
  show mGM mX6_putName 0 [some (.ref b0), some (.ref b1), some (.int l2), none, none] [] (hp K x) (PV K Q)
  refine r_aload_n (pc := 0) dX6_putName_0 rfl ?_
  refine s_VV (pc := 1) mX6_putBlank (ci := 6) (a := b0) (As := []) dX6_putName_1 lk_X6_132 in_X6_putBlank mo_X6_putBlank ⟨by decide, rfl⟩ ⟨by decide, by decide⟩ (Nat.le_of_ble_eq_true rfl) k_b0 (mSV_mono K0 (fun y_1 K0 => ?_))
  refine r_iconst (pc := 4) (v := 0) dX6_putName_4 (by decide) ?_
  refine r_istore_n (pc := 5) dX6_putName_5 (by decide) ?_
  exact r_le (L' := [some (.ref b0), some (.ref b1), some (.int l2), some (.int 0), none]) ⟨rfl, ⟨rfl, ⟨rfl, ⟨rfl, trivial⟩⟩⟩⟩ K0
set_option maxHeartbeats 2000000 in
theorem v_X6_putName_6 {K : Sh} {x : Cn} {Q : Cn → Prop} {b0 : Nat} {b1 : Nat} {l2 : Int32} {l3 : Int32}  (k_b1 : kk K b1 = some (1, 0)) (k_b0 : kk K b0 = some (6, 0)) (K0 : (6 ≤ l3 → (Q x)) ∧ (¬ 6 ≤ l3 → (mSI mX1_letterOf [.ref b1, .int l2, .int l3] K x (fun r_3 y_2 => (r_3 ≤ 0 → (GV mX6_putName 6 [some (.ref b0), some (.ref b1), some (.int l2), some (.int (l3 + 1)), none] [] K y_2 Q)) ∧ (¬ r_3 ≤ 0 → (mSV mX6_putSign [.ref b0, .int (((((97 + r_3) - 1) : Int32).toUInt32 % 65536).toInt32)] K y_2 (fun y_5 => GV mX6_putName 6 [some (.ref b0), some (.ref b1), some (.int l2), some (.int (l3 + 1)), none] [] K y_5 Q))))))) : GV mX6_putName 6 [some (.ref b0), some (.ref b1), some (.int l2), some (.int l3), none] [] K x Q := by
  show mGM mX6_putName 6 [some (.ref b0), some (.ref b1), some (.int l2), some (.int l3), none] [] (hp K x) (PV K Q)
  refine r_iload_n (pc := 6) dX6_putName_6 rfl ?_
  refine r_bipush (pc := 7) (v := 6) dX6_putName_7 (by decide) ?_
  refine r_icmp_ge (pc := 9) (tgt := 43) dX6_putName_9 (by decide) (fun q => ?_) (fun q => ?_)
  · have K0 := K0.1 q
    exact s_ret rfl dX6_putName_43 K0
  · have K0 := K0.2 q
    refine r_aload_n (pc := 12) dX6_putName_12 rfl ?_
    refine r_iload_n (pc := 13) dX6_putName_13 rfl ?_
    refine r_iload_n (pc := 14) dX6_putName_14 rfl ?_
    refine s_VI (pc := 15) mX1_letterOf (ci := 1) (a := b1) (As := [.int l2, .int l3]) dX6_putName_15 lk_X6_144 in_X1_letterOf mo_X1_letterOf ⟨by decide, rfl⟩ ⟨by decide, by decide⟩ (Nat.le_of_ble_eq_true rfl) k_b1 (mSI_mono K0 (fun r_3 y_2 K0 => ?_))
    refine r_istore (pc := 18) dX6_putName_18 (by decide) ?_
    refine r_iload (pc := 20) (L := [some (.ref b0), some (.ref b1), some (.int l2), some (.int l3), some (.int r_3)]) dX6_putName_20 rfl ?_
    refine r_if_le (pc := 22) (tgt := 37) dX6_putName_22 (by decide) (fun q => ?_) (fun q => ?_)
    · have K0 := K0.1 q
      refine r_iinc (pc := 37) (v := l3 + 1) dX6_putName_37 rfl rfl (by decide) ?_
      refine r_goto (pc := 40) (L := [some (.ref b0), some (.ref b1), some (.int l2), some (.int (l3 + 1)), some (.int r_3)]) (tgt := 6) dX6_putName_40 (by decide) ?_
      exact r_le (L' := [some (.ref b0), some (.ref b1), some (.int l2), some (.int (l3 + 1)), none]) ⟨rfl, ⟨rfl, ⟨rfl, ⟨rfl, trivial⟩⟩⟩⟩ K0
    · have K0 := K0.2 q
      refine r_aload_n (pc := 25) dX6_putName_25 rfl ?_
      refine r_bipush (pc := 26) (v := 97) dX6_putName_26 (by decide) ?_
      refine r_iload (pc := 28) dX6_putName_28 rfl ?_
      refine r_iadd (pc := 30) dX6_putName_30 ?_
      refine r_iconst (pc := 31) (v := 1) dX6_putName_31 (by decide) ?_
      refine r_isub (pc := 32) dX6_putName_32 ?_
      refine r_i2c (pc := 33) dX6_putName_33 ?_
      refine s_VV (pc := 34) mX6_putSign (ci := 6) (a := b0) (As := [.int (((((97 + r_3) - 1) : Int32).toUInt32 % 65536).toInt32)]) dX6_putName_34 lk_X6_32 in_X6_putSign mo_X6_putSign ⟨by decide, rfl⟩ ⟨by decide, by decide⟩ (Nat.le_of_ble_eq_true rfl) k_b0 (mSV_mono K0 (fun y_5 K0 => ?_))
      refine r_iinc (pc := 37) (v := l3 + 1) dX6_putName_37 rfl rfl (by decide) ?_
      refine r_goto (pc := 40) (L := [some (.ref b0), some (.ref b1), some (.int l2), some (.int (l3 + 1)), some (.int r_3)]) (tgt := 6) dX6_putName_40 (by decide) ?_
      exact r_le (L' := [some (.ref b0), some (.ref b1), some (.int l2), some (.int (l3 + 1)), none]) ⟨rfl, ⟨rfl, ⟨rfl, ⟨rfl, trivial⟩⟩⟩⟩ K0
section
variable {x : Cn} {Q : Cn → Prop} {l : List Nat} {B : Nat}
theorem sp_X6_putName {cr v : Nat} (hc : cr < 8) (hv : ∀ i, i < 6 → gi x 57 (6 * cr + i) = nI (dg v i)) (c : gr x 175 0 = some 176) (c2 : gr x 56 1 = some 57) (w : WR x l B) (hB : B + 7 ≤ 2400) (k : ∀ y, WFr x y → WR y (l ++ bl l ++ nmL v) (B + 7) → Q y) : mSV mX6_putName [.ref 175, .ref 56, .int (nI cr)] KW x Q := by
  refine v_X6_putName_0 k175 (sp_X6_putBlank c w (by omega) (fun y fy wy => ?_))
  have kn : kk KW 56 = some (1, 0) := by decide
  have key : GV mX6_putName 6 [some (.ref 175), some (.ref 56), some (.int (nI cr)), some (.int (nI 0)), none] [] KW y Q := by
    refine lp_acc (nmS v) (fun i l' => ∀ z, WFr x z → WR z l' (B + 1 + i) → GV mX6_putName 6 [some (.ref 175), some (.ref 56), some (.int (nI cr)), some (.int (nI i)), none] [] KW z Q) 6 (l ++ bl l) ?_ (fun i l' hi n1 => ?_) y fy wy
    · intro z fz wz
      refine v_X6_putName_6 kn k175 ⟨fun _ => k z fz ?_, fun u => absurd (by decide) u⟩
      rw [nm_acc] at wz
      exact wz
    · intro z fz wz
      have hd := dg_lt v i
      refine v_X6_putName_6 kn k175 ⟨fun u => absurd u (nI_ge (b := 6) hi (by decide)), fun _ => sp_X1_letterOf kn (by unfold gr; rw [fz.1]; exact c2) (by decide) hc hi ?_⟩
      rw [fz.2 57 _ (by decide) (by omega), hv i hi, nI_1, show nI (dg v i) ≤ 0 ↔ dg v i ≤ 0 from nI_leI (b := 0) (by omega) (by decide), show (97 + nI (dg v i)) - 1 = nI (96 + dg v i) from (by rw [show (97 : Int32) + nI (dg v i) = nI (97 + dg v i) from nI_add 97 _, show nI (97 + dg v i) - 1 = nI (97 + dg v i - 1) from pk_sub (b := 1) (by omega)]; congr 1; omega), b16 _ (by omega)]
      refine ⟨fun u => n1 l' ?_ z fz (wz.le (by omega)), fun u => sp_X6_putSign (by omega) (by unfold gr; rw [fz.1]; exact c) wz (by omega) (fun z2 f2 w2 => n1 _ ?_ z2 (fz.tr f2) w2)⟩
      · unfold nmS; rw [if_pos (by omega)]
      · unfold nmS; rw [if_neg (by omega)]
  exact key
end
set_option maxHeartbeats 2000000 in
theorem v_X6_putSpan_0 {K : Sh} {x : Cn} {Q : Cn → Prop} {b0 : Nat} {l1 : Int32} {l2 : Int32}  (k_b0 : kk K b0 = some (6, 0)) (K0 : mSV mX6_putNumber [.ref b0, .int l1] K x (fun y_1 => mSV mX6_putSign [.ref b0, .int 45] K y_1 (fun y_2 => mSV mX6_putNumber [.ref b0, .int l2] K y_2 (fun y_3 => Q y_3)))) : mSV mX6_putSpan [.ref b0, .int l1, .int l2] K x Q := by
  refine s_V (by decide) (by simp [Value.category]) (Nat.le_of_ble_eq_true rfl) ?_
  show mGM mX6_putSpan 0 [some (.ref b0), some (.int l1), some (.int l2)] [] (hp K x) (PV K Q)
  refine r_aload_n (pc := 0) dX6_putSpan_0 rfl ?_
  refine r_iload_n (pc := 1) dX6_putSpan_1 rfl ?_
  refine s_VV (pc := 2) mX6_putNumber (ci := 6) (a := b0) (As := [.int l1]) dX6_putSpan_2 lk_X6_28 in_X6_putNumber mo_X6_putNumber ⟨by decide, rfl⟩ ⟨by decide, by decide⟩ (Nat.le_of_ble_eq_true rfl) k_b0 (mSV_mono K0 (fun y_1 K0 => ?_))
  refine r_aload_n (pc := 5) dX6_putSpan_5 rfl ?_
  refine r_bipush (pc := 6) (v := 45) dX6_putSpan_6 (by decide) ?_
  refine s_VV (pc := 8) mX6_putSign (ci := 6) (a := b0) (As := [.int 45]) dX6_putSpan_8 lk_X6_32 in_X6_putSign mo_X6_putSign ⟨by decide, rfl⟩ ⟨by decide, by decide⟩ (Nat.le_of_ble_eq_true rfl) k_b0 (mSV_mono K0 (fun y_2 K0 => ?_))
  refine r_aload_n (pc := 11) dX6_putSpan_11 rfl ?_
  refine r_iload_n (pc := 12) dX6_putSpan_12 rfl ?_
  refine s_VV (pc := 13) mX6_putNumber (ci := 6) (a := b0) (As := [.int l2]) dX6_putSpan_13 lk_X6_28 in_X6_putNumber mo_X6_putNumber ⟨by decide, rfl⟩ ⟨by decide, by decide⟩ (Nat.le_of_ble_eq_true rfl) k_b0 (mSV_mono K0 (fun y_3 K0 => ?_))
  exact s_ret rfl dX6_putSpan_16 K0
section
variable {x : Cn} {Q : Cn → Prop} {l : List Nat} {B : Nat}
theorem sp_X6_putSpan {a b : Nat} (ha : a < 100) (hb : b < 100) (c : gr x 175 0 = some 176) (w : WR x l B) (hB : B + 7 ≤ 2400) (k : ∀ y, WFr x y → WR y (l ++ bl l ++ numL a ++ [45] ++ numL b) (B + 7) → Q y) : mSV mX6_putSpan [.ref 175, .int (nI a), .int (nI b)] KW x Q := by
  have cg : ∀ y : Cn, WFr x y → gr y 175 0 = some 176 := fun y fy => by unfold gr; rw [fy.1]; exact c
  refine v_X6_putSpan_0 k175 (sp_X6_putNumber ha c w (by omega) (fun y fy wy => sp_X6_putSign (n := 45) (by decide) (cg y fy) wy (by omega) (fun u fu wu => sp_X6_putNumber hb (cg u (fy.tr fu)) wu (by omega) (fun v fv wv => k v (fy.tr (fu.tr fv)) ?_))))
  rw [bl_1 _ (by decide), List.append_nil] at wv
  exact wv
end
set_option maxHeartbeats 2000000 in
theorem v_X6_putPlace_0 {K : Sh} {x : Cn} {Q : Cn → Prop} {b0 : Nat} {l1 : Int32} {l2 : Int32} {l3 : Int32}  (k_b0 : kk K b0 = some (6, 0)) (K0 : mSV mX6_putBlank [.ref b0] K x (fun y_1 => GV mX6_putPlace 7 [some (.ref b0), some (.int l1), some (.int l2), some (.int l3), some (.int 0)] [] K y_1 Q)) : mSV mX6_putPlace [.ref b0, .int l1, .int l2, .int l3] K x Q := by
  refine s_V (by decide) (by simp [Value.category]) (Nat.le_of_ble_eq_true rfl) ?_
  show mGM mX6_putPlace 0 [some (.ref b0), some (.int l1), some (.int l2), some (.int l3), none] [] (hp K x) (PV K Q)
  refine r_aload_n (pc := 0) dX6_putPlace_0 rfl ?_
  refine s_VV (pc := 1) mX6_putBlank (ci := 6) (a := b0) (As := []) dX6_putPlace_1 lk_X6_132 in_X6_putBlank mo_X6_putBlank ⟨by decide, rfl⟩ ⟨by decide, by decide⟩ (Nat.le_of_ble_eq_true rfl) k_b0 (mSV_mono K0 (fun y_1 K0 => ?_))
  refine r_iconst (pc := 4) (v := 0) dX6_putPlace_4 (by decide) ?_
  refine r_istore (pc := 5) dX6_putPlace_5 (by decide) ?_
  exact r_le (L' := [some (.ref b0), some (.int l1), some (.int l2), some (.int l3), some (.int 0)]) ⟨rfl, ⟨rfl, ⟨rfl, ⟨rfl, ⟨rfl, trivial⟩⟩⟩⟩⟩ K0
set_option maxHeartbeats 2000000 in
theorem v_X6_putPlace_7 {K : Sh} {x : Cn} {Q : Cn → Prop} {b0 : Nat} {l1 : Int32} {l2 : Int32} {l3 : Int32} {l4 : Int32}  (k_b0 : kk K b0 = some (6, 0)) (K0 : (3 ≤ l4 → (mSV mX6_putNumber [.ref b0, .int l2] K x (fun y_2 => (¬ l3 = 0 → (mSV mX6_putWord [.ref b0, .ref (mSB + 7)] K y_2 (fun y_4 => Q y_4))) ∧ (l3 = 0 → (mSV mX6_putWord [.ref b0, .ref (mSB + 3)] K y_2 (fun y_5 => Q y_5)))))) ∧ (¬ 3 ≤ l4 → (∃ n_6 : Nat, ((l1 * 4) + l4) = nI n_6 ∧ (n_6 < (mSq 6).2.2.2.length ∧ (mSV mX6_putSign [.ref b0, .int ((mSq 6).2.2.2.getD n_6 0)] K x (fun y_7 => GV mX6_putPlace 7 [some (.ref b0), some (.int l1), some (.int l2), some (.int l3), some (.int (l4 + 1))] [] K y_7 Q)))))) : GV mX6_putPlace 7 [some (.ref b0), some (.int l1), some (.int l2), some (.int l3), some (.int l4)] [] K x Q := by
  show mGM mX6_putPlace 7 [some (.ref b0), some (.int l1), some (.int l2), some (.int l3), some (.int l4)] [] (hp K x) (PV K Q)
  refine r_iload (pc := 7) dX6_putPlace_7 rfl ?_
  refine r_iconst (pc := 9) (v := 3) dX6_putPlace_9 (by decide) ?_
  refine r_icmp_ge (pc := 10) (tgt := 34) dX6_putPlace_10 (by decide) (fun q => ?_) (fun q => ?_)
  · have K0 := K0.1 q
    refine r_aload_n (pc := 34) dX6_putPlace_34 rfl ?_
    refine r_iload_n (pc := 35) dX6_putPlace_35 rfl ?_
    refine s_VV (pc := 36) mX6_putNumber (ci := 6) (a := b0) (As := [.int l2]) dX6_putPlace_36 lk_X6_28 in_X6_putNumber mo_X6_putNumber ⟨by decide, rfl⟩ ⟨by decide, by decide⟩ (Nat.le_of_ble_eq_true rfl) k_b0 (mSV_mono K0 (fun y_2 K0 => ?_))
    refine r_aload_n (pc := 39) dX6_putPlace_39 rfl ?_
    refine r_iload_n (pc := 40) dX6_putPlace_40 rfl ?_
    refine r_if_ne (pc := 41) (tgt := 49) dX6_putPlace_41 (by decide) (fun q => ?_) (fun q => ?_)
    · have K0 := K0.1 q
      refine r_ldcS (pc := 49) (j := 7) dX6_putPlace_49 rfl ?_
      refine s_VV (pc := 51) mX6_putWord (ci := 6) (a := b0) (As := [.ref (mSB + 7)]) dX6_putPlace_51 lk_X6_21 in_X6_putWord mo_X6_putWord ⟨by decide, rfl⟩ ⟨by decide, by decide⟩ (Nat.le_of_ble_eq_true rfl) k_b0 (mSV_mono K0 (fun y_4 K0 => ?_))
      exact s_ret rfl dX6_putPlace_54 K0
    · have K0 := K0.2 q
      refine r_ldcS (pc := 44) (j := 3) dX6_putPlace_44 rfl ?_
      refine r_goto (pc := 46) (tgt := 51) dX6_putPlace_46 (by decide) ?_
      refine s_VV (pc := 51) mX6_putWord (ci := 6) (a := b0) (As := [.ref (mSB + 3)]) dX6_putPlace_51 lk_X6_21 in_X6_putWord mo_X6_putWord ⟨by decide, rfl⟩ ⟨by decide, by decide⟩ (Nat.le_of_ble_eq_true rfl) k_b0 (mSV_mono K0 (fun y_5 K0 => ?_))
      exact s_ret rfl dX6_putPlace_54 K0
  · have K0 := K0.2 q
    refine r_aload_n (pc := 13) dX6_putPlace_13 rfl ?_
    refine r_ldcS (pc := 14) (j := 6) dX6_putPlace_14 rfl ?_
    refine r_iload_n (pc := 16) dX6_putPlace_16 rfl ?_
    refine r_iconst (pc := 17) (v := 4) dX6_putPlace_17 (by decide) ?_
    refine r_imul (pc := 18) dX6_putPlace_18 ?_
    refine r_iload (pc := 19) dX6_putPlace_19 rfl ?_
    refine r_iadd (pc := 21) dX6_putPlace_21 ?_
    obtain ⟨n_6, en_6, un_6, K0⟩ := K0
    refine s_VIs (pc := 22) mJ0_charAt_5068e (j := 6) (q := (mSq 6)) (As := [.int ((l1 * 4) + l4)]) dX6_putPlace_22 lk_X6_137 in_J0_charAt_5068e mo_J0_charAt_5068e (mSq_at (k := 6) (by decide)) rfl ⟨by decide, by decide⟩ (Nat.le_of_ble_eq_true rfl) (sp_chv (mSq_at (k := 6) (by decide)) en_6 un_6 ?_)
    refine s_VV (pc := 25) mX6_putSign (ci := 6) (a := b0) (As := [.int ((mSq 6).2.2.2.getD n_6 0)]) dX6_putPlace_25 lk_X6_32 in_X6_putSign mo_X6_putSign ⟨by decide, rfl⟩ ⟨by decide, by decide⟩ (Nat.le_of_ble_eq_true rfl) k_b0 (mSV_mono K0 (fun y_7 K0 => ?_))
    refine r_iinc (pc := 28) (v := l4 + 1) dX6_putPlace_28 rfl rfl (by decide) ?_
    refine r_goto (pc := 31) (L := [some (.ref b0), some (.int l1), some (.int l2), some (.int l3), some (.int (l4 + 1))]) (tgt := 7) dX6_putPlace_31 (by decide) ?_
    exact r_le (L' := [some (.ref b0), some (.int l1), some (.int l2), some (.int l3), some (.int (l4 + 1))]) ⟨rfl, ⟨rfl, ⟨rfl, ⟨rfl, ⟨rfl, trivial⟩⟩⟩⟩⟩ K0
section
variable {x : Cn} {Q : Cn → Prop} {l : List Nat} {B : Nat}
theorem sp_X6_putPlace {d h : Nat} {way : Int32} (hd : d < 7) (hh : h < 100) (c : gr x 175 0 = some 176) (w : WR x l B) (hB : B + 11 ≤ 2400) (k : ∀ y, WFr x y → WR y (l ++ bl l ++ dayL d ++ [32] ++ numL h ++ [32] ++ (if way = 0 then wd 3 else wd 7)) (B + 11) → Q y) : mSV mX6_putPlace [.ref 175, .int (nI d), .int (nI h), .int way] KW x Q := by
  have cg : ∀ y : Cn, WFr x y → gr y 175 0 = some 176 := fun y fy => by unfold gr; rw [fy.1]; exact c
  have ix : ∀ i, (nI d * 4) + nI i = nI (4 * d + i) := fun i => by rw [show (4 : Int32) = nI 4 by decide, pk_mul, nI_add, Nat.mul_comm]
  have step : ∀ i (v : Cn) (G : Cn → Prop) l' B', i < 3 → WFr x v → WR v l' B' → B' < 2400 → (∀ u, WFr x u → WR u (l' ++ [dc d i]) (B' + 1) → G u) → ∃ n_6 : Nat, ((nI d * 4) + nI i) = nI n_6 ∧ (n_6 < (mSq 6).2.2.2.length ∧ mSV mX6_putSign [.ref 175, .int ((mSq 6).2.2.2.getD n_6 0)] KW v G) := by
    intro i v G l' B' hi fv wv hB' k'
    have ho := dc_ok d hd i hi
    refine ⟨4 * d + i, ix i, by show 4 * d + i < 73; omega, ?_⟩
    rw [ho.1]
    exact sp_X6_putSign (by omega) (cg v fv) wv hB' (fun u fu wu => k' u (fv.tr fu) wu)
  refine v_X6_putPlace_0 k175 (sp_X6_putBlank c w (by omega) (fun y fy wy => ?_))
  refine v_X6_putPlace_7 k175 ⟨fun z => absurd z (by decide), fun _ => step 0 y _ _ _ (by decide) fy wy (by omega) (fun y1 f1 w1 => ?_)⟩
  refine v_X6_putPlace_7 k175 ⟨fun z => absurd z (by decide), fun _ => step 1 y1 _ _ _ (by decide) f1 w1 (by omega) (fun y2 f2 w2 => ?_)⟩
  refine v_X6_putPlace_7 k175 ⟨fun z => absurd z (by decide), fun _ => step 2 y2 _ _ _ (by decide) f2 w2 (by omega) (fun y3 f3 w3 => ?_)⟩
  have e3 : l ++ bl l ++ [dc d 0] ++ [dc d 1] ++ [dc d 2] = l ++ bl l ++ dayL d := by simp [dayL, List.append_assoc]
  rw [e3] at w3
  refine v_X6_putPlace_7 k175 ⟨fun _ => sp_X6_putNumber hh (cg y3 f3) w3 (by omega) (fun y4 f4 w4 => ?_), fun z => absurd (by decide) z⟩
  rw [bl_day _ hd] at w4
  refine ⟨fun z => sp_X6_putWord (j := 7) (m := 3) (mSq_at (by decide)) (by decide) (cg y4 (f3.tr f4)) w4 (by omega) (fun y5 f5 w5 => k y5 (f3.tr (f4.tr f5)) ?_), fun z => sp_X6_putWord (j := 3) (m := 2) (mSq_at (by decide)) (by decide) (cg y4 (f3.tr f4)) w4 (by omega) (fun y5 f5 w5 => k y5 (f3.tr (f4.tr f5)) ?_)⟩
  · rw [bl_num _ hh] at w5
    rw [if_neg z]
    exact w5.le (by omega)
  · rw [bl_num _ hh] at w5
    rw [if_pos z]
    exact w5.le (by omega)
end
end
/-! 60.tell2.lean.txt -/
section
def limP (h a b : Nat) : List Nat := wd 28 ++ numL h ++ [32] ++ numL a ++ wd 29 ++ numL b ++ [59]
def comP (w : List Nat) (v d h : Nat) (way : Int32) (f t : Nat) : List Nat := w ++ nmL v ++ [32] ++ dayL d ++ [32] ++ numL h ++ (if way = 0 then wd 29 else wd 32) ++ numL f ++ [45] ++ numL t
def serP (v d h : Nat) (way : Int32) (f t : Nat) (nw : Int32) : List Nat := comP (wd 31) v d h way f t ++ (if nw = 1 then wd 33 else wd 34)
def askP (v d h : Nat) (way : Int32) (f t b : Nat) : List Nat := comP (wd 35) v d h way f t ++ (if b = 0 then [] else wd 36 ++ numL b) ++ [59]
def carP (v : Nat) : List Nat := wd 30 ++ nmL v ++ [59]
theorem bl_e (l X : List Nat) : bl (l ++ (X ++ [59])) = [] := by
  rw [← List.append_assoc]
  exact bl_1 _ (by decide)
theorem ser_e (l : List Nat) (v d h : Nat) (way : Int32) (f t : Nat) (nw : Int32) : bl (l ++ serP v d h way f t nw) = [] := by
  unfold serP
  by_cases c : nw = 1
  · rw [if_pos c, wd_33, ← List.append_assoc]; exact bl_e _ _
  · rw [if_neg c, wd_34]; exact bl_e _ _
set_option maxHeartbeats 2000000 in
theorem v_X6_putLimit_0 {K : Sh} {x : Cn} {Q : Cn → Prop} {b0 : Nat} {l1 : Int32} {l2 : Int32} {l3 : Int32}  (k_b0 : kk K b0 = some (6, 0)) (K0 : mSV mX6_putWord [.ref b0, .ref (mSB + 2)] K x (fun y_1 => mSV mX6_putNumber [.ref b0, .int l1] K y_1 (fun y_2 => mSV mX6_putNumber [.ref b0, .int l2] K y_2 (fun y_3 => mSV mX6_putWord [.ref b0, .ref (mSB + 3)] K y_3 (fun y_4 => mSV mX6_putNumber [.ref b0, .int l3] K y_4 (fun y_5 => mSV mX6_putSign [.ref b0, .int 59] K y_5 (fun y_6 => Q y_6))))))) : mSV mX6_putLimit [.ref b0, .int l1, .int l2, .int l3] K x Q := by
  refine s_V (by decide) (by simp [Value.category]) (Nat.le_of_ble_eq_true rfl) ?_
  show mGM mX6_putLimit 0 [some (.ref b0), some (.int l1), some (.int l2), some (.int l3)] [] (hp K x) (PV K Q)
  refine r_aload_n (pc := 0) dX6_putLimit_0 rfl ?_
  refine r_ldcS (pc := 1) (j := 2) dX6_putLimit_1 rfl ?_
  refine s_VV (pc := 3) mX6_putWord (ci := 6) (a := b0) (As := [.ref (mSB + 2)]) dX6_putLimit_3 lk_X6_21 in_X6_putWord mo_X6_putWord ⟨by decide, rfl⟩ ⟨by decide, by decide⟩ (Nat.le_of_ble_eq_true rfl) k_b0 (mSV_mono K0 (fun y_1 K0 => ?_))
  refine r_aload_n (pc := 6) dX6_putLimit_6 rfl ?_
  refine r_iload_n (pc := 7) dX6_putLimit_7 rfl ?_
  refine s_VV (pc := 8) mX6_putNumber (ci := 6) (a := b0) (As := [.int l1]) dX6_putLimit_8 lk_X6_28 in_X6_putNumber mo_X6_putNumber ⟨by decide, rfl⟩ ⟨by decide, by decide⟩ (Nat.le_of_ble_eq_true rfl) k_b0 (mSV_mono K0 (fun y_2 K0 => ?_))
  refine r_aload_n (pc := 11) dX6_putLimit_11 rfl ?_
  refine r_iload_n (pc := 12) dX6_putLimit_12 rfl ?_
  refine s_VV (pc := 13) mX6_putNumber (ci := 6) (a := b0) (As := [.int l2]) dX6_putLimit_13 lk_X6_28 in_X6_putNumber mo_X6_putNumber ⟨by decide, rfl⟩ ⟨by decide, by decide⟩ (Nat.le_of_ble_eq_true rfl) k_b0 (mSV_mono K0 (fun y_3 K0 => ?_))
  refine r_aload_n (pc := 16) dX6_putLimit_16 rfl ?_
  refine r_ldcS (pc := 17) (j := 3) dX6_putLimit_17 rfl ?_
  refine s_VV (pc := 19) mX6_putWord (ci := 6) (a := b0) (As := [.ref (mSB + 3)]) dX6_putLimit_19 lk_X6_21 in_X6_putWord mo_X6_putWord ⟨by decide, rfl⟩ ⟨by decide, by decide⟩ (Nat.le_of_ble_eq_true rfl) k_b0 (mSV_mono K0 (fun y_4 K0 => ?_))
  refine r_aload_n (pc := 22) dX6_putLimit_22 rfl ?_
  refine r_iload_n (pc := 23) dX6_putLimit_23 rfl ?_
  refine s_VV (pc := 24) mX6_putNumber (ci := 6) (a := b0) (As := [.int l3]) dX6_putLimit_24 lk_X6_28 in_X6_putNumber mo_X6_putNumber ⟨by decide, rfl⟩ ⟨by decide, by decide⟩ (Nat.le_of_ble_eq_true rfl) k_b0 (mSV_mono K0 (fun y_5 K0 => ?_))
  refine r_aload_n (pc := 27) dX6_putLimit_27 rfl ?_
  refine r_bipush (pc := 28) (v := 59) dX6_putLimit_28 (by decide) ?_
  refine s_VV (pc := 30) mX6_putSign (ci := 6) (a := b0) (As := [.int 59]) dX6_putLimit_30 lk_X6_32 in_X6_putSign mo_X6_putSign ⟨by decide, rfl⟩ ⟨by decide, by decide⟩ (Nat.le_of_ble_eq_true rfl) k_b0 (mSV_mono K0 (fun y_6 K0 => ?_))
  exact s_ret rfl dX6_putLimit_33 K0
section
theorem sp_X6_putLimit {x : Cn} {Q : Cn → Prop} {l : List Nat} {B h a b : Nat} (hh : h < 100) (ha : a < 100) (hb : b < 100) (c : gr x 175 0 = some 176) (h0 : bl l = []) (w : WR x l B) (hB : B + 19 ≤ 2400) (k : ∀ y, WFr x y → WR y (l ++ limP h a b) (B + 19) → Q y) : mSV mX6_putLimit [.ref 175, .int (nI h), .int (nI a), .int (nI b)] KW x Q := by
  have cg : ∀ y : Cn, WFr x y → gr y 175 0 = some 176 := fun y fy => by unfold gr; rw [fy.1]; exact c
  refine v_X6_putLimit_0 k175 (sp_X6_putWord (j := 2) (m := 5) (mSq_at (by decide)) (by decide) c w (by omega) (fun y1 f1 w1 => ?_))
  rw [h0, List.append_nil] at w1
  refine sp_X6_putNumber hh (cg y1 f1) w1 (by omega) (fun y2 f2 w2 => ?_)
  rw [bl_wd _ (by decide) (by decide) (by decide)] at w2
  refine sp_X6_putNumber ha (cg y2 (f1.tr f2)) w2 (by omega) (fun y3 f3 w3 => ?_)
  rw [bl_num _ hh] at w3
  refine sp_X6_putWord (j := 3) (m := 2) (mSq_at (by decide)) (by decide) (cg y3 (f1.tr (f2.tr f3))) w3 (by omega) (fun y4 f4 w4 => ?_)
  rw [bl_num _ ha] at w4
  refine sp_X6_putNumber hb (cg y4 (f1.tr (f2.tr (f3.tr f4)))) w4 (by omega) (fun y5 f5 w5 => ?_)
  rw [bl_wd _ (by decide) (by decide) (by decide)] at w5
  refine sp_X6_putSign (n := 59) (by decide) (cg y5 (f1.tr (f2.tr (f3.tr (f4.tr f5))))) w5 (by omega) (fun y6 f6 w6 => k y6 (f1.tr (f2.tr (f3.tr (f4.tr (f5.tr f6))))) ?_)
  have e : l ++ wq (mSq 2) ++ [32] ++ numL h ++ [32] ++ numL a ++ [32] ++ wq (mSq 3) ++ [32] ++ numL b ++ [59] = l ++ limP h a b := by
    simp only [limP, wd_28, wd_29, List.append_assoc]
  rw [e] at w6
  exact w6.le (by omega)
theorem com_c {x : Cn} {Q : Cn → Prop} {l : List Nat} {B cr v d h f t j m : Nat} {way : Int32} (a0 a1 a2 a3 a5 a6 : Cn → Int32) (e0 : ∀ y, WFr x y → a0 y = nI cr) (e1 : ∀ y, WFr x y → a1 y = nI d) (e2 : ∀ y, WFr x y → a2 y = nI h) (e3 : ∀ y, WFr x y → a3 y = way) (e5 : ∀ y, WFr x y → a5 y = nI f) (e6 : ∀ y, WFr x y → a6 y = nI t) (hc : cr < 8) (hv0 : 0 < v) (hv1 : v < 387420489) (hv : ∀ i, i < 6 → gi x 57 (6 * cr + i) = nI (dg v i)) (hd : d < 7) (hh : h < 100) (hf : f < 100) (ht : t < 100) (hj : j < 11) (hj0 : j ≠ 0) (hj6 : j ≠ 6) (hm : (mSq j).2.2.2.length ≤ m) (c : gr x 175 0 = some 176) (c2 : gr x 56 1 = some 57) (h0 : bl l = []) (w : WR x l B) (hB : B + 26 + m ≤ 2400) (k : ∀ y, WFr x y → WR y (l ++ comP (wd j ++ [32]) v d h way f t) (B + 26 + m) → bl (l ++ comP (wd j ++ [32]) v d h way f t) = [32] → Q y) : mSV mX6_putWord [.ref 175, .ref (mSB + j)] KW x (fun y_1 => mSV mX6_putName [.ref 175, .ref 56, .int (a0 y_1)] KW y_1 (fun y_2 => mSV mX6_putPlace [.ref 175, .int (a1 y_2), .int (a2 y_2), .int (a3 y_2)] KW y_2 (fun y_3 => mSV mX6_putSpan [.ref 175, .int (a5 y_3), .int (a6 y_3)] KW y_3 Q))) := by
  have cg : ∀ y : Cn, WFr x y → gr y 175 0 = some 176 := fun y fy => by unfold gr; rw [fy.1]; exact c
  refine sp_X6_putWord (m := m) (mSq_at (by omega)) hm c w (by omega) (fun y1 f1 w1 => ?_)
  rw [h0, List.append_nil] at w1
  rw [e0 y1 f1]
  refine sp_X6_putName hc (v := v) (fun i hi => by rw [f1.2 57 _ (by decide) (by omega)]; exact hv i hi) (cg y1 f1) (by unfold gr; rw [f1.1]; exact c2) w1 (by omega) (fun y2 f2 w2 => ?_)
  rw [bl_wd _ hj hj0 hj6] at w2
  rw [e1 y2 (f1.tr f2), e2 y2 (f1.tr f2), e3 y2 (f1.tr f2)]
  refine sp_X6_putPlace hd hh (cg y2 (f1.tr f2)) w2 (by omega) (fun y3 f3 w3 => ?_)
  rw [bl_nm _ hv0 hv1] at w3
  rw [e5 y3 (f1.tr (f2.tr f3)), e6 y3 (f1.tr (f2.tr f3))]
  refine sp_X6_putSpan hf ht (cg y3 (f1.tr (f2.tr f3))) w3 (by omega) (fun y4 f4 w4 => ?_)
  have eb : ∀ X : List Nat, bl (X ++ (if way = 0 then wd 3 else wd 7)) = [32] := fun X => by
    by_cases cw : way = 0
    · rw [if_pos cw]; exact bl_wd _ (by decide) (by decide) (by decide)
    · rw [if_neg cw]; exact bl_wd _ (by decide) (by decide) (by decide)
  rw [eb] at w4
  have e : l ++ wq (mSq j) ++ [32] ++ nmL v ++ [32] ++ dayL d ++ [32] ++ numL h ++ [32] ++ (if way = 0 then wd 3 else wd 7) ++ [32] ++ numL f ++ [45] ++ numL t = l ++ comP (wd j ++ [32]) v d h way f t := by
    unfold comP
    by_cases cw : way = 0
    · rw [if_pos cw, if_pos cw, wd_29]; simp only [List.append_assoc]
    · rw [if_neg cw, if_neg cw, wd_32]; simp only [List.append_assoc]
  have eb2 : bl (l ++ comP (wd j ++ [32]) v d h way f t) = [32] := by
    rw [← e]; exact bl_num _ ht
  rw [e] at w4
  exact k y4 (f1.tr (f2.tr (f3.tr f4))) (w4.le (by omega)) eb2
end
set_option maxHeartbeats 2000000 in
theorem v_X6_putSeries_0 {K : Sh} {x : Cn} {Q : Cn → Prop} {b0 : Nat} {b1 : Nat} {b2 : Nat}  (k_b0 : kk K b0 = some (6, 0)) (k_b1 : kk K b1 = some (5, 0)) (K0 : mSV mX6_putWord [.ref b0, .ref (mSB + 5)] K x (fun y_1 => mSV mX6_putName [.ref b0, .ref b2, .int (gi y_1 b1 0)] K y_1 (fun y_2 => mSV mX6_putPlace [.ref b0, .int (gi y_2 b1 1), .int (gi y_2 b1 2), .int (gi y_2 b1 3)] K y_2 (fun y_3 => mSV mX6_putSpan [.ref b0, .int (gi y_3 b1 5), .int (gi y_3 b1 6)] K y_3 (fun y_4 => ((gi y_4 b1 4) = 0 → (mSV mX6_putSign [.ref b0, .int 59] K y_4 (fun y_6 => Q y_6))) ∧ (¬ (gi y_4 b1 4) = 0 → (mSV mX6_putWord [.ref b0, .ref (mSB + 8)] K y_4 (fun y_7 => mSV mX6_putSign [.ref b0, .int 59] K y_7 (fun y_8 => Q y_8))))))))) : mSV mX6_putSeries [.ref b0, .ref b1, .ref b2] K x Q := by
  refine s_V (by decide) (by simp [Value.category]) (Nat.le_of_ble_eq_true rfl) ?_
  show mGM mX6_putSeries 0 [some (.ref b0), some (.ref b1), some (.ref b2)] [] (hp K x) (PV K Q)
  refine r_aload_n (pc := 0) dX6_putSeries_0 rfl ?_
  refine r_ldcS (pc := 1) (j := 5) dX6_putSeries_1 rfl ?_
  refine s_VV (pc := 3) mX6_putWord (ci := 6) (a := b0) (As := [.ref (mSB + 5)]) dX6_putSeries_3 lk_X6_21 in_X6_putWord mo_X6_putWord ⟨by decide, rfl⟩ ⟨by decide, by decide⟩ (Nat.le_of_ble_eq_true rfl) k_b0 (mSV_mono K0 (fun y_1 K0 => ?_))
  refine r_aload_n (pc := 6) dX6_putSeries_6 rfl ?_
  refine r_aload_n (pc := 7) dX6_putSeries_7 rfl ?_
  refine r_aload_n (pc := 8) dX6_putSeries_8 rfl ?_
  refine s_getI (pc := 9) dX6_putSeries_9 fl_X6_86 rfl k_b1 ?_
  refine s_VV (pc := 12) mX6_putName (ci := 6) (a := b0) (As := [.ref b2, .int (gi y_1 b1 0)]) dX6_putSeries_12 lk_X6_54 in_X6_putName mo_X6_putName ⟨by decide, rfl⟩ ⟨by decide, by decide⟩ (Nat.le_of_ble_eq_true rfl) k_b0 (mSV_mono K0 (fun y_2 K0 => ?_))
  refine r_aload_n (pc := 15) dX6_putSeries_15 rfl ?_
  refine r_aload_n (pc := 16) dX6_putSeries_16 rfl ?_
  refine s_getI (pc := 17) dX6_putSeries_17 fl_X6_90 rfl k_b1 ?_
  refine r_aload_n (pc := 20) dX6_putSeries_20 rfl ?_
  refine s_getI (pc := 21) dX6_putSeries_21 fl_X6_93 rfl k_b1 ?_
  refine r_aload_n (pc := 24) dX6_putSeries_24 rfl ?_
  refine s_getI (pc := 25) dX6_putSeries_25 fl_X6_96 rfl k_b1 ?_
  refine s_VV (pc := 28) mX6_putPlace (ci := 6) (a := b0) (As := [.int (gi y_2 b1 1), .int (gi y_2 b1 2), .int (gi y_2 b1 3)]) dX6_putSeries_28 lk_X6_99 in_X6_putPlace mo_X6_putPlace ⟨by decide, rfl⟩ ⟨by decide, by decide⟩ (Nat.le_of_ble_eq_true rfl) k_b0 (mSV_mono K0 (fun y_3 K0 => ?_))
  refine r_aload_n (pc := 31) dX6_putSeries_31 rfl ?_
  refine r_aload_n (pc := 32) dX6_putSeries_32 rfl ?_
  refine s_getI (pc := 33) dX6_putSeries_33 fl_X6_102 rfl k_b1 ?_
  refine r_aload_n (pc := 36) dX6_putSeries_36 rfl ?_
  refine s_getI (pc := 37) dX6_putSeries_37 fl_X6_105 rfl k_b1 ?_
  refine s_VV (pc := 40) mX6_putSpan (ci := 6) (a := b0) (As := [.int (gi y_3 b1 5), .int (gi y_3 b1 6)]) dX6_putSeries_40 lk_X6_108 in_X6_putSpan mo_X6_putSpan ⟨by decide, rfl⟩ ⟨by decide, by decide⟩ (Nat.le_of_ble_eq_true rfl) k_b0 (mSV_mono K0 (fun y_4 K0 => ?_))
  refine r_aload_n (pc := 43) dX6_putSeries_43 rfl ?_
  refine s_getI (pc := 44) dX6_putSeries_44 fl_X6_112 rfl k_b1 ?_
  refine r_if_eq (pc := 47) (tgt := 56) dX6_putSeries_47 (by decide) (fun q => ?_) (fun q => ?_)
  · have K0 := K0.1 q
    refine r_aload_n (pc := 56) dX6_putSeries_56 rfl ?_
    refine r_bipush (pc := 57) (v := 59) dX6_putSeries_57 (by decide) ?_
    refine s_VV (pc := 59) mX6_putSign (ci := 6) (a := b0) (As := [.int 59]) dX6_putSeries_59 lk_X6_32 in_X6_putSign mo_X6_putSign ⟨by decide, rfl⟩ ⟨by decide, by decide⟩ (Nat.le_of_ble_eq_true rfl) k_b0 (mSV_mono K0 (fun y_6 K0 => ?_))
    exact s_ret rfl dX6_putSeries_62 K0
  · have K0 := K0.2 q
    refine r_aload_n (pc := 50) dX6_putSeries_50 rfl ?_
    refine r_ldcS (pc := 51) (j := 8) dX6_putSeries_51 rfl ?_
    refine s_VV (pc := 53) mX6_putWord (ci := 6) (a := b0) (As := [.ref (mSB + 8)]) dX6_putSeries_53 lk_X6_21 in_X6_putWord mo_X6_putWord ⟨by decide, rfl⟩ ⟨by decide, by decide⟩ (Nat.le_of_ble_eq_true rfl) k_b0 (mSV_mono K0 (fun y_7 K0 => ?_))
    refine r_aload_n (pc := 56) dX6_putSeries_56 rfl ?_
    refine r_bipush (pc := 57) (v := 59) dX6_putSeries_57 (by decide) ?_
    refine s_VV (pc := 59) mX6_putSign (ci := 6) (a := b0) (As := [.int 59]) dX6_putSeries_59 lk_X6_32 in_X6_putSign mo_X6_putSign ⟨by decide, rfl⟩ ⟨by decide, by decide⟩ (Nat.le_of_ble_eq_true rfl) k_b0 (mSV_mono K0 (fun y_8 K0 => ?_))
    exact s_ret rfl dX6_putSeries_62 K0
section
theorem sp_X6_putSeries {x : Cn} {Q : Cn → Prop} {l : List Nat} {B cr v d h f t p : Nat} {way nw : Int32} (hp : 2 ≤ p ∧ p < 56) (kp : kk KW p = some (5, 0)) (p0 : gi x p 0 = nI cr) (p1 : gi x p 1 = nI d) (p2 : gi x p 2 = nI h) (p3 : gi x p 3 = way) (p4 : gi x p 4 = nw) (p5 : gi x p 5 = nI f) (p6 : gi x p 6 = nI t) (hn : nw = 0 ∨ nw = 1) (hc : cr < 8) (hv0 : 0 < v) (hv1 : v < 387420489) (hv : ∀ i, i < 6 → gi x 57 (6 * cr + i) = nI (dg v i)) (hd : d < 7) (hh : h < 100) (hf : f < 100) (ht : t < 100) (c : gr x 175 0 = some 176) (c2 : gr x 56 1 = some 57) (h0 : bl l = []) (w : WR x l B) (hB : B + 37 ≤ 2400) (k : ∀ y, WFr x y → WR y (l ++ serP v d h way f t nw) (B + 37) → Q y) : mSV mX6_putSeries [.ref 175, .ref p, .ref 56] KW x Q := by
  have cg : ∀ y : Cn, WFr x y → gr y 175 0 = some 176 := fun y fy => by unfold gr; rw [fy.1]; exact c
  have pg : ∀ (y : Cn) i, WFr x y → gi y p i = gi x p i := fun y i fy => fy.2 p i (by omega) (by omega)
  refine v_X6_putSeries_0 k175 kp (com_c (x := x) (l := l) (B := B) (cr := cr) (v := v) (d := d) (h := h) (f := f) (t := t) (j := 5) (m := 6) (way := way) (fun y => gi y p 0) (fun y => gi y p 1) (fun y => gi y p 2) (fun y => gi y p 3) (fun y => gi y p 5) (fun y => gi y p 6) (fun y fy => (pg y 0 fy).trans p0) (fun y fy => (pg y 1 fy).trans p1) (fun y fy => (pg y 2 fy).trans p2) (fun y fy => (pg y 3 fy).trans p3) (fun y fy => (pg y 5 fy).trans p5) (fun y fy => (pg y 6 fy).trans p6) hc hv0 hv1 hv hd hh hf ht (by decide) (by decide) (by decide) (by decide) c c2 h0 w (by omega) (fun y fy wy hb => ?_))
  rw [pg y 4 fy, p4]
  refine ⟨fun z => sp_X6_putSign (n := 59) (by decide) (cg y fy) wy (by omega) (fun u fu wu => k u (fy.tr fu) ?_), fun z => sp_X6_putWord (j := 8) (m := 3) (mSq_at (by decide)) (by decide) (cg y fy) wy (by omega) (fun u fu wu => sp_X6_putSign (n := 59) (by decide) (cg u (fy.tr fu)) wu (by omega) (fun v' fv wv => k v' (fy.tr (fu.tr fv)) ?_))⟩
  · unfold serP
    rw [if_neg (by rw [z]; decide), wd_34, wd_31, ← List.append_assoc]
    exact wu.le (by omega)
  · unfold serP
    rw [if_pos (hn.resolve_left z), wd_33, wd_31]
    rw [hb] at wv
    have e : l ++ (comP (wd 5 ++ [32]) v d h way f t ++ ([32] ++ wd 8 ++ [59])) = l ++ comP (wd 5 ++ [32]) v d h way f t ++ [32] ++ wq (mSq 8) ++ [59] := by simp only [List.append_assoc]
    rw [e]
    exact wv.le (by omega)
end
set_option maxHeartbeats 2000000 in
theorem v_X6_putAsk_0 {K : Sh} {x : Cn} {Q : Cn → Prop} {b0 : Nat} {b1 : Nat} {b2 : Nat}  (k_b0 : kk K b0 = some (6, 0)) (k_b1 : kk K b1 = some (0, 0)) (K0 : mSV mX6_putWord [.ref b0, .ref (mSB + 9)] K x (fun y_1 => mSV mX6_putName [.ref b0, .ref b2, .int (gi y_1 b1 0)] K y_1 (fun y_2 => mSV mX6_putPlace [.ref b0, .int (gi y_2 b1 1), .int (gi y_2 b1 2), .int (gi y_2 b1 3)] K y_2 (fun y_3 => mSV mX6_putSpan [.ref b0, .int (gi y_3 b1 4), .int (gi y_3 b1 5)] K y_3 (fun y_4 => ((gi y_4 b1 6) ≤ 0 → (mSV mX6_putSign [.ref b0, .int 59] K y_4 (fun y_6 => Q y_6))) ∧ (¬ (gi y_4 b1 6) ≤ 0 → (mSV mX6_putWord [.ref b0, .ref (mSB + 10)] K y_4 (fun y_7 => mSV mX6_putNumber [.ref b0, .int (gi y_7 b1 6)] K y_7 (fun y_8 => mSV mX6_putSign [.ref b0, .int 59] K y_8 (fun y_9 => Q y_9)))))))))) : mSV mX6_putAsk [.ref b0, .ref b1, .ref b2] K x Q := by
  refine s_V (by decide) (by simp [Value.category]) (Nat.le_of_ble_eq_true rfl) ?_
  show mGM mX6_putAsk 0 [some (.ref b0), some (.ref b1), some (.ref b2)] [] (hp K x) (PV K Q)
  refine r_aload_n (pc := 0) dX6_putAsk_0 rfl ?_
  refine r_ldcS (pc := 1) (j := 9) dX6_putAsk_1 rfl ?_
  refine s_VV (pc := 3) mX6_putWord (ci := 6) (a := b0) (As := [.ref (mSB + 9)]) dX6_putAsk_3 lk_X6_21 in_X6_putWord mo_X6_putWord ⟨by decide, rfl⟩ ⟨by decide, by decide⟩ (Nat.le_of_ble_eq_true rfl) k_b0 (mSV_mono K0 (fun y_1 K0 => ?_))
  refine r_aload_n (pc := 6) dX6_putAsk_6 rfl ?_
  refine r_aload_n (pc := 7) dX6_putAsk_7 rfl ?_
  refine r_aload_n (pc := 8) dX6_putAsk_8 rfl ?_
  refine s_getI (pc := 9) dX6_putAsk_9 fl_X6_120 rfl k_b1 ?_
  refine s_VV (pc := 12) mX6_putName (ci := 6) (a := b0) (As := [.ref b2, .int (gi y_1 b1 0)]) dX6_putAsk_12 lk_X6_54 in_X6_putName mo_X6_putName ⟨by decide, rfl⟩ ⟨by decide, by decide⟩ (Nat.le_of_ble_eq_true rfl) k_b0 (mSV_mono K0 (fun y_2 K0 => ?_))
  refine r_aload_n (pc := 15) dX6_putAsk_15 rfl ?_
  refine r_aload_n (pc := 16) dX6_putAsk_16 rfl ?_
  refine s_getI (pc := 17) dX6_putAsk_17 fl_X6_123 rfl k_b1 ?_
  refine r_aload_n (pc := 20) dX6_putAsk_20 rfl ?_
  refine s_getI (pc := 21) dX6_putAsk_21 fl_X6_124 rfl k_b1 ?_
  refine r_aload_n (pc := 24) dX6_putAsk_24 rfl ?_
  refine s_getI (pc := 25) dX6_putAsk_25 fl_X6_125 rfl k_b1 ?_
  refine s_VV (pc := 28) mX6_putPlace (ci := 6) (a := b0) (As := [.int (gi y_2 b1 1), .int (gi y_2 b1 2), .int (gi y_2 b1 3)]) dX6_putAsk_28 lk_X6_99 in_X6_putPlace mo_X6_putPlace ⟨by decide, rfl⟩ ⟨by decide, by decide⟩ (Nat.le_of_ble_eq_true rfl) k_b0 (mSV_mono K0 (fun y_3 K0 => ?_))
  refine r_aload_n (pc := 31) dX6_putAsk_31 rfl ?_
  refine r_aload_n (pc := 32) dX6_putAsk_32 rfl ?_
  refine s_getI (pc := 33) dX6_putAsk_33 fl_X6_126 rfl k_b1 ?_
  refine r_aload_n (pc := 36) dX6_putAsk_36 rfl ?_
  refine s_getI (pc := 37) dX6_putAsk_37 fl_X6_127 rfl k_b1 ?_
  refine s_VV (pc := 40) mX6_putSpan (ci := 6) (a := b0) (As := [.int (gi y_3 b1 4), .int (gi y_3 b1 5)]) dX6_putAsk_40 lk_X6_108 in_X6_putSpan mo_X6_putSpan ⟨by decide, rfl⟩ ⟨by decide, by decide⟩ (Nat.le_of_ble_eq_true rfl) k_b0 (mSV_mono K0 (fun y_4 K0 => ?_))
  refine r_aload_n (pc := 43) dX6_putAsk_43 rfl ?_
  refine s_getI (pc := 44) dX6_putAsk_44 fl_X6_128 rfl k_b1 ?_
  refine r_if_le (pc := 47) (tgt := 64) dX6_putAsk_47 (by decide) (fun q => ?_) (fun q => ?_)
  · have K0 := K0.1 q
    refine r_aload_n (pc := 64) dX6_putAsk_64 rfl ?_
    refine r_bipush (pc := 65) (v := 59) dX6_putAsk_65 (by decide) ?_
    refine s_VV (pc := 67) mX6_putSign (ci := 6) (a := b0) (As := [.int 59]) dX6_putAsk_67 lk_X6_32 in_X6_putSign mo_X6_putSign ⟨by decide, rfl⟩ ⟨by decide, by decide⟩ (Nat.le_of_ble_eq_true rfl) k_b0 (mSV_mono K0 (fun y_6 K0 => ?_))
    exact s_ret rfl dX6_putAsk_70 K0
  · have K0 := K0.2 q
    refine r_aload_n (pc := 50) dX6_putAsk_50 rfl ?_
    refine r_ldcS (pc := 51) (j := 10) dX6_putAsk_51 rfl ?_
    refine s_VV (pc := 53) mX6_putWord (ci := 6) (a := b0) (As := [.ref (mSB + 10)]) dX6_putAsk_53 lk_X6_21 in_X6_putWord mo_X6_putWord ⟨by decide, rfl⟩ ⟨by decide, by decide⟩ (Nat.le_of_ble_eq_true rfl) k_b0 (mSV_mono K0 (fun y_7 K0 => ?_))
    refine r_aload_n (pc := 56) dX6_putAsk_56 rfl ?_
    refine r_aload_n (pc := 57) dX6_putAsk_57 rfl ?_
    refine s_getI (pc := 58) dX6_putAsk_58 fl_X6_128 rfl k_b1 ?_
    refine s_VV (pc := 61) mX6_putNumber (ci := 6) (a := b0) (As := [.int (gi y_7 b1 6)]) dX6_putAsk_61 lk_X6_28 in_X6_putNumber mo_X6_putNumber ⟨by decide, rfl⟩ ⟨by decide, by decide⟩ (Nat.le_of_ble_eq_true rfl) k_b0 (mSV_mono K0 (fun y_8 K0 => ?_))
    refine r_aload_n (pc := 64) dX6_putAsk_64 rfl ?_
    refine r_bipush (pc := 65) (v := 59) dX6_putAsk_65 (by decide) ?_
    refine s_VV (pc := 67) mX6_putSign (ci := 6) (a := b0) (As := [.int 59]) dX6_putAsk_67 lk_X6_32 in_X6_putSign mo_X6_putSign ⟨by decide, rfl⟩ ⟨by decide, by decide⟩ (Nat.le_of_ble_eq_true rfl) k_b0 (mSV_mono K0 (fun y_9 K0 => ?_))
    exact s_ret rfl dX6_putAsk_70 K0
section
theorem sp_X6_putAsk {x : Cn} {Q : Cn → Prop} {l : List Nat} {B cr v d h f t b p : Nat} {way : Int32} (hp : 2 ≤ p ∧ p < 56) (kp : kk KW p = some (0, 0)) (p0 : gi x p 0 = nI cr) (p1 : gi x p 1 = nI d) (p2 : gi x p 2 = nI h) (p3 : gi x p 3 = way) (p4 : gi x p 4 = nI f) (p5 : gi x p 5 = nI t) (p6 : gi x p 6 = nI b) (hb9 : b ≤ 9) (hc : cr < 8) (hv0 : 0 < v) (hv1 : v < 387420489) (hv : ∀ i, i < 6 → gi x 57 (6 * cr + i) = nI (dg v i)) (hd : d < 7) (hh : h < 100) (hf : f < 100) (ht : t < 100) (c : gr x 175 0 = some 176) (c2 : gr x 56 1 = some 57) (h0 : bl l = []) (w : WR x l B) (hB : B + 36 ≤ 2400) (k : ∀ y, WFr x y → WR y (l ++ askP v d h way f t b) (B + 36) → Q y) : mSV mX6_putAsk [.ref 175, .ref p, .ref 56] KW x Q := by
  have cg : ∀ y : Cn, WFr x y → gr y 175 0 = some 176 := fun y fy => by unfold gr; rw [fy.1]; exact c
  have pg : ∀ (y : Cn) i, WFr x y → gi y p i = gi x p i := fun y i fy => fy.2 p i (by omega) (by omega)
  refine v_X6_putAsk_0 k175 kp (com_c (x := x) (l := l) (B := B) (cr := cr) (v := v) (d := d) (h := h) (f := f) (t := t) (j := 9) (m := 3) (way := way) (fun y => gi y p 0) (fun y => gi y p 1) (fun y => gi y p 2) (fun y => gi y p 3) (fun y => gi y p 4) (fun y => gi y p 5) (fun y fy => (pg y 0 fy).trans p0) (fun y fy => (pg y 1 fy).trans p1) (fun y fy => (pg y 2 fy).trans p2) (fun y fy => (pg y 3 fy).trans p3) (fun y fy => (pg y 4 fy).trans p4) (fun y fy => (pg y 5 fy).trans p5) hc hv0 hv1 hv hd hh hf ht (by decide) (by decide) (by decide) (by decide) c c2 h0 w (by omega) (fun y fy wy hb => ?_))
  rw [pg y 6 fy, p6, show nI b ≤ 0 ↔ b ≤ 0 from nI_leI (b := 0) (by omega) (by decide)]
  refine ⟨fun z => sp_X6_putSign (n := 59) (by decide) (cg y fy) wy (by omega) (fun u fu wu => k u (fy.tr fu) ?_), fun z => sp_X6_putWord (j := 10) (m := 2) (mSq_at (by decide)) (by decide) (cg y fy) wy (by omega) (fun u fu wu => ?_)⟩
  · unfold askP
    rw [if_pos (by omega), wd_35, List.append_nil, ← List.append_assoc]
    exact wu.le (by omega)
  · rw [pg u 6 (fy.tr fu), p6]
    refine sp_X6_putNumber (n := b) (by omega) (cg u (fy.tr fu)) wu (by omega) (fun u2 f2 w2 => sp_X6_putSign (n := 59) (by decide) (cg u2 (fy.tr (fu.tr f2))) w2 (by omega) (fun v' fv wv => k v' (fy.tr (fu.tr (f2.tr fv))) ?_))
    unfold askP
    rw [if_neg (by omega), wd_36, wd_35]
    rw [hb, bl_wd _ (by decide) (by decide) (by decide)] at wv
    have e : l ++ (comP (wd 9 ++ [32]) v d h way f t ++ ([32] ++ wd 10 ++ [32] ++ numL b) ++ [59]) = l ++ comP (wd 9 ++ [32]) v d h way f t ++ [32] ++ wq (mSq 10) ++ [32] ++ numL b ++ [59] := by simp only [List.append_assoc]
    rw [e]
    exact wv.le (by omega)
/-- the whole told -/
def nmv (T : TT) (c : Nat) : Nat := (T (54 + c)).toNatClampNeg
def limT (T : TT) (h : Nat) : List Nat := if T (6 + 2 * h) = 4 ∧ T (7 + 2 * h) = 4 then [] else limP h (T (6 + 2 * h)).toNatClampNeg (T (7 + 2 * h)).toNatClampNeg
def serT (T : TT) (s : Nat) : List Nat := serP (nmv T (so T s 0).toNatClampNeg) (so T s 1).toNatClampNeg (so T s 2).toNatClampNeg (so T s 3) (so T s 5).toNatClampNeg (so T s 6).toNatClampNeg (so T s 4)
def askS (T : TT) (a : Nat) : List Nat := askP (nmv T (ao T a 0).toNatClampNeg) (ao T a 1).toNatClampNeg (ao T a 2).toNatClampNeg (ao T a 3) (ao T a 4).toNatClampNeg (ao T a 5).toNatClampNeg (ao T a 6).toNatClampNeg
def tl0 (W : Nat) : List Nat := wd 27 ++ numL W ++ [59]
def tl1 (T : TT) (W : Nat) : List Nat := accT (fun h l => l ++ limT T h) 24 (tl0 W)
def tl2 (T : TT) (W C : Nat) : List Nat := accT (fun c l => l ++ carP (nmv T c)) C (tl1 T W)
def tl3 (T : TT) (W C S : Nat) : List Nat := accT (fun s l => l ++ serT T s) S (tl2 T W C)
def tl4 (T : TT) (W C S A : Nat) : List Nat := accT (fun a l => l ++ askS T a) A (tl3 T W C S)
end
set_option maxHeartbeats 2000000 in
theorem v_X6_write_0 {K : Sh} {x : Cn} {Q : Int32 → Cn → Prop} {b0 : Nat} {b1 : Nat} {b2 : Nat}  (k_b0 : kk K b0 = some (6, 0)) (k_b1 : kk K b1 = some (4, 0)) (K0 : mSV mX6_putWord [.ref b0, .ref (mSB + 1)] K (ui x b0 1 0) (fun y_1 => mSV mX6_putNumber [.ref b0, .int (gi y_1 b1 0)] K y_1 (fun y_2 => mSV mX6_putSign [.ref b0, .int 59] K y_2 (fun y_3 => GI mX6_write 27 [some (.ref b0), some (.ref b1), some (.ref b2), some (.int 0)] [] K y_3 Q)))) : mSI mX6_write [.ref b0, .ref b1, .ref b2] K x Q := by
  refine s_I (by decide) (by simp [Value.category]) (Nat.le_of_ble_eq_true rfl) ?_
  show mGM mX6_write 0 [some (.ref b0), some (.ref b1), some (.ref b2), none] [] (hp K x) (PI K Q)
  refine r_aload_n (pc := 0) dX6_write_0 rfl ?_
  refine r_iconst (pc := 1) (v := 0) dX6_write_1 (by decide) ?_
  refine s_putI (pc := 2) dX6_write_2 fl_X6_15 rfl rfl k_b0 ?_
  refine r_aload_n (pc := 5) dX6_write_5 rfl ?_
  refine r_ldcS (pc := 6) (j := 1) dX6_write_6 rfl ?_
  refine s_VV (pc := 8) mX6_putWord (ci := 6) (a := b0) (As := [.ref (mSB + 1)]) dX6_write_8 lk_X6_21 in_X6_putWord mo_X6_putWord ⟨by decide, rfl⟩ ⟨by decide, by decide⟩ (Nat.le_of_ble_eq_true rfl) k_b0 (mSV_mono K0 (fun y_1 K0 => ?_))
  refine r_aload_n (pc := 11) dX6_write_11 rfl ?_
  refine r_aload_n (pc := 12) dX6_write_12 rfl ?_
  refine s_getI (pc := 13) dX6_write_13 fl_X6_25 rfl k_b1 ?_
  refine s_VV (pc := 16) mX6_putNumber (ci := 6) (a := b0) (As := [.int (gi y_1 b1 0)]) dX6_write_16 lk_X6_28 in_X6_putNumber mo_X6_putNumber ⟨by decide, rfl⟩ ⟨by decide, by decide⟩ (Nat.le_of_ble_eq_true rfl) k_b0 (mSV_mono K0 (fun y_2 K0 => ?_))
  refine r_aload_n (pc := 19) dX6_write_19 rfl ?_
  refine r_bipush (pc := 20) (v := 59) dX6_write_20 (by decide) ?_
  refine s_VV (pc := 22) mX6_putSign (ci := 6) (a := b0) (As := [.int 59]) dX6_write_22 lk_X6_32 in_X6_putSign mo_X6_putSign ⟨by decide, rfl⟩ ⟨by decide, by decide⟩ (Nat.le_of_ble_eq_true rfl) k_b0 (mSV_mono K0 (fun y_3 K0 => ?_))
  refine r_iconst (pc := 25) (v := 0) dX6_write_25 (by decide) ?_
  refine r_istore_n (pc := 26) dX6_write_26 (by decide) ?_
  exact r_le (L' := [some (.ref b0), some (.ref b1), some (.ref b2), some (.int 0)]) ⟨rfl, ⟨rfl, ⟨rfl, ⟨rfl, trivial⟩⟩⟩⟩ K0
set_option maxHeartbeats 2000000 in
theorem v_X6_write_27 {K : Sh} {x : Cn} {Q : Int32 → Cn → Prop} {b0 : Nat} {b1 : Nat} {b2 : Nat} {l3 : Int32} {b1_5 : Nat} {n_b1_5 : Nat} {b1_6 : Nat} {n_b1_6 : Nat} (k_b1 : kk K b1 = some (4, 0)) (g_b1_5 : gr x b1 5 = some b1_5) (k_b1_5 : kk K b1_5 = some (20, n_b1_5)) (g_b1_6 : gr x b1 6 = some b1_6) (k_b1_6 : kk K b1_6 = some (20, n_b1_6)) (k_b0 : kk K b0 = some (6, 0)) (K0 : (24 ≤ l3 → (GI mX6_write 78 [some (.ref b0), some (.ref b1), some (.ref b2), some (.int 0)] [] K x Q)) ∧ (¬ 24 ≤ l3 → (vp_in l3 n_b1_5 ∧ ((¬ (gi x b1_5 (l3 : Int32).toNatClampNeg) = 4 → (vp_in l3 n_b1_6 ∧ (mSV mX6_putLimit [.ref b0, .int l3, .int (gi x b1_5 (l3 : Int32).toNatClampNeg), .int (gi x b1_6 (l3 : Int32).toNatClampNeg)] K x (fun y_5 => GI mX6_write 27 [some (.ref b0), some (.ref b1), some (.ref b2), some (.int (l3 + 1))] [] K y_5 Q)))) ∧ ((gi x b1_5 (l3 : Int32).toNatClampNeg) = 4 → (vp_in l3 n_b1_6 ∧ (((gi x b1_6 (l3 : Int32).toNatClampNeg) = 4 → (GI mX6_write 27 [some (.ref b0), some (.ref b1), some (.ref b2), some (.int (l3 + 1))] [] K x Q)) ∧ (¬ (gi x b1_6 (l3 : Int32).toNatClampNeg) = 4 → (mSV mX6_putLimit [.ref b0, .int l3, .int (gi x b1_5 (l3 : Int32).toNatClampNeg), .int (gi x b1_6 (l3 : Int32).toNatClampNeg)] K x (fun y_8 => GI mX6_write 27 [some (.ref b0), some (.ref b1), some (.ref b2), some (.int (l3 + 1))] [] K y_8 Q)))))))))) : GI mX6_write 27 [some (.ref b0), some (.ref b1), some (.ref b2), some (.int l3)] [] K x Q := by
  show mGM mX6_write 27 [some (.ref b0), some (.ref b1), some (.ref b2), some (.int l3)] [] (hp K x) (PI K Q)
  refine r_iload_n (pc := 27) dX6_write_27 rfl ?_
  refine r_bipush (pc := 28) (v := 24) dX6_write_28 (by decide) ?_
  refine r_icmp_ge (pc := 30) (tgt := 76) dX6_write_30 (by decide) (fun q => ?_) (fun q => ?_)
  · have K0 := K0.1 q
    refine r_iconst (pc := 76) (v := 0) dX6_write_76 (by decide) ?_
    refine r_istore_n (pc := 77) dX6_write_77 (by decide) ?_
    exact r_le (L' := [some (.ref b0), some (.ref b1), some (.ref b2), some (.int 0)]) ⟨rfl, ⟨rfl, ⟨rfl, ⟨rfl, trivial⟩⟩⟩⟩ K0
  · have K0 := K0.2 q
    refine r_aload_n (pc := 33) dX6_write_33 rfl ?_
    refine s_getR (pc := 34) dX6_write_34 fl_X6_36 rfl k_b1 g_b1_5 ?_
    refine r_iload_n (pc := 37) dX6_write_37 rfl ?_
    obtain ⟨i_2, K0⟩ := K0
    refine s_iald (pc := 38) dX6_write_38 k_b1_5 i_2 ?_
    refine r_iconst (pc := 39) (v := 4) dX6_write_39 (by decide) ?_
    refine r_icmp_ne (pc := 40) (tgt := 53) dX6_write_40 (by decide) (fun q => ?_) (fun q => ?_)
    · have K0 := K0.1 q
      refine r_aload_n (pc := 53) dX6_write_53 rfl ?_
      refine r_iload_n (pc := 54) dX6_write_54 rfl ?_
      refine r_aload_n (pc := 55) dX6_write_55 rfl ?_
      refine s_getR (pc := 56) dX6_write_56 fl_X6_36 rfl k_b1 g_b1_5 ?_
      refine r_iload_n (pc := 59) dX6_write_59 rfl ?_
      refine s_iald (pc := 60) dX6_write_60 k_b1_5 i_2 ?_
      refine r_aload_n (pc := 61) dX6_write_61 rfl ?_
      refine s_getR (pc := 62) dX6_write_62 fl_X6_40 rfl k_b1 g_b1_6 ?_
      refine r_iload_n (pc := 65) dX6_write_65 rfl ?_
      obtain ⟨i_4, K0⟩ := K0
      refine s_iald (pc := 66) dX6_write_66 k_b1_6 i_4 ?_
      refine s_VV (pc := 67) mX6_putLimit (ci := 6) (a := b0) (As := [.int l3, .int (gi x b1_5 (l3 : Int32).toNatClampNeg), .int (gi x b1_6 (l3 : Int32).toNatClampNeg)]) dX6_write_67 lk_X6_43 in_X6_putLimit mo_X6_putLimit ⟨by decide, rfl⟩ ⟨by decide, by decide⟩ (Nat.le_of_ble_eq_true rfl) k_b0 (mSV_mono K0 (fun y_5 K0 => ?_))
      refine r_iinc (pc := 70) (v := l3 + 1) dX6_write_70 rfl rfl (by decide) ?_
      refine r_goto (pc := 73) (L := [some (.ref b0), some (.ref b1), some (.ref b2), some (.int (l3 + 1))]) (tgt := 27) dX6_write_73 (by decide) ?_
      exact r_le (L' := [some (.ref b0), some (.ref b1), some (.ref b2), some (.int (l3 + 1))]) ⟨rfl, ⟨rfl, ⟨rfl, ⟨rfl, trivial⟩⟩⟩⟩ K0
    · have K0 := K0.2 q
      refine r_aload_n (pc := 43) dX6_write_43 rfl ?_
      refine s_getR (pc := 44) dX6_write_44 fl_X6_40 rfl k_b1 g_b1_6 ?_
      refine r_iload_n (pc := 47) dX6_write_47 rfl ?_
      obtain ⟨i_6, K0⟩ := K0
      refine s_iald (pc := 48) dX6_write_48 k_b1_6 i_6 ?_
      refine r_iconst (pc := 49) (v := 4) dX6_write_49 (by decide) ?_
      refine r_icmp_eq (pc := 50) (tgt := 70) dX6_write_50 (by decide) (fun q => ?_) (fun q => ?_)
      · have K0 := K0.1 q
        refine r_iinc (pc := 70) (v := l3 + 1) dX6_write_70 rfl rfl (by decide) ?_
        refine r_goto (pc := 73) (L := [some (.ref b0), some (.ref b1), some (.ref b2), some (.int (l3 + 1))]) (tgt := 27) dX6_write_73 (by decide) ?_
        exact r_le (L' := [some (.ref b0), some (.ref b1), some (.ref b2), some (.int (l3 + 1))]) ⟨rfl, ⟨rfl, ⟨rfl, ⟨rfl, trivial⟩⟩⟩⟩ K0
      · have K0 := K0.2 q
        refine r_aload_n (pc := 53) dX6_write_53 rfl ?_
        refine r_iload_n (pc := 54) dX6_write_54 rfl ?_
        refine r_aload_n (pc := 55) dX6_write_55 rfl ?_
        refine s_getR (pc := 56) dX6_write_56 fl_X6_36 rfl k_b1 g_b1_5 ?_
        refine r_iload_n (pc := 59) dX6_write_59 rfl ?_
        refine s_iald (pc := 60) dX6_write_60 k_b1_5 i_2 ?_
        refine r_aload_n (pc := 61) dX6_write_61 rfl ?_
        refine s_getR (pc := 62) dX6_write_62 fl_X6_40 rfl k_b1 g_b1_6 ?_
        refine r_iload_n (pc := 65) dX6_write_65 rfl ?_
        refine s_iald (pc := 66) dX6_write_66 k_b1_6 i_6 ?_
        refine s_VV (pc := 67) mX6_putLimit (ci := 6) (a := b0) (As := [.int l3, .int (gi x b1_5 (l3 : Int32).toNatClampNeg), .int (gi x b1_6 (l3 : Int32).toNatClampNeg)]) dX6_write_67 lk_X6_43 in_X6_putLimit mo_X6_putLimit ⟨by decide, rfl⟩ ⟨by decide, by decide⟩ (Nat.le_of_ble_eq_true rfl) k_b0 (mSV_mono K0 (fun y_8 K0 => ?_))
        refine r_iinc (pc := 70) (v := l3 + 1) dX6_write_70 rfl rfl (by decide) ?_
        refine r_goto (pc := 73) (L := [some (.ref b0), some (.ref b1), some (.ref b2), some (.int (l3 + 1))]) (tgt := 27) dX6_write_73 (by decide) ?_
        exact r_le (L' := [some (.ref b0), some (.ref b1), some (.ref b2), some (.int (l3 + 1))]) ⟨rfl, ⟨rfl, ⟨rfl, ⟨rfl, trivial⟩⟩⟩⟩ K0
set_option maxHeartbeats 2000000 in
theorem v_X6_write_78 {K : Sh} {x : Cn} {Q : Int32 → Cn → Prop} {b0 : Nat} {b1 : Nat} {b2 : Nat} {l3 : Int32}  (k_b2 : kk K b2 = some (1, 0)) (k_b0 : kk K b0 = some (6, 0)) (K0 : ((gi x b2 0) ≤ l3 → (GI mX6_write 112 [some (.ref b0), some (.ref b1), some (.ref b2), some (.int 0)] [] K x Q)) ∧ (¬ (gi x b2 0) ≤ l3 → (mSV mX6_putWord [.ref b0, .ref (mSB + 4)] K x (fun y_2 => mSV mX6_putName [.ref b0, .ref b2, .int l3] K y_2 (fun y_3 => mSV mX6_putSign [.ref b0, .int 59] K y_3 (fun y_4 => GI mX6_write 78 [some (.ref b0), some (.ref b1), some (.ref b2), some (.int (l3 + 1))] [] K y_4 Q)))))) : GI mX6_write 78 [some (.ref b0), some (.ref b1), some (.ref b2), some (.int l3)] [] K x Q := by
  show mGM mX6_write 78 [some (.ref b0), some (.ref b1), some (.ref b2), some (.int l3)] [] (hp K x) (PI K Q)
  refine r_iload_n (pc := 78) dX6_write_78 rfl ?_
  refine r_aload_n (pc := 79) dX6_write_79 rfl ?_
  refine s_getI (pc := 80) dX6_write_80 fl_X6_47 rfl k_b2 ?_
  refine r_icmp_ge (pc := 83) (tgt := 110) dX6_write_83 (by decide) (fun q => ?_) (fun q => ?_)
  · have K0 := K0.1 q
    refine r_iconst (pc := 110) (v := 0) dX6_write_110 (by decide) ?_
    refine r_istore_n (pc := 111) dX6_write_111 (by decide) ?_
    exact r_le (L' := [some (.ref b0), some (.ref b1), some (.ref b2), some (.int 0)]) ⟨rfl, ⟨rfl, ⟨rfl, ⟨rfl, trivial⟩⟩⟩⟩ K0
  · have K0 := K0.2 q
    refine r_aload_n (pc := 86) dX6_write_86 rfl ?_
    refine r_ldcS (pc := 87) (j := 4) dX6_write_87 rfl ?_
    refine s_VV (pc := 89) mX6_putWord (ci := 6) (a := b0) (As := [.ref (mSB + 4)]) dX6_write_89 lk_X6_21 in_X6_putWord mo_X6_putWord ⟨by decide, rfl⟩ ⟨by decide, by decide⟩ (Nat.le_of_ble_eq_true rfl) k_b0 (mSV_mono K0 (fun y_2 K0 => ?_))
    refine r_aload_n (pc := 92) dX6_write_92 rfl ?_
    refine r_aload_n (pc := 93) dX6_write_93 rfl ?_
    refine r_iload_n (pc := 94) dX6_write_94 rfl ?_
    refine s_VV (pc := 95) mX6_putName (ci := 6) (a := b0) (As := [.ref b2, .int l3]) dX6_write_95 lk_X6_54 in_X6_putName mo_X6_putName ⟨by decide, rfl⟩ ⟨by decide, by decide⟩ (Nat.le_of_ble_eq_true rfl) k_b0 (mSV_mono K0 (fun y_3 K0 => ?_))
    refine r_aload_n (pc := 98) dX6_write_98 rfl ?_
    refine r_bipush (pc := 99) (v := 59) dX6_write_99 (by decide) ?_
    refine s_VV (pc := 101) mX6_putSign (ci := 6) (a := b0) (As := [.int 59]) dX6_write_101 lk_X6_32 in_X6_putSign mo_X6_putSign ⟨by decide, rfl⟩ ⟨by decide, by decide⟩ (Nat.le_of_ble_eq_true rfl) k_b0 (mSV_mono K0 (fun y_4 K0 => ?_))
    refine r_iinc (pc := 104) (v := l3 + 1) dX6_write_104 rfl rfl (by decide) ?_
    refine r_goto (pc := 107) (L := [some (.ref b0), some (.ref b1), some (.ref b2), some (.int (l3 + 1))]) (tgt := 78) dX6_write_107 (by decide) ?_
    exact r_le (L' := [some (.ref b0), some (.ref b1), some (.ref b2), some (.int (l3 + 1))]) ⟨rfl, ⟨rfl, ⟨rfl, ⟨rfl, trivial⟩⟩⟩⟩ K0
set_option maxHeartbeats 2000000 in
theorem v_X6_write_112 {K : Sh} {x : Cn} {Q : Int32 → Cn → Prop} {b0 : Nat} {b1 : Nat} {b2 : Nat} {l3 : Int32} {b1_7 : Nat} {n_b1_7 : Nat} (k_b1 : kk K b1 = some (4, 0)) (g_b1_7 : gr x b1 7 = some b1_7) (k_b1_7 : kk K b1_7 = some (23, n_b1_7)) (k_b0 : kk K b0 = some (6, 0)) (K0 : ((gi x b1 3) ≤ l3 → (GI mX6_write 139 [some (.ref b0), some (.ref b1), some (.ref b2), some (.int 0)] [] K x Q)) ∧ (¬ (gi x b1 3) ≤ l3 → (vp_in l3 n_b1_7 ∧ (∃ c_3 : Nat, gr x b1_7 ((l3 : Int32).toNatClampNeg) = some c_3 ∧ (mSV mX6_putSeries [.ref b0, .ref c_3, .ref b2] K x (fun y_5 => GI mX6_write 112 [some (.ref b0), some (.ref b1), some (.ref b2), some (.int (l3 + 1))] [] K y_5 Q)))))) : GI mX6_write 112 [some (.ref b0), some (.ref b1), some (.ref b2), some (.int l3)] [] K x Q := by
  show mGM mX6_write 112 [some (.ref b0), some (.ref b1), some (.ref b2), some (.int l3)] [] (hp K x) (PI K Q)
  refine r_iload_n (pc := 112) dX6_write_112 rfl ?_
  refine r_aload_n (pc := 113) dX6_write_113 rfl ?_
  refine s_getI (pc := 114) dX6_write_114 fl_X6_58 rfl k_b1 ?_
  refine r_icmp_ge (pc := 117) (tgt := 137) dX6_write_117 (by decide) (fun q => ?_) (fun q => ?_)
  · have K0 := K0.1 q
    refine r_iconst (pc := 137) (v := 0) dX6_write_137 (by decide) ?_
    refine r_istore_n (pc := 138) dX6_write_138 (by decide) ?_
    exact r_le (L' := [some (.ref b0), some (.ref b1), some (.ref b2), some (.int 0)]) ⟨rfl, ⟨rfl, ⟨rfl, ⟨rfl, trivial⟩⟩⟩⟩ K0
  · have K0 := K0.2 q
    refine r_aload_n (pc := 120) dX6_write_120 rfl ?_
    refine r_aload_n (pc := 121) dX6_write_121 rfl ?_
    refine s_getR (pc := 122) dX6_write_122 fl_X6_61 rfl k_b1 g_b1_7 ?_
    refine r_iload_n (pc := 125) dX6_write_125 rfl ?_
    obtain ⟨i_2, K0⟩ := K0
    obtain ⟨c_3, g_4, K0⟩ := K0
    refine s_aald (pc := 126) dX6_write_126 (by decide) rfl k_b1_7 i_2 g_4 ?_
    refine r_aload_n (pc := 127) dX6_write_127 rfl ?_
    refine s_VV (pc := 128) mX6_putSeries (ci := 6) (a := b0) (As := [.ref c_3, .ref b2]) dX6_write_128 lk_X6_65 in_X6_putSeries mo_X6_putSeries ⟨by decide, rfl⟩ ⟨by decide, by decide⟩ (Nat.le_of_ble_eq_true rfl) k_b0 (mSV_mono K0 (fun y_5 K0 => ?_))
    refine r_iinc (pc := 131) (v := l3 + 1) dX6_write_131 rfl rfl (by decide) ?_
    refine r_goto (pc := 134) (L := [some (.ref b0), some (.ref b1), some (.ref b2), some (.int (l3 + 1))]) (tgt := 112) dX6_write_134 (by decide) ?_
    exact r_le (L' := [some (.ref b0), some (.ref b1), some (.ref b2), some (.int (l3 + 1))]) ⟨rfl, ⟨rfl, ⟨rfl, ⟨rfl, trivial⟩⟩⟩⟩ K0
set_option maxHeartbeats 2000000 in
theorem v_X6_write_139 {K : Sh} {x : Cn} {Q : Int32 → Cn → Prop} {b0 : Nat} {b1 : Nat} {b2 : Nat} {l3 : Int32} {b1_8 : Nat} {n_b1_8 : Nat} (k_b1 : kk K b1 = some (4, 0)) (k_b0 : kk K b0 = some (6, 0)) (g_b1_8 : gr x b1 8 = some b1_8) (k_b1_8 : kk K b1_8 = some (24, n_b1_8)) (K0 : ((gi x b1 4) ≤ l3 → (Q (gi x b0 1) x)) ∧ (¬ (gi x b1 4) ≤ l3 → (vp_in l3 n_b1_8 ∧ (∃ c_3 : Nat, gr x b1_8 ((l3 : Int32).toNatClampNeg) = some c_3 ∧ (mSV mX6_putAsk [.ref b0, .ref c_3, .ref b2] K x (fun y_5 => GI mX6_write 139 [some (.ref b0), some (.ref b1), some (.ref b2), some (.int (l3 + 1))] [] K y_5 Q)))))) : GI mX6_write 139 [some (.ref b0), some (.ref b1), some (.ref b2), some (.int l3)] [] K x Q := by
  show mGM mX6_write 139 [some (.ref b0), some (.ref b1), some (.ref b2), some (.int l3)] [] (hp K x) (PI K Q)
  refine r_iload_n (pc := 139) dX6_write_139 rfl ?_
  refine r_aload_n (pc := 140) dX6_write_140 rfl ?_
  refine s_getI (pc := 141) dX6_write_141 fl_X6_69 rfl k_b1 ?_
  refine r_icmp_ge (pc := 144) (tgt := 164) dX6_write_144 (by decide) (fun q => ?_) (fun q => ?_)
  · have K0 := K0.1 q
    refine r_aload_n (pc := 164) dX6_write_164 rfl ?_
    refine s_getI (pc := 165) dX6_write_165 fl_X6_15 rfl k_b0 ?_
    exact s_iret rfl dX6_write_168 K0
  · have K0 := K0.2 q
    refine r_aload_n (pc := 147) dX6_write_147 rfl ?_
    refine r_aload_n (pc := 148) dX6_write_148 rfl ?_
    refine s_getR (pc := 149) dX6_write_149 fl_X6_72 rfl k_b1 g_b1_8 ?_
    refine r_iload_n (pc := 152) dX6_write_152 rfl ?_
    obtain ⟨i_2, K0⟩ := K0
    obtain ⟨c_3, g_4, K0⟩ := K0
    refine s_aald (pc := 153) dX6_write_153 (by decide) rfl k_b1_8 i_2 g_4 ?_
    refine r_aload_n (pc := 154) dX6_write_154 rfl ?_
    refine s_VV (pc := 155) mX6_putAsk (ci := 6) (a := b0) (As := [.ref c_3, .ref b2]) dX6_write_155 lk_X6_76 in_X6_putAsk mo_X6_putAsk ⟨by decide, rfl⟩ ⟨by decide, by decide⟩ (Nat.le_of_ble_eq_true rfl) k_b0 (mSV_mono K0 (fun y_5 K0 => ?_))
    refine r_iinc (pc := 158) (v := l3 + 1) dX6_write_158 rfl rfl (by decide) ?_
    refine r_goto (pc := 161) (L := [some (.ref b0), some (.ref b1), some (.ref b2), some (.int (l3 + 1))]) (tgt := 139) dX6_write_161 (by decide) ?_
    exact r_le (L' := [some (.ref b0), some (.ref b1), some (.ref b2), some (.int (l3 + 1))]) ⟨rfl, ⟨rfl, ⟨rfl, ⟨rfl, trivial⟩⟩⟩⟩ K0
section
theorem sp_X6_write {x : Cn} {Q : Int32 → Cn → Prop} {T : TT} {W C S A N : Nat} (cc : CRf x) (E : SEA x 2 T W C S A N) (nm : NMr x 56 T C) (k : ∀ y, WFr x y → WR y (tl4 T W C S A) 2346 → Q (nI (tl4 T W C S A).length) y) : mSI mX6_write [.ref 175, .ref 2, .ref 56] KW x Q := by
  have hn := E.nums
  have hW : W ≤ 30 := hn.2.2.2.2.1
  have hC : C ≤ 8 := hn.2.2.2.2.2.1
  have hS : S ≤ 24 := hn.2.2.2.2.2.2.1
  have hA : A ≤ 24 := hn.2.2.2.2.2.2.2.1
  have c := cc.c175
  have c2 : gr x 56 1 = some 57 := cc.2.2.2.2.2.2.2.1
  have kn : kk KW 56 = some (1, 0) := by decide
  have cg : ∀ y : Cn, WFr x y → gr y 175 0 = some 176 := fun y fy => by unfold gr; rw [fy.1]; exact c
  have cg2 : ∀ y : Cn, WFr x y → gr y 56 1 = some 57 := fun y fy => by unfold gr; rw [fy.1]; exact c2
  have Eg : ∀ y : Cn, WFr x y → SEA y 2 T W C S A N := fun y fy => E.keep fy.1 (fun a j a1 a2 _ => fy.2 a j (by omega) (by omega))
  have ng : ∀ y : Cn, WFr x y → NMr y 56 T C := fun y fy => nm.keep (fy.2 56 0 (by decide) (by omega)) (fun i => fy.2 57 i (by decide) (by omega)) (fun _ _ => rfl)
  have l4 : ∀ y, WFr x y → WR y (tl3 T W C S) 1482 → bl (tl3 T W C S) = [] → GI mX6_write 139 [some (.ref 175), some (.ref 2), some (.ref 56), some (.int 0)] [] KW y Q := by
    intro y fy wy hb
    refine lp_acc (fun a l => l ++ askS T a) (fun a l => bl l = [] → ∀ z, WFr x z → WR z l (1482 + 36 * a) → GI mX6_write 139 [some (.ref 175), some (.ref 2), some (.ref 56), some (.int (nI a))] [] KW z Q) A (tl3 T W C S) ?_ (fun a l ha n1 => ?_) hb y fy wy
    · intro _ z fz wz
      refine v_X6_write_139 (ks0 E.1) k175 (Eg z fz).2.1.2.2.2.1 (ks4 E.1) ⟨fun _ => ?_, fun u => absurd (by rw [(Eg z fz).nums.2.2.2.1]; exact Int32.le_refl _) u⟩
      rw [wz.1]
      exact k z fz (wz.le (by omega))
    · intro hb z fz wz
      have Ez := Eg z fz
      obtain ⟨p, e1, e2, e3, ⟨⟨cr, hc, ec⟩, ⟨d, hd, ed⟩, ⟨h, hh, eh⟩, -, ⟨f, t, f1, f2, f3, f4⟩, ⟨b, hb9, eb⟩⟩⟩ := Ez.ask ha
      obtain ⟨j, hj, ej⟩ := Ez.2.1.2.2.2.2.2.2.2.1 a (by omega)
      have ep : p = 2 + 30 + j := Option.some.inj (e1.symm.trans ej)
      obtain ⟨v, ⟨hv0, hv1⟩, hv2, hv3⟩ := (ng z fz).2 cr hc
      refine v_X6_write_139 (ks0 E.1) k175 Ez.2.1.2.2.2.1 (ks4 E.1) ⟨fun u => absurd (by rw [Ez.nums.2.2.2.1] at u; exact u) (nI_ge ha (by omega)), fun _ => ⟨vp_in_nI (by omega) (by decide), p, by rw [nI_clamp (by omega)]; exact e1, ?_⟩⟩
      rw [nI_1]
      have ea : askS T a = askP v d h (ao T a 3) f t b := by
        unfold askS nmv
        rw [ec, ed, eh, f3, f4, eb, nI_clamp (by omega), nI_clamp (by omega), nI_clamp (by omega), nI_clamp (by omega), nI_clamp (by omega), nI_clamp (by omega), hv2, nI_clamp (by omega)]
      refine sp_X6_putAsk (by omega) e2 ((e3 0 (by decide)).trans ec) ((e3 1 (by decide)).trans ed) ((e3 2 (by decide)).trans eh) (e3 3 (by decide)) ((e3 4 (by decide)).trans f3) ((e3 5 (by decide)).trans f4) ((e3 6 (by decide)).trans eb) hb9 (by omega) hv0 hv1 hv3 hd (by omega) (by omega) (by omega) (cg z fz) (cg2 z fz) hb wz (by omega) (fun y2 f2' w2 => n1 _ rfl ?_ y2 (fz.tr f2') ?_)
      · rw [ea]; unfold askP; exact bl_e _ _
      · rw [ea]; exact w2.le (by omega)
  have l3 : ∀ y, WFr x y → WR y (tl2 T W C) 594 → bl (tl2 T W C) = [] → GI mX6_write 112 [some (.ref 175), some (.ref 2), some (.ref 56), some (.int 0)] [] KW y Q := by
    intro y fy wy hb
    refine lp_acc (fun s l => l ++ serT T s) (fun s l => bl l = [] → ∀ z, WFr x z → WR z l (594 + 37 * s) → GI mX6_write 112 [some (.ref 175), some (.ref 2), some (.ref 56), some (.int (nI s))] [] KW z Q) S (tl2 T W C) ?_ (fun s l hs n1 => ?_) hb y fy wy
    · intro hb z fz wz
      exact v_X6_write_112 (ks0 E.1) (Eg z fz).2.1.2.2.1 (ks3 E.1) k175 ⟨fun _ => l4 z fz (wz.le (by omega)) hb, fun u => absurd (by rw [(Eg z fz).nums.2.2.1]; exact Int32.le_refl _) u⟩
    · intro hb z fz wz
      have Ez := Eg z fz
      obtain ⟨p, e1, e2, e3, -, -, ⟨⟨cr, hc, ec⟩, ⟨d, hd, ed⟩, ⟨h, hh, eh⟩, -, o4, ⟨f, t, f1, f2, f3, f4⟩, -⟩⟩ := Ez.ser hs
      obtain ⟨j, hj, ej⟩ := Ez.2.1.2.2.2.2.2.1 s (by omega)
      have ep : p = 2 + 6 + j := Option.some.inj (e1.symm.trans ej)
      obtain ⟨v, ⟨hv0, hv1⟩, hv2, hv3⟩ := (ng z fz).2 cr hc
      refine v_X6_write_112 (ks0 E.1) Ez.2.1.2.2.1 (ks3 E.1) k175 ⟨fun u => absurd (by rw [Ez.nums.2.2.1] at u; exact u) (nI_ge hs (by omega)), fun _ => ⟨vp_in_nI (by omega) (by decide), p, by rw [nI_clamp (by omega)]; exact e1, ?_⟩⟩
      rw [nI_1]
      have es : serT T s = serP v d h (so T s 3) f t (so T s 4) := by
        unfold serT nmv
        rw [ec, ed, eh, f3, f4, nI_clamp (by omega), nI_clamp (by omega), nI_clamp (by omega), nI_clamp (by omega), nI_clamp (by omega), hv2, nI_clamp (by omega)]
      refine sp_X6_putSeries (by omega) e2 ((e3.1 0 (by decide) (by decide)).trans ec) ((e3.1 1 (by decide) (by decide)).trans ed) ((e3.1 2 (by decide) (by decide)).trans eh) (e3.1 3 (by decide) (by decide)) (e3.1 4 (by decide) (by decide)) ((e3.1 5 (by decide) (by decide)).trans f3) ((e3.1 6 (by decide) (by decide)).trans f4) o4 (by omega) hv0 hv1 hv3 hd (by omega) (by omega) (by omega) (cg z fz) (cg2 z fz) hb wz (by omega) (fun y2 f2' w2 => n1 _ rfl ?_ y2 (fz.tr f2') ?_)
      · rw [es]; exact ser_e _ _ _ _ _ _ _ _
      · rw [es]; exact w2.le (by omega)
  have l2 : ∀ y, WFr x y → WR y (tl1 T W) 466 → bl (tl1 T W) = [] → GI mX6_write 78 [some (.ref 175), some (.ref 2), some (.ref 56), some (.int 0)] [] KW y Q := by
    intro y fy wy hb
    refine lp_acc (fun c l => l ++ carP (nmv T c)) (fun cr l => bl l = [] → ∀ z, WFr x z → WR z l (466 + 16 * cr) → GI mX6_write 78 [some (.ref 175), some (.ref 2), some (.ref 56), some (.int (nI cr))] [] KW z Q) C (tl1 T W) ?_ (fun cr l hc n1 => ?_) hb y fy wy
    · intro hb z fz wz
      exact v_X6_write_78 kn k175 ⟨fun _ => l3 z fz (wz.le (by omega)) hb, fun u => absurd (by rw [(ng z fz).1]; exact Int32.le_refl _) u⟩
    · intro hb z fz wz
      obtain ⟨v, ⟨hv0, hv1⟩, hv2, hv3⟩ := (ng z fz).2 cr hc
      refine v_X6_write_78 kn k175 ⟨fun u => absurd (by rw [(ng z fz).1] at u; exact u) (nI_ge hc (by omega)), fun _ => ?_⟩
      rw [nI_1]
      refine sp_X6_putWord (j := 4) (m := 7) (mSq_at (by decide)) (by decide) (cg z fz) wz (by omega) (fun y1 f1 w1 => ?_)
      rw [hb, List.append_nil] at w1
      refine sp_X6_putName (v := v) (by omega) (fun i hi => by rw [f1.2 57 _ (by decide) (by omega)]; exact hv3 i hi) (cg y1 (fz.tr f1)) (cg2 y1 (fz.tr f1)) w1 (by omega) (fun y2 f2 w2 => ?_)
      rw [bl_wd _ (by decide) (by decide) (by decide)] at w2
      have ec : nmv T cr = v := by
        unfold nmv
        rw [hv2, nI_clamp (by omega)]
      refine sp_X6_putSign (n := 59) (by decide) (cg y2 (fz.tr (f1.tr f2))) w2 (by omega) (fun y3 f3 w3 => n1 _ rfl ?_ y3 (fz.tr (f1.tr (f2.tr f3))) ?_)
      · rw [ec]; unfold carP; exact bl_e _ _
      · have e : l ++ wq (mSq 4) ++ [32] ++ nmL v ++ [59] = l ++ carP (nmv T cr) := by
          rw [ec]
          simp only [carP, wd_30, List.append_assoc]
        rw [e] at w3
        exact w3.le (by omega)
  have l1 : ∀ y, WFr x y → WR y (tl0 W) 10 → GI mX6_write 27 [some (.ref 175), some (.ref 2), some (.ref 56), some (.int 0)] [] KW y Q := by
    intro y fy wy
    refine lp_acc (fun h l => l ++ limT T h) (fun h l => bl l = [] → ∀ z, WFr x z → WR z l (10 + 19 * h) → GI mX6_write 27 [some (.ref 175), some (.ref 2), some (.ref 56), some (.int (nI h))] [] KW z Q) 24 (tl0 W) ?_ (fun h l hh n1 => ?_) (by unfold tl0; exact bl_1 _ (by decide)) y fy wy
    · intro hb z fz wz
      exact v_X6_write_27 (ks0 E.1) (Eg z fz).2.1.1 (ks1 E.1) (Eg z fz).2.1.2.1 (ks2 E.1) k175 ⟨fun _ => l2 z fz wz hb, fun u => absurd (Int32.le_refl _) u⟩
    · intro hb z fz wz
      have Ez := Eg z fz
      have v5 := Ez.2.2.1.2.2.2.2.2.1 h hh
      have g1 : gi z 3 h = T (6 + 2 * h) := v5.1
      have g2 : gi z 4 h = T (7 + 2 * h) := v5.2
      obtain ⟨a, b, ha, hb', ea, eb⟩ := E.2.2.2.2.2.2.2.2.2.2.2.2.2.2.1 h hh
      have put : ¬ (T (6 + 2 * h) = 4 ∧ T (7 + 2 * h) = 4) → mSV mX6_putLimit [.ref 175, .int (nI h), .int (T (6 + 2 * h)), .int (T (7 + 2 * h))] KW z (fun y_5 => GI mX6_write 27 [some (.ref 175), some (.ref 2), some (.ref 56), some (.int (nI (h + 1)))] [] KW y_5 Q) := by
        intro hne
        have el : limT T h = limP h a b := by
          unfold limT
          rw [if_neg hne, ea, eb, nI_clamp (by omega), nI_clamp (by omega)]
        rw [ea, eb]
        refine sp_X6_putLimit (by omega) (by omega) (by omega) (cg z fz) hb wz (by omega) (fun y2 f2 w2 => n1 _ rfl ?_ y2 (fz.tr f2) ?_)
        · rw [el]; unfold limP; exact bl_e _ _
        · rw [el]; exact w2.le (by omega)
      refine v_X6_write_27 (ks0 E.1) Ez.2.1.1 (ks1 E.1) Ez.2.1.2.1 (ks2 E.1) k175 ⟨fun u => absurd u (nI_ge (b := 24) hh (by decide)), fun _ => ⟨vp_in_nI hh (by decide), ?_⟩⟩
      rw [nI_clamp (by omega), nI_1, g1, g2]
      refine ⟨fun u => ⟨vp_in_nI hh (by decide), put (fun g => u g.1)⟩, fun u => ⟨vp_in_nI hh (by decide), fun u2 => ?_, fun u2 => put (fun g => u2 g.2)⟩⟩
      have el : limT T h = [] := by
        unfold limT
        rw [if_pos ⟨u, u2⟩]
      refine n1 l (by rw [el, List.append_nil]) hb z fz (wz.le (by omega))
  have w0 : WR (ui x 175 1 0) [] 0 := ⟨by rw [gi_ui, if_pos ⟨rfl, rfl⟩]; rfl, fun i hi => absurd hi (Nat.not_lt_zero _), Nat.le_refl _⟩
  have f0 : WFr x (ui x 175 1 0) := ⟨rfl, fun a j a1 a2 => by rw [gi_ui, if_neg a2]⟩
  refine v_X6_write_0 k175 (ks0 E.1) (sp_X6_putWord (j := 1) (m := 5) (mSq_at (by decide)) (by decide) (cg _ f0) w0 (by omega) (fun y1 f1 w1 => ?_))
  rw [show gi y1 2 0 = nI W by rw [f1.2 2 0 (by decide) (by omega), f0.2 2 0 (by decide) (by omega)]; exact hn.1]
  refine sp_X6_putNumber (by omega) (cg _ (f0.tr f1)) w1 (by omega) (fun y2 f2 w2 => sp_X6_putSign (n := 59) (by decide) (cg _ (f0.tr (f1.tr f2))) w2 (by omega) (fun y3 f3 w3 => l1 y3 (f0.tr (f1.tr (f2.tr f3))) ?_))
  have e : [] ++ bl [] ++ wq (mSq 1) ++ bl ([] ++ bl [] ++ wq (mSq 1)) ++ numL W ++ [59] = tl0 W := by
    rw [bl_wd _ (by decide) (by decide) (by decide), show bl [] = [] from by decide]
    simp only [tl0, wd_27, List.append_assoc, List.nil_append]
  rw [e] at w3
  exact w3.le (by omega)

end
end
/-! 61.tell3.lean.txt -/
section
theorem g_ldcwS {B : BT} {c : Nat × Nat} {ad : Nat → Nat} {M : MR} {P : MP} {pc : Nat} {L : List (Option Value)} {st : List Value} {h : HP} {j i : Nat} {tx : String} {by9 : List Int32} (X : mCx B c ad M P) (d : decode M.2.1 pc = .ok (.ldc_w i, 3)) (hv : mS[j]? = some (M.1.cls, i, tx, by9)) (k : mG B c ad M.2.2.1 (pc + 3) L (.ref (mSB + j) :: st) h) : mG B c ad M.2.2.1 pc L (st) h := by
  obtain ⟨p, l, e0, R, s, m, args, below, meth, cd, Q, D, A⟩ := B
  intro H locs ls h1 h2 h3 T hT X2
  obtain ⟨t, a1, b1⟩ := k H locs ls h1 h2 h3 T hT X2
  have hZ := (X.2.2.2.2.2.2.2.2.1.2.2.1 j _ hv).1
  have hb := X.2.1
  exact ⟨t, Stand.ldcStringW X2 X.1 X.2.2.2.1 (text := tx) hZ.1 hZ.2 rfl (by rw [hb]; exact d) t a1, b1⟩
theorem r_ldcwS {M : MR} {P : MP} {pc : Nat} {L : List (Option Value)} {st : List Value} {h : HP} {j i : Nat} {tx : String} {by9 : List Int32} (d : decode M.2.1 pc = .ok (.ldc_w i, 3)) (hv : mS[j]? = some (M.1.cls, i, tx, by9)) (k : mGM M (pc + 3) L (.ref (mSB + j) :: st) h P) : mGM M pc L (st) h P := fun B c ad X => g_ldcwS X d hv (k B c ad X)
set_option maxHeartbeats 2000000 in
theorem v_X8_says_0 {K : Sh} {x : Cn} {Q : Cn → Prop} {b0 : Nat} {l1 : Int32} {b0_21 : Nat} {n_b0_21 : Nat} (k_b0 : kk K b0 = some (8, 0)) (g_b0_21 : gr x b0 21 = some b0_21) (k_b0_21 : kk K b0_21 = some (21, n_b0_21)) (K0 : vp_in (gi x b0 22) n_b0_21 ∧ (∀ r_2 : Int32, r_2 = gi (ui x b0_21 ((gi x b0 22) : Int32).toNatClampNeg (((l1 : Int32).toInt8.toInt32 : Int32).toInt8.toInt32)) b0 22 → (Q (ui (ui x b0_21 ((gi x b0 22) : Int32).toNatClampNeg (((l1 : Int32).toInt8.toInt32 : Int32).toInt8.toInt32)) b0 22 (r_2 + 1))))) : mSV mX8_says [.ref b0, .int l1] K x Q := by
  refine s_V (by decide) (by simp [Value.category]) (Nat.le_of_ble_eq_true rfl) ?_
  show mGM mX8_says 0 [some (.ref b0), some (.int l1)] [] (hp K x) (PV K Q)
  refine r_aload_n (pc := 0) dX8_says_0 rfl ?_
  refine s_getR (pc := 1) dX8_says_1 fl_X8_39 rfl k_b0 g_b0_21 ?_
  refine r_aload_n (pc := 4) dX8_says_4 rfl ?_
  refine s_getI (pc := 5) dX8_says_5 fl_X8_398 rfl k_b0 ?_
  refine r_iload_n (pc := 8) dX8_says_8 rfl ?_
  refine r_i2b (pc := 9) dX8_says_9 ?_
  obtain ⟨i_1, K0⟩ := K0
  refine s_bast (pc := 10) dX8_says_10 k_b0_21 i_1 ?_
  refine r_aload_n (pc := 11) dX8_says_11 rfl ?_
  refine r_dup (pc := 12) dX8_says_12 rfl ?_
  refine s_getI (pc := 13) dX8_says_13 fl_X8_398 rfl k_b0 ?_
  obtain ⟨r_2, w_3⟩ : ∃ z : Int32, z = gi (ui x b0_21 ((gi x b0 22) : Int32).toNatClampNeg (((l1 : Int32).toInt8.toInt32 : Int32).toInt8.toInt32)) b0 22 := ⟨_, rfl⟩
  rw [← w_3]
  have K0 := K0 r_2 w_3
  refine r_iconst (pc := 16) (v := 1) dX8_says_16 (by decide) ?_
  refine r_iadd (pc := 17) dX8_says_17 ?_
  refine s_putI (pc := 18) dX8_says_18 fl_X8_398 rfl rfl k_b0 ?_
  exact s_ret rfl dX8_says_21 K0
section
theorem sp_X8_says {x : Cn} {Q : Cn → Prop} {l : List Nat} {B n : Nat} (hn : n < 128) (M : MRf x 718) (w : OR x l B) (hB : B < 2400) (k : ∀ y, OFr x y → OR y (l ++ [n]) (B + 1) → Q y) : mSV mX8_says [.ref 717, .int (nI n)] KW x Q := by
  have hl := w.2.2
  refine v_X8_says_0 km M.2.2.2.2.2.2.2.2 km725 ?_
  rw [w.1, nI_clamp (by omega), b8 n hn, b8 n hn]
  refine ⟨vp_in_nI (by omega) (by decide), fun r hr => ?_⟩
  have er : r = nI l.length := by rw [hr, gi_ui, if_neg (by omega)]; exact w.1
  rw [er, nI_1]
  refine k _ ⟨rfl, fun a j a1 a2 => by rw [gi_ui, if_neg a2, gi_ui, if_neg (fun u => a1 u.1)]⟩ ⟨?_, fun i hi => ?_, ?_⟩
  · rw [gi_ui, if_pos ⟨rfl, rfl⟩, List.length_append]; rfl
  · rw [List.length_append] at hi
    have hi : i < l.length + 1 := hi
    rw [gi_ui, if_neg (by omega), gi_ui]
    by_cases c1 : i = l.length
    · rw [if_pos ⟨rfl, c1⟩, gD_r (by omega), c1, Nat.sub_self]; exact ⟨rfl, hn⟩
    · rw [if_neg (fun u => c1 u.2), gD_l (by omega)]; exact w.2.1 i (by omega)
  · rw [List.length_append]; show l.length + 1 ≤ B + 1; omega
end
set_option maxHeartbeats 2000000 in
theorem v_X8_saysText_0 {K : Sh} {x : Cn} {Q : Cn → Prop} {b0 : Nat} {j1 : Nat} {q1 : String × Nat × String × List Int32} (hj1 : mS[j1]? = some q1)   (K0 : GV mX8_saysText 2 [some (.ref b0), some (.ref (mSB + j1)), some (.int 0)] [] K x Q) : mSV mX8_saysText [.ref b0, .ref (mSB + j1)] K x Q := by
  refine s_V (by decide) (by simp [Value.category]) (Nat.le_of_ble_eq_true rfl) ?_
  show mGM mX8_saysText 0 [some (.ref b0), some (.ref (mSB + j1)), none] [] (hp K x) (PV K Q)
  refine r_iconst (pc := 0) (v := 0) dX8_saysText_0 (by decide) ?_
  refine r_istore_n (pc := 1) dX8_saysText_1 (by decide) ?_
  exact r_le (L' := [some (.ref b0), some (.ref (mSB + j1)), some (.int 0)]) ⟨rfl, ⟨rfl, ⟨rfl, trivial⟩⟩⟩ K0
set_option maxHeartbeats 2000000 in
theorem v_X8_saysText_2 {K : Sh} {x : Cn} {Q : Cn → Prop} {b0 : Nat} {j1 : Nat} {q1 : String × Nat × String × List Int32} (hj1 : mS[j1]? = some q1) {l2 : Int32}  (k_b0 : kk K b0 = some (8, 0)) (K0 : ((nI q1.2.2.2.length) ≤ l2 → (Q x)) ∧ (¬ (nI q1.2.2.2.length) ≤ l2 → (∃ n_2 : Nat, l2 = nI n_2 ∧ (n_2 < q1.2.2.2.length ∧ (mSV mX8_says [.ref b0, .int (q1.2.2.2.getD n_2 0)] K x (fun y_3 => GV mX8_saysText 2 [some (.ref b0), some (.ref (mSB + j1)), some (.int (l2 + 1))] [] K y_3 Q)))))) : GV mX8_saysText 2 [some (.ref b0), some (.ref (mSB + j1)), some (.int l2)] [] K x Q := by
  show mGM mX8_saysText 2 [some (.ref b0), some (.ref (mSB + j1)), some (.int l2)] [] (hp K x) (PV K Q)
  refine r_iload_n (pc := 2) dX8_saysText_2 rfl ?_
  refine r_aload_n (pc := 3) dX8_saysText_3 rfl ?_
  refine s_VIs (pc := 4) mJ0_length_8abf5 (j := j1) (q := q1) (As := []) dX8_saysText_4 lk_X8_138 in_J0_length_8abf5 mo_J0_length_8abf5 hj1 rfl ⟨by decide, by decide⟩ (Nat.le_of_ble_eq_true rfl) (sp_len hj1 ?_)
  refine r_icmp_ge (pc := 7) (tgt := 25) dX8_saysText_7 (by decide) (fun q => ?_) (fun q => ?_)
  · have K0 := K0.1 q
    exact s_ret rfl dX8_saysText_25 K0
  · have K0 := K0.2 q
    refine r_aload_n (pc := 10) dX8_saysText_10 rfl ?_
    refine r_aload_n (pc := 11) dX8_saysText_11 rfl ?_
    refine r_iload_n (pc := 12) dX8_saysText_12 rfl ?_
    obtain ⟨n_2, en_2, un_2, K0⟩ := K0
    refine s_VIs (pc := 13) mJ0_charAt_5068e (j := j1) (q := q1) (As := [.int l2]) dX8_saysText_13 lk_X8_143 in_J0_charAt_5068e mo_J0_charAt_5068e hj1 rfl ⟨by decide, by decide⟩ (Nat.le_of_ble_eq_true rfl) (sp_chv hj1 en_2 un_2 ?_)
    refine s_VV (pc := 16) mX8_says (ci := 8) (a := b0) (As := [.int (q1.2.2.2.getD n_2 0)]) dX8_saysText_16 lk_X8_401 in_X8_says mo_X8_says ⟨by decide, rfl⟩ ⟨by decide, by decide⟩ (Nat.le_of_ble_eq_true rfl) k_b0 (mSV_mono K0 (fun y_3 K0 => ?_))
    refine r_iinc (pc := 19) (v := l2 + 1) dX8_saysText_19 rfl rfl (by decide) ?_
    refine r_goto (pc := 22) (L := [some (.ref b0), some (.ref (mSB + j1)), some (.int (l2 + 1))]) (tgt := 2) dX8_saysText_22 (by decide) ?_
    exact r_le (L' := [some (.ref b0), some (.ref (mSB + j1)), some (.int (l2 + 1))]) ⟨rfl, ⟨rfl, ⟨rfl, trivial⟩⟩⟩ K0
section
theorem sp_X8_saysText {x : Cn} {Q : Cn → Prop} {l : List Nat} {B j m : Nat} {q : String × Nat × String × List Int32} (hj : mS[j]? = some q) (hm : q.2.2.2.length ≤ m) (M : MRf x 718) (w : OR x l B) (hB : B + m ≤ 2400) (k : ∀ y, OFr x y → OR y (l ++ wq q) (B + m) → Q y) : mSV mX8_saysText [.ref 717, .ref (mSB + j)] KW x Q := by
  have key : ∀ r n v, n + r = q.2.2.2.length → OFr x v → OR v (l ++ (wq q).take n) (B + n) → GV mX8_saysText 2 [some (.ref 717), some (.ref (mSB + j)), some (.int (nI n))] [] KW v Q := by
    intro r
    induction r with
    | zero =>
      intro n v hn fv wv
      refine v_X8_saysText_2 hj km ⟨fun _ => k v fv ?_, fun z => absurd (nI_le (by omega) (by omega)) z⟩
      rw [List.take_of_length_le (by rw [wq_len]; omega)] at wv
      exact wv.le (by omega)
    | succ r ih =>
      intro n v hn fv wv
      have ha := wq_at hj (n := n) (by omega)
      refine v_X8_saysText_2 hj km ⟨fun z => absurd z (nI_ge (by omega) (by omega)), fun _ => ⟨n, rfl, by omega, ?_⟩⟩
      rw [ha.1, nI_1]
      refine sp_X8_says ha.2 (M.keep fv.1) wv (by omega) (fun u fu wu => ih (n + 1) u (by omega) (fv.tr fu) ?_)
      have e : (wq q).take (n + 1) = (wq q).take n ++ [(wq q).getD n 0] := by
        rw [List.take_add_one, List.getD_eq_getElem?_getD, List.getElem?_eq_getElem (by rw [wq_len]; omega)]
        rfl
      rw [e, ← List.append_assoc]
      exact wu
  exact v_X8_saysText_0 hj (key q.2.2.2.length 0 x (by omega) (OFr.rf x) (by rw [List.take_zero, List.append_nil]; exact w))
end
set_option maxHeartbeats 2000000 in
theorem v_X8_saysNumber_0 {K : Sh} {x : Cn} {Q : Cn → Prop} {b0 : Nat} {l1 : Int32}  (k_b0 : kk K b0 = some (8, 0)) (K0 : (l1 < 10 → (mSV mX8_says [.ref b0, .int (48 + (l1 - l1 / 10 * 10))] K x (fun y_2 => Q y_2))) ∧ (¬ l1 < 10 → (mSV mX8_says [.ref b0, .int (48 + (l1 / 10))] K x (fun y_3 => mSV mX8_says [.ref b0, .int (48 + (l1 - l1 / 10 * 10))] K y_3 (fun y_4 => Q y_4))))) : mSV mX8_saysNumber [.ref b0, .int l1] K x Q := by
  refine s_V (by decide) (by simp [Value.category]) (Nat.le_of_ble_eq_true rfl) ?_
  show mGM mX8_saysNumber 0 [some (.ref b0), some (.int l1)] [] (hp K x) (PV K Q)
  refine r_iload_n (pc := 0) dX8_saysNumber_0 rfl ?_
  refine r_bipush (pc := 1) (v := 10) dX8_saysNumber_1 (by decide) ?_
  refine r_icmp_lt (pc := 3) (tgt := 17) dX8_saysNumber_3 (by decide) (fun q => ?_) (fun q => ?_)
  · have K0 := K0.1 q
    refine r_aload_n (pc := 17) dX8_saysNumber_17 rfl ?_
    refine r_bipush (pc := 18) (v := 48) dX8_saysNumber_18 (by decide) ?_
    refine r_iload_n (pc := 20) dX8_saysNumber_20 rfl ?_
    refine r_bipush (pc := 21) (v := 10) dX8_saysNumber_21 (by decide) ?_
    refine r_irem (pc := 23) dX8_saysNumber_23 (by decide) ?_
    refine r_iadd (pc := 24) dX8_saysNumber_24 ?_
    refine s_VV (pc := 25) mX8_says (ci := 8) (a := b0) (As := [.int (48 + (l1 - l1 / 10 * 10))]) dX8_saysNumber_25 lk_X8_401 in_X8_says mo_X8_says ⟨by decide, rfl⟩ ⟨by decide, by decide⟩ (Nat.le_of_ble_eq_true rfl) k_b0 (mSV_mono K0 (fun y_2 K0 => ?_))
    exact s_ret rfl dX8_saysNumber_28 K0
  · have K0 := K0.2 q
    refine r_aload_n (pc := 6) dX8_saysNumber_6 rfl ?_
    refine r_bipush (pc := 7) (v := 48) dX8_saysNumber_7 (by decide) ?_
    refine r_iload_n (pc := 9) dX8_saysNumber_9 rfl ?_
    refine r_bipush (pc := 10) (v := 10) dX8_saysNumber_10 (by decide) ?_
    refine r_idiv (pc := 12) dX8_saysNumber_12 (by decide) ?_
    refine r_iadd (pc := 13) dX8_saysNumber_13 ?_
    refine s_VV (pc := 14) mX8_says (ci := 8) (a := b0) (As := [.int (48 + (l1 / 10))]) dX8_saysNumber_14 lk_X8_401 in_X8_says mo_X8_says ⟨by decide, rfl⟩ ⟨by decide, by decide⟩ (Nat.le_of_ble_eq_true rfl) k_b0 (mSV_mono K0 (fun y_3 K0 => ?_))
    refine r_aload_n (pc := 17) dX8_saysNumber_17 rfl ?_
    refine r_bipush (pc := 18) (v := 48) dX8_saysNumber_18 (by decide) ?_
    refine r_iload_n (pc := 20) dX8_saysNumber_20 rfl ?_
    refine r_bipush (pc := 21) (v := 10) dX8_saysNumber_21 (by decide) ?_
    refine r_irem (pc := 23) dX8_saysNumber_23 (by decide) ?_
    refine r_iadd (pc := 24) dX8_saysNumber_24 ?_
    refine s_VV (pc := 25) mX8_says (ci := 8) (a := b0) (As := [.int (48 + (l1 - l1 / 10 * 10))]) dX8_saysNumber_25 lk_X8_401 in_X8_says mo_X8_says ⟨by decide, rfl⟩ ⟨by decide, by decide⟩ (Nat.le_of_ble_eq_true rfl) k_b0 (mSV_mono K0 (fun y_4 K0 => ?_))
    exact s_ret rfl dX8_saysNumber_28 K0
section
theorem sp_X8_saysNumber {x : Cn} {Q : Cn → Prop} {l : List Nat} {B n : Nat} (hn : n < 100) (M : MRf x 718) (w : OR x l B) (hB : B + 2 ≤ 2400) (k : ∀ y, OFr x y → OR y (l ++ numL n) (B + 2) → Q y) : mSV mX8_saysNumber [.ref 717, .int (nI n)] KW x Q := by
  have e1 : nI n - nI n / 10 * 10 = nI (n % 10) := pk_rem (d := 10) (by omega) (by decide) (by decide)
  have e2 : nI n / 10 = nI (n / 10) := pk_div (d := 10) (by omega) (by decide) (by decide)
  refine v_X8_saysNumber_0 km ?_
  rw [e1, e2, n48, n48, show nI n < 10 ↔ n < 10 from nI_ltI (b := 10) (by omega) (by decide)]
  refine ⟨fun z => sp_X8_says (by omega) M w (by omega) (fun v fv wv => k v fv ?_), fun z => sp_X8_says (by omega) M w (by omega) (fun v fv wv => sp_X8_says (by omega) (M.keep fv.1) wv (by omega) (fun u fu wu => k u (fv.tr fu) ?_))⟩
  · unfold numL
    rw [if_pos z]
    rw [show n % 10 = n by omega] at wv
    exact wv.le (by omega)
  · unfold numL
    rw [if_neg z]
    rw [List.append_assoc] at wu
    exact wu
end
set_option maxHeartbeats 2000000 in
theorem v_X8_saysName_0 {K : Sh} {x : Cn} {Q : Cn → Prop} {b0 : Nat} {l1 : Int32}   (K0 : GV mX8_saysName 2 [some (.ref b0), some (.int l1), some (.int 0)] [] K x Q) : mSV mX8_saysName [.ref b0, .int l1] K x Q := by
  refine s_V (by decide) (by simp [Value.category]) (Nat.le_of_ble_eq_true rfl) ?_
  show mGM mX8_saysName 0 [some (.ref b0), some (.int l1), none] [] (hp K x) (PV K Q)
  refine r_iconst (pc := 0) (v := 0) dX8_saysName_0 (by decide) ?_
  refine r_istore_n (pc := 1) dX8_saysName_1 (by decide) ?_
  exact r_le (L' := [some (.ref b0), some (.int l1), some (.int 0)]) ⟨rfl, ⟨rfl, ⟨rfl, trivial⟩⟩⟩ K0
set_option maxHeartbeats 2000000 in
theorem v_X8_saysName_2 {K : Sh} {x : Cn} {Q : Cn → Prop} {b0 : Nat} {l1 : Int32} {l2 : Int32} {b0_1 : Nat} {n_b0_1 : Nat} (k_b0 : kk K b0 = some (8, 0)) (g_b0_1 : gr x b0 1 = some b0_1) (k_b0_1 : kk K b0_1 = some (20, n_b0_1)) (K0 : (6 ≤ l2 → (Q x)) ∧ (¬ 6 ≤ l2 → (vp_in (54 + l1) n_b0_1 ∧ (mSI mX8_letterOf [.int (gi x b0_1 ((54 + l1) : Int32).toNatClampNeg), .int l2] K x (fun r_4 y_3 => (r_4 ≤ 0 → (GV mX8_saysName 2 [some (.ref b0), some (.int l1), some (.int (l2 + 1))] [] K y_3 Q)) ∧ (¬ r_4 ≤ 0 → (gr y_3 b0 1 = some b0_1 ∧ (mSI mX8_letterOf [.int (gi y_3 b0_1 ((54 + l1) : Int32).toNatClampNeg), .int l2] K y_3 (fun r_8 y_7 => mSV mX8_says [.ref b0, .int ((97 + r_8) - 1)] K y_7 (fun y_9 => GV mX8_saysName 2 [some (.ref b0), some (.int l1), some (.int (l2 + 1))] [] K y_9 Q)))))))))) : GV mX8_saysName 2 [some (.ref b0), some (.int l1), some (.int l2)] [] K x Q := by
  show mGM mX8_saysName 2 [some (.ref b0), some (.int l1), some (.int l2)] [] (hp K x) (PV K Q)
  refine r_iload_n (pc := 2) dX8_saysName_2 rfl ?_
  refine r_bipush (pc := 3) (v := 6) dX8_saysName_3 (by decide) ?_
  refine r_icmp_ge (pc := 5) (tgt := 52) dX8_saysName_5 (by decide) (fun q => ?_) (fun q => ?_)
  · have K0 := K0.1 q
    exact s_ret rfl dX8_saysName_52 K0
  · have K0 := K0.2 q
    refine r_aload_n (pc := 8) dX8_saysName_8 rfl ?_
    refine s_getR (pc := 9) dX8_saysName_9 fl_X8_9 rfl k_b0 g_b0_1 ?_
    refine r_bipush (pc := 12) (v := 54) dX8_saysName_12 (by decide) ?_
    refine r_iload_n (pc := 14) dX8_saysName_14 rfl ?_
    refine r_iadd (pc := 15) dX8_saysName_15 ?_
    obtain ⟨i_2, K0⟩ := K0
    refine s_iald (pc := 16) dX8_saysName_16 k_b0_1 i_2 ?_
    refine r_iload_n (pc := 17) dX8_saysName_17 rfl ?_
    refine s_SI (pc := 18) mX8_letterOf (As := [.int (gi x b0_1 ((54 + l1) : Int32).toNatClampNeg), .int l2]) dX8_saysName_18 lk_X8_270 st_X8_letterOf mo_X8_letterOf ⟨by decide, by decide⟩ (Nat.le_of_ble_eq_true rfl) (mSI_mono K0 (fun r_4 y_3 K0 => ?_))
    refine r_if_le (pc := 21) (tgt := 46) dX8_saysName_21 (by decide) (fun q => ?_) (fun q => ?_)
    · have K0 := K0.1 q
      refine r_iinc (pc := 46) (v := l2 + 1) dX8_saysName_46 rfl rfl (by decide) ?_
      refine r_goto (pc := 49) (L := [some (.ref b0), some (.int l1), some (.int (l2 + 1))]) (tgt := 2) dX8_saysName_49 (by decide) ?_
      exact r_le (L' := [some (.ref b0), some (.int l1), some (.int (l2 + 1))]) ⟨rfl, ⟨rfl, ⟨rfl, trivial⟩⟩⟩ K0
    · have K0 := K0.2 q
      refine r_aload_n (pc := 24) dX8_saysName_24 rfl ?_
      refine r_bipush (pc := 25) (v := 97) dX8_saysName_25 (by decide) ?_
      refine r_aload_n (pc := 27) dX8_saysName_27 rfl ?_
      obtain ⟨g_6, K0⟩ := K0
      refine s_getR (pc := 28) dX8_saysName_28 fl_X8_9 rfl k_b0 g_6 ?_
      refine r_bipush (pc := 31) (v := 54) dX8_saysName_31 (by decide) ?_
      refine r_iload_n (pc := 33) dX8_saysName_33 rfl ?_
      refine r_iadd (pc := 34) dX8_saysName_34 ?_
      refine s_iald (pc := 35) dX8_saysName_35 k_b0_1 i_2 ?_
      refine r_iload_n (pc := 36) dX8_saysName_36 rfl ?_
      refine s_SI (pc := 37) mX8_letterOf (As := [.int (gi y_3 b0_1 ((54 + l1) : Int32).toNatClampNeg), .int l2]) dX8_saysName_37 lk_X8_270 st_X8_letterOf mo_X8_letterOf ⟨by decide, by decide⟩ (Nat.le_of_ble_eq_true rfl) (mSI_mono K0 (fun r_8 y_7 K0 => ?_))
      refine r_iadd (pc := 40) dX8_saysName_40 ?_
      refine r_iconst (pc := 41) (v := 1) dX8_saysName_41 (by decide) ?_
      refine r_isub (pc := 42) dX8_saysName_42 ?_
      refine s_VV (pc := 43) mX8_says (ci := 8) (a := b0) (As := [.int ((97 + r_8) - 1)]) dX8_saysName_43 lk_X8_401 in_X8_says mo_X8_says ⟨by decide, rfl⟩ ⟨by decide, by decide⟩ (Nat.le_of_ble_eq_true rfl) k_b0 (mSV_mono K0 (fun y_9 K0 => ?_))
      refine r_iinc (pc := 46) (v := l2 + 1) dX8_saysName_46 rfl rfl (by decide) ?_
      refine r_goto (pc := 49) (L := [some (.ref b0), some (.int l1), some (.int (l2 + 1))]) (tgt := 2) dX8_saysName_49 (by decide) ?_
      exact r_le (L' := [some (.ref b0), some (.int l1), some (.int (l2 + 1))]) ⟨rfl, ⟨rfl, ⟨rfl, trivial⟩⟩⟩ K0
section
theorem sp_X8_saysName {x : Cn} {Q : Cn → Prop} {l : List Nat} {B cr v : Nat} (hc : cr < 8) (hv1 : v < 387420489) (hv : gi x 718 (54 + cr) = nI v) (M : MRf x 718) (w : OR x l B) (hB : B + 6 ≤ 2400) (k : ∀ y, OFr x y → OR y (l ++ nmL v) (B + 6) → Q y) : mSV mX8_saysName [.ref 717, .int (nI cr)] KW x Q := by
  refine v_X8_saysName_0 ?_
  refine lp_acc (nmS v) (fun i l' => ∀ z, OFr x z → OR z l' (B + i) → GV mX8_saysName 2 [some (.ref 717), some (.int (nI cr)), some (.int (nI i))] [] KW z Q) 6 l ?_ (fun i l' hi n1 => ?_) x (OFr.rf x) w
  · intro z fz wz
    have Mz := M.keep fz.1
    refine v_X8_saysName_2 km Mz.1 km1 ⟨fun _ => k z fz ?_, fun u => absurd (by decide) u⟩
    rw [nm_acc] at wz
    exact wz
  · intro z fz wz
    have Mz := M.keep fz.1
    have hd := dg_lt v i
    have gz : gi z 718 (54 + cr) = nI v := (fz.2 718 _ (by decide) (by omega)).trans hv
    have ix : (54 : Int32) + nI cr = nI (54 + cr) := nI_add 54 cr
    refine v_X8_saysName_2 km Mz.1 km1 ⟨fun u => absurd u (nI_ge (b := 6) hi (by decide)), fun _ => ?_⟩
    rw [ix, nI_clamp (by omega), gz, nI_1]
    refine ⟨vp_in_nI (by omega) (by decide), sp_X8_letterOf (by omega) hi ?_⟩
    rw [show nI (v / 27 ^ (5 - i) % 27) ≤ 0 ↔ dg v i ≤ 0 from nI_leI (a := dg v i) (b := 0) (by omega) (by decide)]
    refine ⟨fun u => n1 l' ?_ z fz (wz.le (by omega)), fun u => ⟨Mz.1, ?_⟩⟩
    · unfold nmS; rw [if_pos (by omega)]
    · rw [gz]
      refine sp_X8_letterOf (by omega) hi ?_
      rw [show (97 + nI (v / 27 ^ (5 - i) % 27)) - 1 = nI (96 + dg v i) from (by rw [show (97 : Int32) + nI (v / 27 ^ (5 - i) % 27) = nI (97 + dg v i) from nI_add 97 _, show nI (97 + dg v i) - 1 = nI (97 + dg v i - 1) from pk_sub (b := 1) (by omega)]; congr 1; omega)]
      refine sp_X8_says (by omega) Mz wz (by omega) (fun z2 f2 w2 => n1 _ ?_ z2 (fz.tr f2) w2)
      unfold nmS; rw [if_neg (by omega)]
end
set_option maxHeartbeats 2000000 in
theorem v_X8_dayOf_0 {K : Sh} {x : Cn} {Q : Nat → Cn → Prop} {l0 : Int32}   (K0 : (l0 = 0 → (Q (mSB + 15) x)) ∧ (l0 = 1 → (Q (mSB + 16) x)) ∧ (l0 = 2 → (Q (mSB + 17) x)) ∧ (l0 = 3 → (Q (mSB + 18) x)) ∧ (l0 = 4 → (Q (mSB + 19) x)) ∧ (l0 = 5 → (Q (mSB + 20) x)) ∧ ((¬ l0 = 0 ∧ ¬ l0 = 1 ∧ ¬ l0 = 2 ∧ ¬ l0 = 3 ∧ ¬ l0 = 4 ∧ ¬ l0 = 5) → (Q (mSB + 21) x))) : mSR mX8_dayOf [.int l0] K x Q := by
  refine s_R (by decide) (by simp [Value.category]) (Nat.le_of_ble_eq_true rfl) ?_
  show mGM mX8_dayOf 0 [some (.int l0)] [] (hp K x) (PR K Q)
  refine r_iload_n (pc := 0) dX8_dayOf_0 rfl ?_
  by_cases q0 : l0 = 0
  · have K0 := K0.1 q0
    refine r_tabIn (pc := 1) (tgt := 40) (off := 39) dX8_dayOf_1 (by rw [q0]; decide) (by rw [q0]; decide) (by rw [q0]; decide) (by decide) ?_
    refine r_ldcS (pc := 40) (j := 15) dX8_dayOf_40 rfl ?_
    exact s_aret rfl dX8_dayOf_42 K0
  have K0 := K0.2
  by_cases q1 : l0 = 1
  · have K0 := K0.1 q1
    refine r_tabIn (pc := 1) (tgt := 43) (off := 42) dX8_dayOf_1 (by rw [q1]; decide) (by rw [q1]; decide) (by rw [q1]; decide) (by decide) ?_
    refine r_ldcS (pc := 43) (j := 16) dX8_dayOf_43 rfl ?_
    exact s_aret rfl dX8_dayOf_45 K0
  have K0 := K0.2
  by_cases q2 : l0 = 2
  · have K0 := K0.1 q2
    refine r_tabIn (pc := 1) (tgt := 46) (off := 45) dX8_dayOf_1 (by rw [q2]; decide) (by rw [q2]; decide) (by rw [q2]; decide) (by decide) ?_
    refine r_ldcS (pc := 46) (j := 17) dX8_dayOf_46 rfl ?_
    exact s_aret rfl dX8_dayOf_48 K0
  have K0 := K0.2
  by_cases q3 : l0 = 3
  · have K0 := K0.1 q3
    refine r_tabIn (pc := 1) (tgt := 49) (off := 48) dX8_dayOf_1 (by rw [q3]; decide) (by rw [q3]; decide) (by rw [q3]; decide) (by decide) ?_
    refine r_ldcS (pc := 49) (j := 18) dX8_dayOf_49 rfl ?_
    exact s_aret rfl dX8_dayOf_51 K0
  have K0 := K0.2
  by_cases q4 : l0 = 4
  · have K0 := K0.1 q4
    refine r_tabIn (pc := 1) (tgt := 52) (off := 51) dX8_dayOf_1 (by rw [q4]; decide) (by rw [q4]; decide) (by rw [q4]; decide) (by decide) ?_
    refine r_ldcS (pc := 52) (j := 19) dX8_dayOf_52 rfl ?_
    exact s_aret rfl dX8_dayOf_54 K0
  have K0 := K0.2
  by_cases q5 : l0 = 5
  · have K0 := K0.1 q5
    refine r_tabIn (pc := 1) (tgt := 55) (off := 54) dX8_dayOf_1 (by rw [q5]; decide) (by rw [q5]; decide) (by rw [q5]; decide) (by decide) ?_
    refine r_ldcS (pc := 55) (j := 20) dX8_dayOf_55 rfl ?_
    exact s_aret rfl dX8_dayOf_57 K0
  have K0 := K0.2
  have K0 := K0 ⟨q0, q1, q2, q3, q4, q5⟩
  refine r_tabOut (pc := 1) (tgt := 58) dX8_dayOf_1 (by have z0 : ¬ Int32.toInt (l0) = 0 := fun z => q0 (Int32.toInt_inj.mp (z.trans (by decide))); have z1 : ¬ Int32.toInt (l0) = 1 := fun z => q1 (Int32.toInt_inj.mp (z.trans (by decide))); have z2 : ¬ Int32.toInt (l0) = 2 := fun z => q2 (Int32.toInt_inj.mp (z.trans (by decide))); have z3 : ¬ Int32.toInt (l0) = 3 := fun z => q3 (Int32.toInt_inj.mp (z.trans (by decide))); have z4 : ¬ Int32.toInt (l0) = 4 := fun z => q4 (Int32.toInt_inj.mp (z.trans (by decide))); have z5 : ¬ Int32.toInt (l0) = 5 := fun z => q5 (Int32.toInt_inj.mp (z.trans (by decide))); omega) (by decide) ?_
  refine r_ldcS (pc := 58) (j := 21) dX8_dayOf_58 rfl ?_
  exact s_aret rfl dX8_dayOf_60 K0
section
theorem sp_X8_dayOf {K : Sh} {x : Cn} {Q : Nat → Cn → Prop} {d : Nat} (hd : d < 7) (k : Q (mSB + (15 + d)) x) : mSR mX8_dayOf [.int (nI d)] K x Q := by
  have e : ∀ m, m < 7 → (nI d = nI m ↔ d = m) := fun m hm => nI_eq (by omega) (by omega)
  have : d = 0 ∨ d = 1 ∨ d = 2 ∨ d = 3 ∨ d = 4 ∨ d = 5 ∨ d = 6 := by omega
  refine v_X8_dayOf_0 ?_
  rcases this with rfl | rfl | rfl | rfl | rfl | rfl | rfl
  · exact ⟨fun _ => k, fun z => absurd z (by decide), fun z => absurd z (by decide), fun z => absurd z (by decide), fun z => absurd z (by decide), fun z => absurd z (by decide), fun z => absurd rfl z.1⟩
  · exact ⟨fun z => absurd z (by decide), fun _ => k, fun z => absurd z (by decide), fun z => absurd z (by decide), fun z => absurd z (by decide), fun z => absurd z (by decide), fun z => absurd rfl z.2.1⟩
  · exact ⟨fun z => absurd z (by decide), fun z => absurd z (by decide), fun _ => k, fun z => absurd z (by decide), fun z => absurd z (by decide), fun z => absurd z (by decide), fun z => absurd rfl z.2.2.1⟩
  · exact ⟨fun z => absurd z (by decide), fun z => absurd z (by decide), fun z => absurd z (by decide), fun _ => k, fun z => absurd z (by decide), fun z => absurd z (by decide), fun z => absurd rfl z.2.2.2.1⟩
  · exact ⟨fun z => absurd z (by decide), fun z => absurd z (by decide), fun z => absurd z (by decide), fun z => absurd z (by decide), fun _ => k, fun z => absurd z (by decide), fun z => absurd rfl z.2.2.2.2.1⟩
  · exact ⟨fun z => absurd z (by decide), fun z => absurd z (by decide), fun z => absurd z (by decide), fun z => absurd z (by decide), fun z => absurd z (by decide), fun _ => k, fun z => absurd rfl z.2.2.2.2.2⟩
  · exact ⟨fun z => absurd z (by decide), fun z => absurd z (by decide), fun z => absurd z (by decide), fun z => absurd z (by decide), fun z => absurd z (by decide), fun z => absurd z (by decide), fun _ => k⟩
end
set_option maxHeartbeats 2000000 in
theorem v_X8_saysCommon_0 {K : Sh} {x : Cn} {Q : Cn → Prop} {b0 : Nat} {b1 : Nat} {l2 : Int32} {l3 : Int32}  (k_b0 : kk K b0 = some (8, 0)) (K0 : mSV mX8_saysText [.ref b0, .ref b1] K x (fun y_1 => ∃ c_2 : Nat, gr y_1 b0 1 = some c_2 ∧ (∃ n_5 : Nat, kk K c_2 = some (20, n_5) ∧ (vp_in l2 n_5 ∧ (mSV mX8_saysName [.ref b0, .int (gi y_1 c_2 (l2 : Int32).toNatClampNeg)] K y_1 (fun y_7 => mSV mX8_says [.ref b0, .int 32] K y_7 (fun y_8 => ∃ c_9 : Nat, gr y_8 b0 1 = some c_9 ∧ (∃ n_12 : Nat, kk K c_9 = some (20, n_12) ∧ (vp_in (l2 + 1) n_12 ∧ (mSR mX8_dayOf [.int (gi y_8 c_9 ((l2 + 1) : Int32).toNatClampNeg)] K y_8 (fun r_15 y_14 => mSV mX8_saysText [.ref b0, .ref r_15] K y_14 (fun y_16 => mSV mX8_says [.ref b0, .int 32] K y_16 (fun y_17 => ∃ c_18 : Nat, gr y_17 b0 1 = some c_18 ∧ (∃ n_21 : Nat, kk K c_18 = some (20, n_21) ∧ (vp_in (l2 + 2) n_21 ∧ (mSV mX8_saysNumber [.ref b0, .int (gi y_17 c_18 ((l2 + 2) : Int32).toNatClampNeg)] K y_17 (fun y_23 => ∃ c_24 : Nat, gr y_23 b0 1 = some c_24 ∧ (∃ n_27 : Nat, kk K c_24 = some (20, n_27) ∧ (vp_in (l2 + 3) n_27 ∧ ((¬ (gi y_23 c_24 ((l2 + 3) : Int32).toNatClampNeg) = 0 → (mSV mX8_saysText [.ref b0, .ref (mSB + 32)] K y_23 (fun y_30 => ∃ c_31 : Nat, gr y_30 b0 1 = some c_31 ∧ (∃ n_34 : Nat, kk K c_31 = some (20, n_34) ∧ (vp_in (l2 + l3) n_34 ∧ (mSV mX8_saysNumber [.ref b0, .int (gi y_30 c_31 ((l2 + l3) : Int32).toNatClampNeg)] K y_30 (fun y_36 => mSV mX8_says [.ref b0, .int 45] K y_36 (fun y_37 => ∃ c_38 : Nat, gr y_37 b0 1 = some c_38 ∧ (∃ n_41 : Nat, kk K c_38 = some (20, n_41) ∧ (vp_in ((l2 + l3) + 1) n_41 ∧ (mSV mX8_saysNumber [.ref b0, .int (gi y_37 c_38 (((l2 + l3) + 1) : Int32).toNatClampNeg)] K y_37 (fun y_43 => Q y_43)))))))))))) ∧ ((gi y_23 c_24 ((l2 + 3) : Int32).toNatClampNeg) = 0 → (mSV mX8_saysText [.ref b0, .ref (mSB + 29)] K y_23 (fun y_44 => ∃ c_45 : Nat, gr y_44 b0 1 = some c_45 ∧ (∃ n_48 : Nat, kk K c_45 = some (20, n_48) ∧ (vp_in (l2 + l3) n_48 ∧ (mSV mX8_saysNumber [.ref b0, .int (gi y_44 c_45 ((l2 + l3) : Int32).toNatClampNeg)] K y_44 (fun y_50 => mSV mX8_says [.ref b0, .int 45] K y_50 (fun y_51 => ∃ c_52 : Nat, gr y_51 b0 1 = some c_52 ∧ (∃ n_55 : Nat, kk K c_52 = some (20, n_55) ∧ (vp_in ((l2 + l3) + 1) n_55 ∧ (mSV mX8_saysNumber [.ref b0, .int (gi y_51 c_52 (((l2 + l3) + 1) : Int32).toNatClampNeg)] K y_51 (fun y_57 => Q y_57)))))))))))))))))))))))))))))))) : mSV mX8_saysCommon [.ref b0, .ref b1, .int l2, .int l3] K x Q := by
  refine s_V (by decide) (by simp [Value.category]) (Nat.le_of_ble_eq_true rfl) ?_
  show mGM mX8_saysCommon 0 [some (.ref b0), some (.ref b1), some (.int l2), some (.int l3)] [] (hp K x) (PV K Q)
  refine r_aload_n (pc := 0) dX8_saysCommon_0 rfl ?_
  refine r_aload_n (pc := 1) dX8_saysCommon_1 rfl ?_
  refine s_VV (pc := 2) mX8_saysText (ci := 8) (a := b0) (As := [.ref b1]) dX8_saysCommon_2 lk_X8_404 in_X8_saysText mo_X8_saysText ⟨by decide, rfl⟩ ⟨by decide, by decide⟩ (Nat.le_of_ble_eq_true rfl) k_b0 (mSV_mono K0 (fun y_1 K0 => ?_))
  refine r_aload_n (pc := 5) dX8_saysCommon_5 rfl ?_
  refine r_aload_n (pc := 6) dX8_saysCommon_6 rfl ?_
  obtain ⟨c_2, g_3, K0⟩ := K0
  refine s_getR (pc := 7) dX8_saysCommon_7 fl_X8_9 rfl k_b0 g_3 ?_
  refine r_iload_n (pc := 10) dX8_saysCommon_10 rfl ?_
  obtain ⟨n_5, e_4, K0⟩ := K0
  obtain ⟨i_6, K0⟩ := K0
  refine s_iald (pc := 11) dX8_saysCommon_11 e_4 i_6 ?_
  refine s_VV (pc := 12) mX8_saysName (ci := 8) (a := b0) (As := [.int (gi y_1 c_2 (l2 : Int32).toNatClampNeg)]) dX8_saysCommon_12 lk_X8_407 in_X8_saysName mo_X8_saysName ⟨by decide, rfl⟩ ⟨by decide, by decide⟩ (Nat.le_of_ble_eq_true rfl) k_b0 (mSV_mono K0 (fun y_7 K0 => ?_))
  refine r_aload_n (pc := 15) dX8_saysCommon_15 rfl ?_
  refine r_bipush (pc := 16) (v := 32) dX8_saysCommon_16 (by decide) ?_
  refine s_VV (pc := 18) mX8_says (ci := 8) (a := b0) (As := [.int 32]) dX8_saysCommon_18 lk_X8_401 in_X8_says mo_X8_says ⟨by decide, rfl⟩ ⟨by decide, by decide⟩ (Nat.le_of_ble_eq_true rfl) k_b0 (mSV_mono K0 (fun y_8 K0 => ?_))
  refine r_aload_n (pc := 21) dX8_saysCommon_21 rfl ?_
  refine r_aload_n (pc := 22) dX8_saysCommon_22 rfl ?_
  obtain ⟨c_9, g_10, K0⟩ := K0
  refine s_getR (pc := 23) dX8_saysCommon_23 fl_X8_9 rfl k_b0 g_10 ?_
  refine r_iload_n (pc := 26) dX8_saysCommon_26 rfl ?_
  refine r_iconst (pc := 27) (v := 1) dX8_saysCommon_27 (by decide) ?_
  refine r_iadd (pc := 28) dX8_saysCommon_28 ?_
  obtain ⟨n_12, e_11, K0⟩ := K0
  obtain ⟨i_13, K0⟩ := K0
  refine s_iald (pc := 29) dX8_saysCommon_29 e_11 i_13 ?_
  refine s_SR (pc := 30) mX8_dayOf (As := [.int (gi y_8 c_9 ((l2 + 1) : Int32).toNatClampNeg)]) dX8_saysCommon_30 lk_X8_178 st_X8_dayOf mo_X8_dayOf ⟨by decide, by decide⟩ (Nat.le_of_ble_eq_true rfl) (mSR_mono K0 (fun r_15 y_14 K0 => ?_))
  refine s_VV (pc := 33) mX8_saysText (ci := 8) (a := b0) (As := [.ref r_15]) dX8_saysCommon_33 lk_X8_404 in_X8_saysText mo_X8_saysText ⟨by decide, rfl⟩ ⟨by decide, by decide⟩ (Nat.le_of_ble_eq_true rfl) k_b0 (mSV_mono K0 (fun y_16 K0 => ?_))
  refine r_aload_n (pc := 36) dX8_saysCommon_36 rfl ?_
  refine r_bipush (pc := 37) (v := 32) dX8_saysCommon_37 (by decide) ?_
  refine s_VV (pc := 39) mX8_says (ci := 8) (a := b0) (As := [.int 32]) dX8_saysCommon_39 lk_X8_401 in_X8_says mo_X8_says ⟨by decide, rfl⟩ ⟨by decide, by decide⟩ (Nat.le_of_ble_eq_true rfl) k_b0 (mSV_mono K0 (fun y_17 K0 => ?_))
  refine r_aload_n (pc := 42) dX8_saysCommon_42 rfl ?_
  refine r_aload_n (pc := 43) dX8_saysCommon_43 rfl ?_
  obtain ⟨c_18, g_19, K0⟩ := K0
  refine s_getR (pc := 44) dX8_saysCommon_44 fl_X8_9 rfl k_b0 g_19 ?_
  refine r_iload_n (pc := 47) dX8_saysCommon_47 rfl ?_
  refine r_iconst (pc := 48) (v := 2) dX8_saysCommon_48 (by decide) ?_
  refine r_iadd (pc := 49) dX8_saysCommon_49 ?_
  obtain ⟨n_21, e_20, K0⟩ := K0
  obtain ⟨i_22, K0⟩ := K0
  refine s_iald (pc := 50) dX8_saysCommon_50 e_20 i_22 ?_
  refine s_VV (pc := 51) mX8_saysNumber (ci := 8) (a := b0) (As := [.int (gi y_17 c_18 ((l2 + 2) : Int32).toNatClampNeg)]) dX8_saysCommon_51 lk_X8_410 in_X8_saysNumber mo_X8_saysNumber ⟨by decide, rfl⟩ ⟨by decide, by decide⟩ (Nat.le_of_ble_eq_true rfl) k_b0 (mSV_mono K0 (fun y_23 K0 => ?_))
  refine r_aload_n (pc := 54) dX8_saysCommon_54 rfl ?_
  refine r_aload_n (pc := 55) dX8_saysCommon_55 rfl ?_
  obtain ⟨c_24, g_25, K0⟩ := K0
  refine s_getR (pc := 56) dX8_saysCommon_56 fl_X8_9 rfl k_b0 g_25 ?_
  refine r_iload_n (pc := 59) dX8_saysCommon_59 rfl ?_
  refine r_iconst (pc := 60) (v := 3) dX8_saysCommon_60 (by decide) ?_
  refine r_iadd (pc := 61) dX8_saysCommon_61 ?_
  obtain ⟨n_27, e_26, K0⟩ := K0
  obtain ⟨i_28, K0⟩ := K0
  refine s_iald (pc := 62) dX8_saysCommon_62 e_26 i_28 ?_
  refine r_if_ne (pc := 63) (tgt := 72) dX8_saysCommon_63 (by decide) (fun q => ?_) (fun q => ?_)
  · have K0 := K0.1 q
    refine r_ldcwS (pc := 72) (j := 32) dX8_saysCommon_72 rfl ?_
    refine s_VV (pc := 75) mX8_saysText (ci := 8) (a := b0) (As := [.ref (mSB + 32)]) dX8_saysCommon_75 lk_X8_404 in_X8_saysText mo_X8_saysText ⟨by decide, rfl⟩ ⟨by decide, by decide⟩ (Nat.le_of_ble_eq_true rfl) k_b0 (mSV_mono K0 (fun y_30 K0 => ?_))
    refine r_aload_n (pc := 78) dX8_saysCommon_78 rfl ?_
    refine r_aload_n (pc := 79) dX8_saysCommon_79 rfl ?_
    obtain ⟨c_31, g_32, K0⟩ := K0
    refine s_getR (pc := 80) dX8_saysCommon_80 fl_X8_9 rfl k_b0 g_32 ?_
    refine r_iload_n (pc := 83) dX8_saysCommon_83 rfl ?_
    refine r_iload_n (pc := 84) dX8_saysCommon_84 rfl ?_
    refine r_iadd (pc := 85) dX8_saysCommon_85 ?_
    obtain ⟨n_34, e_33, K0⟩ := K0
    obtain ⟨i_35, K0⟩ := K0
    refine s_iald (pc := 86) dX8_saysCommon_86 e_33 i_35 ?_
    refine s_VV (pc := 87) mX8_saysNumber (ci := 8) (a := b0) (As := [.int (gi y_30 c_31 ((l2 + l3) : Int32).toNatClampNeg)]) dX8_saysCommon_87 lk_X8_410 in_X8_saysNumber mo_X8_saysNumber ⟨by decide, rfl⟩ ⟨by decide, by decide⟩ (Nat.le_of_ble_eq_true rfl) k_b0 (mSV_mono K0 (fun y_36 K0 => ?_))
    refine r_aload_n (pc := 90) dX8_saysCommon_90 rfl ?_
    refine r_bipush (pc := 91) (v := 45) dX8_saysCommon_91 (by decide) ?_
    refine s_VV (pc := 93) mX8_says (ci := 8) (a := b0) (As := [.int 45]) dX8_saysCommon_93 lk_X8_401 in_X8_says mo_X8_says ⟨by decide, rfl⟩ ⟨by decide, by decide⟩ (Nat.le_of_ble_eq_true rfl) k_b0 (mSV_mono K0 (fun y_37 K0 => ?_))
    refine r_aload_n (pc := 96) dX8_saysCommon_96 rfl ?_
    refine r_aload_n (pc := 97) dX8_saysCommon_97 rfl ?_
    obtain ⟨c_38, g_39, K0⟩ := K0
    refine s_getR (pc := 98) dX8_saysCommon_98 fl_X8_9 rfl k_b0 g_39 ?_
    refine r_iload_n (pc := 101) dX8_saysCommon_101 rfl ?_
    refine r_iload_n (pc := 102) dX8_saysCommon_102 rfl ?_
    refine r_iadd (pc := 103) dX8_saysCommon_103 ?_
    refine r_iconst (pc := 104) (v := 1) dX8_saysCommon_104 (by decide) ?_
    refine r_iadd (pc := 105) dX8_saysCommon_105 ?_
    obtain ⟨n_41, e_40, K0⟩ := K0
    obtain ⟨i_42, K0⟩ := K0
    refine s_iald (pc := 106) dX8_saysCommon_106 e_40 i_42 ?_
    refine s_VV (pc := 107) mX8_saysNumber (ci := 8) (a := b0) (As := [.int (gi y_37 c_38 (((l2 + l3) + 1) : Int32).toNatClampNeg)]) dX8_saysCommon_107 lk_X8_410 in_X8_saysNumber mo_X8_saysNumber ⟨by decide, rfl⟩ ⟨by decide, by decide⟩ (Nat.le_of_ble_eq_true rfl) k_b0 (mSV_mono K0 (fun y_43 K0 => ?_))
    exact s_ret rfl dX8_saysCommon_110 K0
  · have K0 := K0.2 q
    refine r_ldcwS (pc := 66) (j := 29) dX8_saysCommon_66 rfl ?_
    refine r_goto (pc := 69) (tgt := 75) dX8_saysCommon_69 (by decide) ?_
    refine s_VV (pc := 75) mX8_saysText (ci := 8) (a := b0) (As := [.ref (mSB + 29)]) dX8_saysCommon_75 lk_X8_404 in_X8_saysText mo_X8_saysText ⟨by decide, rfl⟩ ⟨by decide, by decide⟩ (Nat.le_of_ble_eq_true rfl) k_b0 (mSV_mono K0 (fun y_44 K0 => ?_))
    refine r_aload_n (pc := 78) dX8_saysCommon_78 rfl ?_
    refine r_aload_n (pc := 79) dX8_saysCommon_79 rfl ?_
    obtain ⟨c_45, g_46, K0⟩ := K0
    refine s_getR (pc := 80) dX8_saysCommon_80 fl_X8_9 rfl k_b0 g_46 ?_
    refine r_iload_n (pc := 83) dX8_saysCommon_83 rfl ?_
    refine r_iload_n (pc := 84) dX8_saysCommon_84 rfl ?_
    refine r_iadd (pc := 85) dX8_saysCommon_85 ?_
    obtain ⟨n_48, e_47, K0⟩ := K0
    obtain ⟨i_49, K0⟩ := K0
    refine s_iald (pc := 86) dX8_saysCommon_86 e_47 i_49 ?_
    refine s_VV (pc := 87) mX8_saysNumber (ci := 8) (a := b0) (As := [.int (gi y_44 c_45 ((l2 + l3) : Int32).toNatClampNeg)]) dX8_saysCommon_87 lk_X8_410 in_X8_saysNumber mo_X8_saysNumber ⟨by decide, rfl⟩ ⟨by decide, by decide⟩ (Nat.le_of_ble_eq_true rfl) k_b0 (mSV_mono K0 (fun y_50 K0 => ?_))
    refine r_aload_n (pc := 90) dX8_saysCommon_90 rfl ?_
    refine r_bipush (pc := 91) (v := 45) dX8_saysCommon_91 (by decide) ?_
    refine s_VV (pc := 93) mX8_says (ci := 8) (a := b0) (As := [.int 45]) dX8_saysCommon_93 lk_X8_401 in_X8_says mo_X8_says ⟨by decide, rfl⟩ ⟨by decide, by decide⟩ (Nat.le_of_ble_eq_true rfl) k_b0 (mSV_mono K0 (fun y_51 K0 => ?_))
    refine r_aload_n (pc := 96) dX8_saysCommon_96 rfl ?_
    refine r_aload_n (pc := 97) dX8_saysCommon_97 rfl ?_
    obtain ⟨c_52, g_53, K0⟩ := K0
    refine s_getR (pc := 98) dX8_saysCommon_98 fl_X8_9 rfl k_b0 g_53 ?_
    refine r_iload_n (pc := 101) dX8_saysCommon_101 rfl ?_
    refine r_iload_n (pc := 102) dX8_saysCommon_102 rfl ?_
    refine r_iadd (pc := 103) dX8_saysCommon_103 ?_
    refine r_iconst (pc := 104) (v := 1) dX8_saysCommon_104 (by decide) ?_
    refine r_iadd (pc := 105) dX8_saysCommon_105 ?_
    obtain ⟨n_55, e_54, K0⟩ := K0
    obtain ⟨i_56, K0⟩ := K0
    refine s_iald (pc := 106) dX8_saysCommon_106 e_54 i_56 ?_
    refine s_VV (pc := 107) mX8_saysNumber (ci := 8) (a := b0) (As := [.int (gi y_51 c_52 (((l2 + l3) + 1) : Int32).toNatClampNeg)]) dX8_saysCommon_107 lk_X8_410 in_X8_saysNumber mo_X8_saysNumber ⟨by decide, rfl⟩ ⟨by decide, by decide⟩ (Nat.le_of_ble_eq_true rfl) k_b0 (mSV_mono K0 (fun y_57 K0 => ?_))
    exact s_ret rfl dX8_saysCommon_110 K0
section
theorem sp_X8_saysCommon {x : Cn} {Q : Cn → Prop} {l : List Nat} {B cr v d h f t j m b0 f0 : Nat} {way : Int32} (T : TT) (hT : gi x 718 = T) (hb0 : b0 + f0 + 1 < 518 ∧ b0 + 3 < 518) (hf0 : f0 ≤ 5) (t0 : T b0 = nI cr) (t1 : T (b0 + 1) = nI d) (t2 : T (b0 + 2) = nI h) (t3 : T (b0 + 3) = way) (t5 : T (b0 + f0) = nI f) (t6 : T (b0 + f0 + 1) = nI t) (hc : cr < 8) (hv1 : v < 387420489) (hv : T (54 + cr) = nI v) (hd : d < 7) (hh : h < 100) (hf : f < 100) (ht : t < 100) (hj : j < 37) (hm : (mSq j).2.2.2.length ≤ m) (M : MRf x 718) (w : OR x l B) (hB : B + 23 + m ≤ 2400) (k : ∀ y, OFr x y → OR y (l ++ comP (wd j) v d h way f t) (B + 23 + m) → Q y) : mSV mX8_saysCommon [.ref 717, .ref (mSB + j), .int (nI b0), .int (nI f0)] KW x Q := by
  have Mg : ∀ y : Cn, OFr x y → MRf y 718 := fun y fy => M.keep fy.1
  have tg : ∀ y : Cn, OFr x y → ∀ i, gi y 718 i = T i := fun y fy i => by rw [fy.2 718 i (by decide) (by omega), hT]
  have i1 : nI b0 + 1 = nI (b0 + 1) := nI_1 b0
  have i2 : nI b0 + 2 = nI (b0 + 2) := nI_add b0 2
  have i3 : nI b0 + 3 = nI (b0 + 3) := nI_add b0 3
  have i5 : nI b0 + nI f0 = nI (b0 + f0) := nI_add b0 f0
  have i6 : nI (b0 + f0) + 1 = nI (b0 + f0 + 1) := nI_1 _
  refine v_X8_saysCommon_0 km (sp_X8_saysText (m := m) (mSq_at hj) hm M w (by omega) (fun y1 f1 w1 => ⟨718, (Mg y1 f1).1, 518, km1, vp_in_nI (by omega) (by decide), ?_⟩))
  rw [nI_clamp (by omega), tg y1 f1, t0]
  refine sp_X8_saysName hc hv1 (by rw [tg y1 f1]; exact hv) (Mg y1 f1) w1 (by omega) (fun y2 f2 w2 => ?_)
  have F2 := f1.tr f2
  refine sp_X8_says (n := 32) (by decide) (Mg y2 F2) w2 (by omega) (fun y3 f3 w3 => ?_)
  have F3 := F2.tr f3
  rw [i1, i2, i3, i5, i6, nI_clamp (show b0 + 1 < 2 ^ 31 by omega), nI_clamp (show b0 + 2 < 2 ^ 31 by omega), nI_clamp (show b0 + 3 < 2 ^ 31 by omega), nI_clamp (show b0 + f0 < 2 ^ 31 by omega), nI_clamp (show b0 + f0 + 1 < 2 ^ 31 by omega)]
  refine ⟨718, (Mg y3 F3).1, 518, km1, vp_in_nI (by omega) (by decide), ?_⟩
  rw [tg y3 F3, t1]
  refine sp_X8_dayOf hd (sp_X8_saysText (m := 3) (mSq_at (by omega)) (by rw [← wq_len]; show (wd (15 + d)).length ≤ 3; rw [day_wd d hd]; exact Nat.le_refl _) (Mg y3 F3) w3 (by omega) (fun y4 f4 w4 => ?_))
  rw [show wq (mSq (15 + d)) = dayL d from day_wd d hd] at w4
  have F4 := F3.tr f4
  refine sp_X8_says (n := 32) (by decide) (Mg y4 F4) w4 (by omega) (fun y5 f5 w5 => ⟨718, (Mg y5 (F4.tr f5)).1, 518, km1, vp_in_nI (by omega) (by decide), ?_⟩)
  have F5 := F4.tr f5
  rw [tg y5 F5, t2]
  refine sp_X8_saysNumber hh (Mg y5 F5) w5 (by omega) (fun y6 f6 w6 => ⟨718, (Mg y6 (F5.tr f6)).1, 518, km1, vp_in_nI (by omega) (by decide), ?_⟩)
  have F6 := F5.tr f6
  rw [tg y6 F6, t3]
  have rest : ∀ (y7 : Cn) (W7 : List Nat) B7, OFr x y7 → OR y7 (l ++ wd j ++ nmL v ++ [32] ++ dayL d ++ [32] ++ numL h ++ W7) B7 → B7 + 5 ≤ B + 23 + m → W7 = (if way = 0 then wd 29 else wd 32) → ∃ c_31, gr y7 717 1 = some c_31 ∧ (∃ n_34, kk KW c_31 = some (20, n_34) ∧ (vp_in (nI (b0 + f0)) n_34 ∧ mSV mX8_saysNumber [.ref 717, .int (gi y7 c_31 (b0 + f0))] KW y7 (fun y_36 => mSV mX8_says [.ref 717, .int 45] KW y_36 (fun y_37 => ∃ c_38, gr y_37 717 1 = some c_38 ∧ (∃ n_41, kk KW c_38 = some (20, n_41) ∧ (vp_in (nI (b0 + f0 + 1)) n_41 ∧ mSV mX8_saysNumber [.ref 717, .int (gi y_37 c_38 (b0 + f0 + 1))] KW y_37 (fun y_43 => Q y_43))))))) := by
    intro y7 W7 B7 F7 w7 hB7 hW7
    refine ⟨718, (Mg y7 F7).1, 518, km1, vp_in_nI (by omega) (by decide), ?_⟩
    rw [tg y7 F7, t5]
    refine sp_X8_saysNumber hf (Mg y7 F7) w7 (by omega) (fun y8 f8 w8 => sp_X8_says (n := 45) (by decide) (Mg y8 (F7.tr f8)) w8 (by omega) (fun y9 f9 w9 => ⟨718, (Mg y9 (F7.tr (f8.tr f9))).1, 518, km1, vp_in_nI (by omega) (by decide), ?_⟩))
    have F9 := F7.tr (f8.tr f9)
    rw [tg y9 F9, t6]
    refine sp_X8_saysNumber ht (Mg y9 F9) w9 (by omega) (fun y10 f10 w10 => k y10 (F9.tr f10) ?_)
    have e : l ++ wd j ++ nmL v ++ [32] ++ dayL d ++ [32] ++ numL h ++ W7 ++ numL f ++ [45] ++ numL t = l ++ comP (wd j) v d h way f t := by
      rw [hW7]
      simp only [comP, List.append_assoc]
    rw [e] at w10
    exact w10.le (by omega)
  refine ⟨fun z => sp_X8_saysText (j := 32) (m := 5) (mSq_at (by decide)) (by decide) (Mg y6 F6) w6 (by omega) (fun y7 f7 w7 => rest y7 _ _ (F6.tr f7) w7 (by omega) (by rw [if_neg z])), fun z => sp_X8_saysText (j := 29) (m := 4) (mSq_at (by decide)) (by decide) (Mg y6 F6) w6 (by omega) (fun y7 f7 w7 => rest y7 _ _ (F6.tr f7) w7 (by omega) (by rw [if_pos z]))⟩
end
set_option maxHeartbeats 2000000 in
theorem v_X8_tell_0 {K : Sh} {x : Cn} {Q : Int32 → Cn → Prop} {b0 : Nat} {b0_1 : Nat} {n_b0_1 : Nat} (k_b0 : kk K b0 = some (8, 0)) (g_b0_1 : gr x b0 1 = some b0_1) (k_b0_1 : kk K b0_1 = some (20, n_b0_1)) (K0 : vp_in 0 n_b0_1 ∧ (((0 < gi x b0_1 0) → (mSV mX8_saysText [.ref b0, .ref (mSB + 27)] K (ui x b0 22 0) (fun y_3 => gr y_3 b0 1 = some b0_1 ∧ (mSV mX8_saysNumber [.ref b0, .int (gi y_3 b0_1 0)] K y_3 (fun y_5 => mSV mX8_says [.ref b0, .int 59] K y_5 (fun y_6 => GI mX8_tell 40 [some (.ref b0), some (.int 0)] [] K y_6 Q)))))) ∧ (¬ (0 < gi x b0_1 0) → (Q (-2) x)))) : mSI mX8_tell [.ref b0] K x Q := by
  refine s_I (by decide) (by simp [Value.category]) (Nat.le_of_ble_eq_true rfl) ?_
  show mGM mX8_tell 0 [some (.ref b0), none] [] (hp K x) (PI K Q)
  refine r_aload_n (pc := 0) dX8_tell_0 rfl ?_
  obtain ⟨i_1, K0⟩ := K0
  refine s_VI (pc := 1) mX8_isThere (ci := 8) (a := b0) (As := []) dX8_tell_1 lk_X8_49 in_X8_isThere mo_X8_isThere ⟨by decide, rfl⟩ ⟨by decide, by decide⟩ (Nat.le_of_ble_eq_true rfl) k_b0 (sp_X8_isThere k_b0 g_b0_1 k_b0_1 i_1 ?_)
  refine r_if_ne (pc := 4) (tgt := 10) dX8_tell_4 (by decide) (fun q => ?_) (fun q => ?_)
  · have q := b2i_nz q
    have K0 := K0.1 q
    refine r_aload_n (pc := 10) dX8_tell_10 rfl ?_
    refine r_iconst (pc := 11) (v := 0) dX8_tell_11 (by decide) ?_
    refine s_putI (pc := 12) dX8_tell_12 fl_X8_398 rfl rfl k_b0 ?_
    refine r_aload_n (pc := 15) dX8_tell_15 rfl ?_
    refine r_ldcwS (pc := 16) (j := 27) dX8_tell_16 rfl ?_
    refine s_VV (pc := 19) mX8_saysText (ci := 8) (a := b0) (As := [.ref (mSB + 27)]) dX8_tell_19 lk_X8_404 in_X8_saysText mo_X8_saysText ⟨by decide, rfl⟩ ⟨by decide, by decide⟩ (Nat.le_of_ble_eq_true rfl) k_b0 (mSV_mono K0 (fun y_3 K0 => ?_))
    refine r_aload_n (pc := 22) dX8_tell_22 rfl ?_
    refine r_aload_n (pc := 23) dX8_tell_23 rfl ?_
    obtain ⟨g_4, K0⟩ := K0
    refine s_getR (pc := 24) dX8_tell_24 fl_X8_9 rfl k_b0 g_4 ?_
    refine r_iconst (pc := 27) (v := 0) dX8_tell_27 (by decide) ?_
    refine s_iald (pc := 28) dX8_tell_28 k_b0_1 i_1 ?_
    refine s_VV (pc := 29) mX8_saysNumber (ci := 8) (a := b0) (As := [.int (gi y_3 b0_1 0)]) dX8_tell_29 lk_X8_410 in_X8_saysNumber mo_X8_saysNumber ⟨by decide, rfl⟩ ⟨by decide, by decide⟩ (Nat.le_of_ble_eq_true rfl) k_b0 (mSV_mono K0 (fun y_5 K0 => ?_))
    refine r_aload_n (pc := 32) dX8_tell_32 rfl ?_
    refine r_bipush (pc := 33) (v := 59) dX8_tell_33 (by decide) ?_
    refine s_VV (pc := 35) mX8_says (ci := 8) (a := b0) (As := [.int 59]) dX8_tell_35 lk_X8_401 in_X8_says mo_X8_says ⟨by decide, rfl⟩ ⟨by decide, by decide⟩ (Nat.le_of_ble_eq_true rfl) k_b0 (mSV_mono K0 (fun y_6 K0 => ?_))
    refine r_iconst (pc := 38) (v := 0) dX8_tell_38 (by decide) ?_
    refine r_istore_n (pc := 39) dX8_tell_39 (by decide) ?_
    exact r_le (L' := [some (.ref b0), some (.int 0)]) ⟨rfl, ⟨rfl, trivial⟩⟩ K0
  · have q := (b2i_z _).mp q
    have K0 := K0.2 q
    refine r_bipush (pc := 7) (v := (-2)) dX8_tell_7 (by decide) ?_
    exact s_iret rfl dX8_tell_9 K0
set_option maxHeartbeats 2000000 in
theorem v_X8_tell_40 {K : Sh} {x : Cn} {Q : Int32 → Cn → Prop} {b0 : Nat} {l1 : Int32} {b0_1 : Nat} {n_b0_1 : Nat} (k_b0 : kk K b0 = some (8, 0)) (g_b0_1 : gr x b0 1 = some b0_1) (k_b0_1 : kk K b0_1 = some (20, n_b0_1)) (K0 : (24 ≤ l1 → (GI mX8_tell 152 [some (.ref b0), some (.int 0)] [] K x Q)) ∧ (¬ 24 ≤ l1 → (vp_in (6 + (2 * l1)) n_b0_1 ∧ ((¬ (gi x b0_1 ((6 + (2 * l1)) : Int32).toNatClampNeg) = 4 → (mSV mX8_saysText [.ref b0, .ref (mSB + 28)] K x (fun y_4 => mSV mX8_saysNumber [.ref b0, .int l1] K y_4 (fun y_5 => mSV mX8_says [.ref b0, .int 32] K y_5 (fun y_6 => gr y_6 b0 1 = some b0_1 ∧ (mSV mX8_saysNumber [.ref b0, .int (gi y_6 b0_1 ((6 + (2 * l1)) : Int32).toNatClampNeg)] K y_6 (fun y_8 => mSV mX8_saysText [.ref b0, .ref (mSB + 29)] K y_8 (fun y_9 => gr y_9 b0 1 = some b0_1 ∧ (vp_in ((6 + (2 * l1)) + 1) n_b0_1 ∧ (mSV mX8_saysNumber [.ref b0, .int (gi y_9 b0_1 (((6 + (2 * l1)) + 1) : Int32).toNatClampNeg)] K y_9 (fun y_12 => mSV mX8_says [.ref b0, .int 59] K y_12 (fun y_13 => GI mX8_tell 40 [some (.ref b0), some (.int (l1 + 1))] [] K y_13 Q)))))))))))) ∧ ((gi x b0_1 ((6 + (2 * l1)) : Int32).toNatClampNeg) = 4 → (vp_in ((6 + (2 * l1)) + 1) n_b0_1 ∧ ((¬ (gi x b0_1 (((6 + (2 * l1)) + 1) : Int32).toNatClampNeg) = 4 → (mSV mX8_saysText [.ref b0, .ref (mSB + 28)] K x (fun y_16 => mSV mX8_saysNumber [.ref b0, .int l1] K y_16 (fun y_17 => mSV mX8_says [.ref b0, .int 32] K y_17 (fun y_18 => gr y_18 b0 1 = some b0_1 ∧ (mSV mX8_saysNumber [.ref b0, .int (gi y_18 b0_1 ((6 + (2 * l1)) : Int32).toNatClampNeg)] K y_18 (fun y_20 => mSV mX8_saysText [.ref b0, .ref (mSB + 29)] K y_20 (fun y_21 => gr y_21 b0 1 = some b0_1 ∧ (mSV mX8_saysNumber [.ref b0, .int (gi y_21 b0_1 (((6 + (2 * l1)) + 1) : Int32).toNatClampNeg)] K y_21 (fun y_23 => mSV mX8_says [.ref b0, .int 59] K y_23 (fun y_24 => GI mX8_tell 40 [some (.ref b0), some (.int (l1 + 1))] [] K y_24 Q))))))))))) ∧ ((gi x b0_1 (((6 + (2 * l1)) + 1) : Int32).toNatClampNeg) = 4 → (GI mX8_tell 40 [some (.ref b0), some (.int (l1 + 1))] [] K x Q))))))))) : GI mX8_tell 40 [some (.ref b0), some (.int l1)] [] K x Q := by
  show mGM mX8_tell 40 [some (.ref b0), some (.int l1)] [] (hp K x) (PI K Q)
  refine r_iload_n (pc := 40) dX8_tell_40 rfl ?_
  refine r_bipush (pc := 41) (v := 24) dX8_tell_41 (by decide) ?_
  refine r_icmp_ge (pc := 43) (tgt := 150) dX8_tell_43 (by decide) (fun q => ?_) (fun q => ?_)
  · have K0 := K0.1 q
    refine r_iconst (pc := 150) (v := 0) dX8_tell_150 (by decide) ?_
    refine r_istore_n (pc := 151) dX8_tell_151 (by decide) ?_
    exact r_le (L' := [some (.ref b0), some (.int 0)]) ⟨rfl, ⟨rfl, trivial⟩⟩ K0
  · have K0 := K0.2 q
    refine r_aload_n (pc := 46) dX8_tell_46 rfl ?_
    refine s_getR (pc := 47) dX8_tell_47 fl_X8_9 rfl k_b0 g_b0_1 ?_
    refine r_bipush (pc := 50) (v := 6) dX8_tell_50 (by decide) ?_
    refine r_iconst (pc := 52) (v := 2) dX8_tell_52 (by decide) ?_
    refine r_iload_n (pc := 53) dX8_tell_53 rfl ?_
    refine r_imul (pc := 54) dX8_tell_54 ?_
    refine r_iadd (pc := 55) dX8_tell_55 ?_
    obtain ⟨i_2, K0⟩ := K0
    refine s_iald (pc := 56) dX8_tell_56 k_b0_1 i_2 ?_
    refine r_iconst (pc := 57) (v := 4) dX8_tell_57 (by decide) ?_
    refine r_icmp_ne (pc := 58) (tgt := 81) dX8_tell_58 (by decide) (fun q => ?_) (fun q => ?_)
    · have K0 := K0.1 q
      refine r_aload_n (pc := 81) dX8_tell_81 rfl ?_
      refine r_ldcwS (pc := 82) (j := 28) dX8_tell_82 rfl ?_
      refine s_VV (pc := 85) mX8_saysText (ci := 8) (a := b0) (As := [.ref (mSB + 28)]) dX8_tell_85 lk_X8_404 in_X8_saysText mo_X8_saysText ⟨by decide, rfl⟩ ⟨by decide, by decide⟩ (Nat.le_of_ble_eq_true rfl) k_b0 (mSV_mono K0 (fun y_4 K0 => ?_))
      refine r_aload_n (pc := 88) dX8_tell_88 rfl ?_
      refine r_iload_n (pc := 89) dX8_tell_89 rfl ?_
      refine s_VV (pc := 90) mX8_saysNumber (ci := 8) (a := b0) (As := [.int l1]) dX8_tell_90 lk_X8_410 in_X8_saysNumber mo_X8_saysNumber ⟨by decide, rfl⟩ ⟨by decide, by decide⟩ (Nat.le_of_ble_eq_true rfl) k_b0 (mSV_mono K0 (fun y_5 K0 => ?_))
      refine r_aload_n (pc := 93) dX8_tell_93 rfl ?_
      refine r_bipush (pc := 94) (v := 32) dX8_tell_94 (by decide) ?_
      refine s_VV (pc := 96) mX8_says (ci := 8) (a := b0) (As := [.int 32]) dX8_tell_96 lk_X8_401 in_X8_says mo_X8_says ⟨by decide, rfl⟩ ⟨by decide, by decide⟩ (Nat.le_of_ble_eq_true rfl) k_b0 (mSV_mono K0 (fun y_6 K0 => ?_))
      refine r_aload_n (pc := 99) dX8_tell_99 rfl ?_
      refine r_aload_n (pc := 100) dX8_tell_100 rfl ?_
      obtain ⟨g_7, K0⟩ := K0
      refine s_getR (pc := 101) dX8_tell_101 fl_X8_9 rfl k_b0 g_7 ?_
      refine r_bipush (pc := 104) (v := 6) dX8_tell_104 (by decide) ?_
      refine r_iconst (pc := 106) (v := 2) dX8_tell_106 (by decide) ?_
      refine r_iload_n (pc := 107) dX8_tell_107 rfl ?_
      refine r_imul (pc := 108) dX8_tell_108 ?_
      refine r_iadd (pc := 109) dX8_tell_109 ?_
      refine s_iald (pc := 110) dX8_tell_110 k_b0_1 i_2 ?_
      refine s_VV (pc := 111) mX8_saysNumber (ci := 8) (a := b0) (As := [.int (gi y_6 b0_1 ((6 + (2 * l1)) : Int32).toNatClampNeg)]) dX8_tell_111 lk_X8_410 in_X8_saysNumber mo_X8_saysNumber ⟨by decide, rfl⟩ ⟨by decide, by decide⟩ (Nat.le_of_ble_eq_true rfl) k_b0 (mSV_mono K0 (fun y_8 K0 => ?_))
      refine r_aload_n (pc := 114) dX8_tell_114 rfl ?_
      refine r_ldcwS (pc := 115) (j := 29) dX8_tell_115 rfl ?_
      refine s_VV (pc := 118) mX8_saysText (ci := 8) (a := b0) (As := [.ref (mSB + 29)]) dX8_tell_118 lk_X8_404 in_X8_saysText mo_X8_saysText ⟨by decide, rfl⟩ ⟨by decide, by decide⟩ (Nat.le_of_ble_eq_true rfl) k_b0 (mSV_mono K0 (fun y_9 K0 => ?_))
      refine r_aload_n (pc := 121) dX8_tell_121 rfl ?_
      refine r_aload_n (pc := 122) dX8_tell_122 rfl ?_
      obtain ⟨g_10, K0⟩ := K0
      refine s_getR (pc := 123) dX8_tell_123 fl_X8_9 rfl k_b0 g_10 ?_
      refine r_bipush (pc := 126) (v := 6) dX8_tell_126 (by decide) ?_
      refine r_iconst (pc := 128) (v := 2) dX8_tell_128 (by decide) ?_
      refine r_iload_n (pc := 129) dX8_tell_129 rfl ?_
      refine r_imul (pc := 130) dX8_tell_130 ?_
      refine r_iadd (pc := 131) dX8_tell_131 ?_
      refine r_iconst (pc := 132) (v := 1) dX8_tell_132 (by decide) ?_
      refine r_iadd (pc := 133) dX8_tell_133 ?_
      obtain ⟨i_11, K0⟩ := K0
      refine s_iald (pc := 134) dX8_tell_134 k_b0_1 i_11 ?_
      refine s_VV (pc := 135) mX8_saysNumber (ci := 8) (a := b0) (As := [.int (gi y_9 b0_1 (((6 + (2 * l1)) + 1) : Int32).toNatClampNeg)]) dX8_tell_135 lk_X8_410 in_X8_saysNumber mo_X8_saysNumber ⟨by decide, rfl⟩ ⟨by decide, by decide⟩ (Nat.le_of_ble_eq_true rfl) k_b0 (mSV_mono K0 (fun y_12 K0 => ?_))
      refine r_aload_n (pc := 138) dX8_tell_138 rfl ?_
      refine r_bipush (pc := 139) (v := 59) dX8_tell_139 (by decide) ?_
      refine s_VV (pc := 141) mX8_says (ci := 8) (a := b0) (As := [.int 59]) dX8_tell_141 lk_X8_401 in_X8_says mo_X8_says ⟨by decide, rfl⟩ ⟨by decide, by decide⟩ (Nat.le_of_ble_eq_true rfl) k_b0 (mSV_mono K0 (fun y_13 K0 => ?_))
      refine r_iinc (pc := 144) (v := l1 + 1) dX8_tell_144 rfl rfl (by decide) ?_
      refine r_goto (pc := 147) (L := [some (.ref b0), some (.int (l1 + 1))]) (tgt := 40) dX8_tell_147 (by decide) ?_
      exact r_le (L' := [some (.ref b0), some (.int (l1 + 1))]) ⟨rfl, ⟨rfl, trivial⟩⟩ K0
    · have K0 := K0.2 q
      refine r_aload_n (pc := 61) dX8_tell_61 rfl ?_
      refine s_getR (pc := 62) dX8_tell_62 fl_X8_9 rfl k_b0 g_b0_1 ?_
      refine r_bipush (pc := 65) (v := 6) dX8_tell_65 (by decide) ?_
      refine r_iconst (pc := 67) (v := 2) dX8_tell_67 (by decide) ?_
      refine r_iload_n (pc := 68) dX8_tell_68 rfl ?_
      refine r_imul (pc := 69) dX8_tell_69 ?_
      refine r_iadd (pc := 70) dX8_tell_70 ?_
      refine r_iconst (pc := 71) (v := 1) dX8_tell_71 (by decide) ?_
      refine r_iadd (pc := 72) dX8_tell_72 ?_
      obtain ⟨i_14, K0⟩ := K0
      refine s_iald (pc := 73) dX8_tell_73 k_b0_1 i_14 ?_
      refine r_iconst (pc := 74) (v := 4) dX8_tell_74 (by decide) ?_
      refine r_icmp_ne (pc := 75) (tgt := 81) dX8_tell_75 (by decide) (fun q => ?_) (fun q => ?_)
      · have K0 := K0.1 q
        refine r_aload_n (pc := 81) dX8_tell_81 rfl ?_
        refine r_ldcwS (pc := 82) (j := 28) dX8_tell_82 rfl ?_
        refine s_VV (pc := 85) mX8_saysText (ci := 8) (a := b0) (As := [.ref (mSB + 28)]) dX8_tell_85 lk_X8_404 in_X8_saysText mo_X8_saysText ⟨by decide, rfl⟩ ⟨by decide, by decide⟩ (Nat.le_of_ble_eq_true rfl) k_b0 (mSV_mono K0 (fun y_16 K0 => ?_))
        refine r_aload_n (pc := 88) dX8_tell_88 rfl ?_
        refine r_iload_n (pc := 89) dX8_tell_89 rfl ?_
        refine s_VV (pc := 90) mX8_saysNumber (ci := 8) (a := b0) (As := [.int l1]) dX8_tell_90 lk_X8_410 in_X8_saysNumber mo_X8_saysNumber ⟨by decide, rfl⟩ ⟨by decide, by decide⟩ (Nat.le_of_ble_eq_true rfl) k_b0 (mSV_mono K0 (fun y_17 K0 => ?_))
        refine r_aload_n (pc := 93) dX8_tell_93 rfl ?_
        refine r_bipush (pc := 94) (v := 32) dX8_tell_94 (by decide) ?_
        refine s_VV (pc := 96) mX8_says (ci := 8) (a := b0) (As := [.int 32]) dX8_tell_96 lk_X8_401 in_X8_says mo_X8_says ⟨by decide, rfl⟩ ⟨by decide, by decide⟩ (Nat.le_of_ble_eq_true rfl) k_b0 (mSV_mono K0 (fun y_18 K0 => ?_))
        refine r_aload_n (pc := 99) dX8_tell_99 rfl ?_
        refine r_aload_n (pc := 100) dX8_tell_100 rfl ?_
        obtain ⟨g_19, K0⟩ := K0
        refine s_getR (pc := 101) dX8_tell_101 fl_X8_9 rfl k_b0 g_19 ?_
        refine r_bipush (pc := 104) (v := 6) dX8_tell_104 (by decide) ?_
        refine r_iconst (pc := 106) (v := 2) dX8_tell_106 (by decide) ?_
        refine r_iload_n (pc := 107) dX8_tell_107 rfl ?_
        refine r_imul (pc := 108) dX8_tell_108 ?_
        refine r_iadd (pc := 109) dX8_tell_109 ?_
        refine s_iald (pc := 110) dX8_tell_110 k_b0_1 i_2 ?_
        refine s_VV (pc := 111) mX8_saysNumber (ci := 8) (a := b0) (As := [.int (gi y_18 b0_1 ((6 + (2 * l1)) : Int32).toNatClampNeg)]) dX8_tell_111 lk_X8_410 in_X8_saysNumber mo_X8_saysNumber ⟨by decide, rfl⟩ ⟨by decide, by decide⟩ (Nat.le_of_ble_eq_true rfl) k_b0 (mSV_mono K0 (fun y_20 K0 => ?_))
        refine r_aload_n (pc := 114) dX8_tell_114 rfl ?_
        refine r_ldcwS (pc := 115) (j := 29) dX8_tell_115 rfl ?_
        refine s_VV (pc := 118) mX8_saysText (ci := 8) (a := b0) (As := [.ref (mSB + 29)]) dX8_tell_118 lk_X8_404 in_X8_saysText mo_X8_saysText ⟨by decide, rfl⟩ ⟨by decide, by decide⟩ (Nat.le_of_ble_eq_true rfl) k_b0 (mSV_mono K0 (fun y_21 K0 => ?_))
        refine r_aload_n (pc := 121) dX8_tell_121 rfl ?_
        refine r_aload_n (pc := 122) dX8_tell_122 rfl ?_
        obtain ⟨g_22, K0⟩ := K0
        refine s_getR (pc := 123) dX8_tell_123 fl_X8_9 rfl k_b0 g_22 ?_
        refine r_bipush (pc := 126) (v := 6) dX8_tell_126 (by decide) ?_
        refine r_iconst (pc := 128) (v := 2) dX8_tell_128 (by decide) ?_
        refine r_iload_n (pc := 129) dX8_tell_129 rfl ?_
        refine r_imul (pc := 130) dX8_tell_130 ?_
        refine r_iadd (pc := 131) dX8_tell_131 ?_
        refine r_iconst (pc := 132) (v := 1) dX8_tell_132 (by decide) ?_
        refine r_iadd (pc := 133) dX8_tell_133 ?_
        refine s_iald (pc := 134) dX8_tell_134 k_b0_1 i_14 ?_
        refine s_VV (pc := 135) mX8_saysNumber (ci := 8) (a := b0) (As := [.int (gi y_21 b0_1 (((6 + (2 * l1)) + 1) : Int32).toNatClampNeg)]) dX8_tell_135 lk_X8_410 in_X8_saysNumber mo_X8_saysNumber ⟨by decide, rfl⟩ ⟨by decide, by decide⟩ (Nat.le_of_ble_eq_true rfl) k_b0 (mSV_mono K0 (fun y_23 K0 => ?_))
        refine r_aload_n (pc := 138) dX8_tell_138 rfl ?_
        refine r_bipush (pc := 139) (v := 59) dX8_tell_139 (by decide) ?_
        refine s_VV (pc := 141) mX8_says (ci := 8) (a := b0) (As := [.int 59]) dX8_tell_141 lk_X8_401 in_X8_says mo_X8_says ⟨by decide, rfl⟩ ⟨by decide, by decide⟩ (Nat.le_of_ble_eq_true rfl) k_b0 (mSV_mono K0 (fun y_24 K0 => ?_))
        refine r_iinc (pc := 144) (v := l1 + 1) dX8_tell_144 rfl rfl (by decide) ?_
        refine r_goto (pc := 147) (L := [some (.ref b0), some (.int (l1 + 1))]) (tgt := 40) dX8_tell_147 (by decide) ?_
        exact r_le (L' := [some (.ref b0), some (.int (l1 + 1))]) ⟨rfl, ⟨rfl, trivial⟩⟩ K0
      · have K0 := K0.2 q
        refine r_goto (pc := 78) (tgt := 144) dX8_tell_78 (by decide) ?_
        refine r_iinc (pc := 144) (v := l1 + 1) dX8_tell_144 rfl rfl (by decide) ?_
        refine r_goto (pc := 147) (L := [some (.ref b0), some (.int (l1 + 1))]) (tgt := 40) dX8_tell_147 (by decide) ?_
        exact r_le (L' := [some (.ref b0), some (.int (l1 + 1))]) ⟨rfl, ⟨rfl, trivial⟩⟩ K0
set_option maxHeartbeats 2000000 in
theorem v_X8_tell_152 {K : Sh} {x : Cn} {Q : Int32 → Cn → Prop} {b0 : Nat} {l1 : Int32} {b0_1 : Nat} {n_b0_1 : Nat} (k_b0 : kk K b0 = some (8, 0)) (g_b0_1 : gr x b0 1 = some b0_1) (k_b0_1 : kk K b0_1 = some (20, n_b0_1)) (K0 : vp_in 1 n_b0_1 ∧ (((gi x b0_1 1) ≤ l1 → (GI mX8_tell 188 [some (.ref b0), some (.int 0)] [] K x Q)) ∧ (¬ (gi x b0_1 1) ≤ l1 → (mSV mX8_saysText [.ref b0, .ref (mSB + 30)] K x (fun y_3 => mSV mX8_saysName [.ref b0, .int l1] K y_3 (fun y_4 => mSV mX8_says [.ref b0, .int 59] K y_4 (fun y_5 => GI mX8_tell 152 [some (.ref b0), some (.int (l1 + 1))] [] K y_5 Q))))))) : GI mX8_tell 152 [some (.ref b0), some (.int l1)] [] K x Q := by
  show mGM mX8_tell 152 [some (.ref b0), some (.int l1)] [] (hp K x) (PI K Q)
  refine r_iload_n (pc := 152) dX8_tell_152 rfl ?_
  refine r_aload_n (pc := 153) dX8_tell_153 rfl ?_
  refine s_getR (pc := 154) dX8_tell_154 fl_X8_9 rfl k_b0 g_b0_1 ?_
  refine r_iconst (pc := 157) (v := 1) dX8_tell_157 (by decide) ?_
  obtain ⟨i_1, K0⟩ := K0
  refine s_iald (pc := 158) dX8_tell_158 k_b0_1 i_1 ?_
  refine r_icmp_ge (pc := 159) (tgt := 186) dX8_tell_159 (by decide) (fun q => ?_) (fun q => ?_)
  · have K0 := K0.1 q
    refine r_iconst (pc := 186) (v := 0) dX8_tell_186 (by decide) ?_
    refine r_istore_n (pc := 187) dX8_tell_187 (by decide) ?_
    exact r_le (L' := [some (.ref b0), some (.int 0)]) ⟨rfl, ⟨rfl, trivial⟩⟩ K0
  · have K0 := K0.2 q
    refine r_aload_n (pc := 162) dX8_tell_162 rfl ?_
    refine r_ldcwS (pc := 163) (j := 30) dX8_tell_163 rfl ?_
    refine s_VV (pc := 166) mX8_saysText (ci := 8) (a := b0) (As := [.ref (mSB + 30)]) dX8_tell_166 lk_X8_404 in_X8_saysText mo_X8_saysText ⟨by decide, rfl⟩ ⟨by decide, by decide⟩ (Nat.le_of_ble_eq_true rfl) k_b0 (mSV_mono K0 (fun y_3 K0 => ?_))
    refine r_aload_n (pc := 169) dX8_tell_169 rfl ?_
    refine r_iload_n (pc := 170) dX8_tell_170 rfl ?_
    refine s_VV (pc := 171) mX8_saysName (ci := 8) (a := b0) (As := [.int l1]) dX8_tell_171 lk_X8_407 in_X8_saysName mo_X8_saysName ⟨by decide, rfl⟩ ⟨by decide, by decide⟩ (Nat.le_of_ble_eq_true rfl) k_b0 (mSV_mono K0 (fun y_4 K0 => ?_))
    refine r_aload_n (pc := 174) dX8_tell_174 rfl ?_
    refine r_bipush (pc := 175) (v := 59) dX8_tell_175 (by decide) ?_
    refine s_VV (pc := 177) mX8_says (ci := 8) (a := b0) (As := [.int 59]) dX8_tell_177 lk_X8_401 in_X8_says mo_X8_says ⟨by decide, rfl⟩ ⟨by decide, by decide⟩ (Nat.le_of_ble_eq_true rfl) k_b0 (mSV_mono K0 (fun y_5 K0 => ?_))
    refine r_iinc (pc := 180) (v := l1 + 1) dX8_tell_180 rfl rfl (by decide) ?_
    refine r_goto (pc := 183) (L := [some (.ref b0), some (.int (l1 + 1))]) (tgt := 152) dX8_tell_183 (by decide) ?_
    exact r_le (L' := [some (.ref b0), some (.int (l1 + 1))]) ⟨rfl, ⟨rfl, trivial⟩⟩ K0
set_option maxHeartbeats 2000000 in
theorem v_X8_tell_188 {K : Sh} {x : Cn} {Q : Int32 → Cn → Prop} {b0 : Nat} {l1 : Int32} {b0_1 : Nat} {n_b0_1 : Nat} (k_b0 : kk K b0 = some (8, 0)) (g_b0_1 : gr x b0 1 = some b0_1) (k_b0_1 : kk K b0_1 = some (20, n_b0_1)) (K0 : vp_in 2 n_b0_1 ∧ (((gi x b0_1 2) ≤ l1 → (GI mX8_tell 242 [some (.ref b0), some (.int 0)] [] K x Q)) ∧ (¬ (gi x b0_1 2) ≤ l1 → (mSV mX8_saysCommon [.ref b0, .ref (mSB + 31), .int (62 + (12 * l1)), .int 5] K x (fun y_3 => ∃ c_4 : Nat, gr y_3 b0 3 = some c_4 ∧ (∃ n_7 : Nat, kk K c_4 = some (20, n_7) ∧ ((l24 l1 n_7) ∧ ((¬ (so (gi y_3 c_4) (l1 : Int32).toNatClampNeg 4 = 1) → (mSV mX8_saysText [.ref b0, .ref (mSB + 34)] K y_3 (fun y_10 => GI mX8_tell 188 [some (.ref b0), some (.int (l1 + 1))] [] K y_10 Q))) ∧ ((so (gi y_3 c_4) (l1 : Int32).toNatClampNeg 4 = 1) → (mSV mX8_saysText [.ref b0, .ref (mSB + 33)] K y_3 (fun y_11 => GI mX8_tell 188 [some (.ref b0), some (.int (l1 + 1))] [] K y_11 Q))))))))))) : GI mX8_tell 188 [some (.ref b0), some (.int l1)] [] K x Q := by
  show mGM mX8_tell 188 [some (.ref b0), some (.int l1)] [] (hp K x) (PI K Q)
  refine r_iload_n (pc := 188) dX8_tell_188 rfl ?_
  refine r_aload_n (pc := 189) dX8_tell_189 rfl ?_
  refine s_getR (pc := 190) dX8_tell_190 fl_X8_9 rfl k_b0 g_b0_1 ?_
  refine r_iconst (pc := 193) (v := 2) dX8_tell_193 (by decide) ?_
  obtain ⟨i_1, K0⟩ := K0
  refine s_iald (pc := 194) dX8_tell_194 k_b0_1 i_1 ?_
  refine r_icmp_ge (pc := 195) (tgt := 240) dX8_tell_195 (by decide) (fun q => ?_) (fun q => ?_)
  · have K0 := K0.1 q
    refine r_iconst (pc := 240) (v := 0) dX8_tell_240 (by decide) ?_
    refine r_istore_n (pc := 241) dX8_tell_241 (by decide) ?_
    exact r_le (L' := [some (.ref b0), some (.int 0)]) ⟨rfl, ⟨rfl, trivial⟩⟩ K0
  · have K0 := K0.2 q
    refine r_aload_n (pc := 198) dX8_tell_198 rfl ?_
    refine r_ldcwS (pc := 199) (j := 31) dX8_tell_199 rfl ?_
    refine r_bipush (pc := 202) (v := 62) dX8_tell_202 (by decide) ?_
    refine r_bipush (pc := 204) (v := 12) dX8_tell_204 (by decide) ?_
    refine r_iload_n (pc := 206) dX8_tell_206 rfl ?_
    refine r_imul (pc := 207) dX8_tell_207 ?_
    refine r_iadd (pc := 208) dX8_tell_208 ?_
    refine r_iconst (pc := 209) (v := 5) dX8_tell_209 (by decide) ?_
    refine s_VV (pc := 210) mX8_saysCommon (ci := 8) (a := b0) (As := [.ref (mSB + 31), .int (62 + (12 * l1)), .int 5]) dX8_tell_210 lk_X8_425 in_X8_saysCommon mo_X8_saysCommon ⟨by decide, rfl⟩ ⟨by decide, by decide⟩ (Nat.le_of_ble_eq_true rfl) k_b0 (mSV_mono K0 (fun y_3 K0 => ?_))
    refine r_aload_n (pc := 213) dX8_tell_213 rfl ?_
    refine r_aload_n (pc := 214) dX8_tell_214 rfl ?_
    refine r_iload_n (pc := 215) dX8_tell_215 rfl ?_
    obtain ⟨c_4, g_5, K0⟩ := K0
    obtain ⟨n_7, e_6, K0⟩ := K0
    obtain ⟨p_8, K0⟩ := K0
    refine s_VI (pc := 216) mX8_isNew (ci := 8) (a := b0) (As := [.int l1]) dX8_tell_216 lk_X8_382 in_X8_isNew mo_X8_isNew ⟨by decide, rfl⟩ ⟨by decide, by decide⟩ (Nat.le_of_ble_eq_true rfl) k_b0 (sr_X8_isNew k_b0 g_5 e_6 p_8 ?_)
    refine r_if_eq (pc := 219) (tgt := 228) dX8_tell_219 (by decide) (fun q => ?_) (fun q => ?_)
    · have q := (b2i_z _).mp q
      have K0 := K0.1 q
      refine r_ldcwS (pc := 228) (j := 34) dX8_tell_228 rfl ?_
      refine s_VV (pc := 231) mX8_saysText (ci := 8) (a := b0) (As := [.ref (mSB + 34)]) dX8_tell_231 lk_X8_404 in_X8_saysText mo_X8_saysText ⟨by decide, rfl⟩ ⟨by decide, by decide⟩ (Nat.le_of_ble_eq_true rfl) k_b0 (mSV_mono K0 (fun y_10 K0 => ?_))
      refine r_iinc (pc := 234) (v := l1 + 1) dX8_tell_234 rfl rfl (by decide) ?_
      refine r_goto (pc := 237) (L := [some (.ref b0), some (.int (l1 + 1))]) (tgt := 188) dX8_tell_237 (by decide) ?_
      exact r_le (L' := [some (.ref b0), some (.int (l1 + 1))]) ⟨rfl, ⟨rfl, trivial⟩⟩ K0
    · have q := b2i_nz q
      have K0 := K0.2 q
      refine r_ldcwS (pc := 222) (j := 33) dX8_tell_222 rfl ?_
      refine r_goto (pc := 225) (tgt := 231) dX8_tell_225 (by decide) ?_
      refine s_VV (pc := 231) mX8_saysText (ci := 8) (a := b0) (As := [.ref (mSB + 33)]) dX8_tell_231 lk_X8_404 in_X8_saysText mo_X8_saysText ⟨by decide, rfl⟩ ⟨by decide, by decide⟩ (Nat.le_of_ble_eq_true rfl) k_b0 (mSV_mono K0 (fun y_11 K0 => ?_))
      refine r_iinc (pc := 234) (v := l1 + 1) dX8_tell_234 rfl rfl (by decide) ?_
      refine r_goto (pc := 237) (L := [some (.ref b0), some (.int (l1 + 1))]) (tgt := 188) dX8_tell_237 (by decide) ?_
      exact r_le (L' := [some (.ref b0), some (.int (l1 + 1))]) ⟨rfl, ⟨rfl, trivial⟩⟩ K0
set_option maxHeartbeats 2000000 in
theorem v_X8_tell_242 {K : Sh} {x : Cn} {Q : Int32 → Cn → Prop} {b0 : Nat} {l1 : Int32} {b0_1 : Nat} {n_b0_1 : Nat} (k_b0 : kk K b0 = some (8, 0)) (g_b0_1 : gr x b0 1 = some b0_1) (k_b0_1 : kk K b0_1 = some (20, n_b0_1)) (K0 : vp_in 3 n_b0_1 ∧ (((gi x b0_1 3) ≤ l1 → (Q (gi x b0 22) x)) ∧ (¬ (gi x b0_1 3) ≤ l1 → (mSV mX8_saysCommon [.ref b0, .ref (mSB + 35), .int (350 + (7 * l1)), .int 4] K x (fun y_3 => ∃ c_4 : Nat, gr y_3 b0 3 = some c_4 ∧ (∃ n_7 : Nat, kk K c_4 = some (20, n_7) ∧ ((l24 l1 n_7) ∧ (((ao (gi y_3 c_4) (l1 : Int32).toNatClampNeg 6) ≤ 0 → (((ao (gi y_3 c_4) (l1 : Int32).toNatClampNeg 6) ≤ 0 → (mSV mX8_says [.ref b0, .int 59] K y_3 (fun y_11 => GI mX8_tell 242 [some (.ref b0), some (.int (l1 + 1))] [] K y_11 Q))) ∧ (¬ (ao (gi y_3 c_4) (l1 : Int32).toNatClampNeg 6) ≤ 0 → (mSV mX8_saysNumber [.ref b0, .int (ao (gi y_3 c_4) (l1 : Int32).toNatClampNeg 6)] K y_3 (fun y_12 => mSV mX8_says [.ref b0, .int 59] K y_12 (fun y_13 => GI mX8_tell 242 [some (.ref b0), some (.int (l1 + 1))] [] K y_13 Q)))))) ∧ (¬ (ao (gi y_3 c_4) (l1 : Int32).toNatClampNeg 6) ≤ 0 → (mSV mX8_saysText [.ref b0, .ref (mSB + 36)] K y_3 (fun y_14 => ∃ c_15 : Nat, gr y_14 b0 3 = some c_15 ∧ (∃ n_18 : Nat, kk K c_15 = some (20, n_18) ∧ ((l24 l1 n_18) ∧ (((ao (gi y_14 c_15) (l1 : Int32).toNatClampNeg 6) ≤ 0 → (mSV mX8_says [.ref b0, .int 59] K y_14 (fun y_21 => GI mX8_tell 242 [some (.ref b0), some (.int (l1 + 1))] [] K y_21 Q))) ∧ (¬ (ao (gi y_14 c_15) (l1 : Int32).toNatClampNeg 6) ≤ 0 → (mSV mX8_saysNumber [.ref b0, .int (ao (gi y_14 c_15) (l1 : Int32).toNatClampNeg 6)] K y_14 (fun y_22 => mSV mX8_says [.ref b0, .int 59] K y_22 (fun y_23 => GI mX8_tell 242 [some (.ref b0), some (.int (l1 + 1))] [] K y_23 Q)))))))))))))))))) : GI mX8_tell 242 [some (.ref b0), some (.int l1)] [] K x Q := by
  show mGM mX8_tell 242 [some (.ref b0), some (.int l1)] [] (hp K x) (PI K Q)
  refine r_iload_n (pc := 242) dX8_tell_242 rfl ?_
  refine r_aload_n (pc := 243) dX8_tell_243 rfl ?_
  refine s_getR (pc := 244) dX8_tell_244 fl_X8_9 rfl k_b0 g_b0_1 ?_
  refine r_iconst (pc := 247) (v := 3) dX8_tell_247 (by decide) ?_
  obtain ⟨i_1, K0⟩ := K0
  refine s_iald (pc := 248) dX8_tell_248 k_b0_1 i_1 ?_
  refine r_icmp_ge (pc := 249) (tgt := 318) dX8_tell_249 (by decide) (fun q => ?_) (fun q => ?_)
  · have K0 := K0.1 q
    refine r_aload_n (pc := 318) dX8_tell_318 rfl ?_
    refine s_getI (pc := 319) dX8_tell_319 fl_X8_398 rfl k_b0 ?_
    exact s_iret rfl dX8_tell_322 K0
  · have K0 := K0.2 q
    refine r_aload_n (pc := 252) dX8_tell_252 rfl ?_
    refine r_ldcwS (pc := 253) (j := 35) dX8_tell_253 rfl ?_
    refine r_sipush (pc := 256) (v := 350) dX8_tell_256 (by decide) ?_
    refine r_bipush (pc := 259) (v := 7) dX8_tell_259 (by decide) ?_
    refine r_iload_n (pc := 261) dX8_tell_261 rfl ?_
    refine r_imul (pc := 262) dX8_tell_262 ?_
    refine r_iadd (pc := 263) dX8_tell_263 ?_
    refine r_iconst (pc := 264) (v := 4) dX8_tell_264 (by decide) ?_
    refine s_VV (pc := 265) mX8_saysCommon (ci := 8) (a := b0) (As := [.ref (mSB + 35), .int (350 + (7 * l1)), .int 4]) dX8_tell_265 lk_X8_425 in_X8_saysCommon mo_X8_saysCommon ⟨by decide, rfl⟩ ⟨by decide, by decide⟩ (Nat.le_of_ble_eq_true rfl) k_b0 (mSV_mono K0 (fun y_3 K0 => ?_))
    refine r_aload_n (pc := 268) dX8_tell_268 rfl ?_
    refine r_iload_n (pc := 269) dX8_tell_269 rfl ?_
    refine r_bipush (pc := 270) (v := 6) dX8_tell_270 (by decide) ?_
    obtain ⟨c_4, g_5, K0⟩ := K0
    obtain ⟨n_7, e_6, K0⟩ := K0
    obtain ⟨p_8, K0⟩ := K0
    refine s_VI (pc := 272) mX8_ask0 (ci := 8) (a := b0) (As := [.int l1, .int 6]) dX8_tell_272 lk_X8_284 in_X8_ask0 mo_X8_ask0 ⟨by decide, rfl⟩ ⟨by decide, by decide⟩ (Nat.le_of_ble_eq_true rfl) k_b0 (sr_X8_ask0 k_b0 g_5 e_6 p_8 ⟨by decide, by decide⟩ ?_)
    refine r_if_le (pc := 275) (tgt := 285) dX8_tell_275 (by decide) (fun q => ?_) (fun q => ?_)
    · have K0 := K0.1 q
      refine r_aload_n (pc := 285) dX8_tell_285 rfl ?_
      refine r_iload_n (pc := 286) dX8_tell_286 rfl ?_
      refine r_bipush (pc := 287) (v := 6) dX8_tell_287 (by decide) ?_
      refine s_VI (pc := 289) mX8_ask0 (ci := 8) (a := b0) (As := [.int l1, .int 6]) dX8_tell_289 lk_X8_284 in_X8_ask0 mo_X8_ask0 ⟨by decide, rfl⟩ ⟨by decide, by decide⟩ (Nat.le_of_ble_eq_true rfl) k_b0 (sr_X8_ask0 k_b0 g_5 e_6 p_8 ⟨by decide, by decide⟩ ?_)
      refine r_if_le (pc := 292) (tgt := 306) dX8_tell_292 (by decide) (fun q => ?_) (fun q => ?_)
      · have K0 := K0.1 q
        refine r_aload_n (pc := 306) dX8_tell_306 rfl ?_
        refine r_bipush (pc := 307) (v := 59) dX8_tell_307 (by decide) ?_
        refine s_VV (pc := 309) mX8_says (ci := 8) (a := b0) (As := [.int 59]) dX8_tell_309 lk_X8_401 in_X8_says mo_X8_says ⟨by decide, rfl⟩ ⟨by decide, by decide⟩ (Nat.le_of_ble_eq_true rfl) k_b0 (mSV_mono K0 (fun y_11 K0 => ?_))
        refine r_iinc (pc := 312) (v := l1 + 1) dX8_tell_312 rfl rfl (by decide) ?_
        refine r_goto (pc := 315) (L := [some (.ref b0), some (.int (l1 + 1))]) (tgt := 242) dX8_tell_315 (by decide) ?_
        exact r_le (L' := [some (.ref b0), some (.int (l1 + 1))]) ⟨rfl, ⟨rfl, trivial⟩⟩ K0
      · have K0 := K0.2 q
        refine r_aload_n (pc := 295) dX8_tell_295 rfl ?_
        refine r_aload_n (pc := 296) dX8_tell_296 rfl ?_
        refine r_iload_n (pc := 297) dX8_tell_297 rfl ?_
        refine r_bipush (pc := 298) (v := 6) dX8_tell_298 (by decide) ?_
        refine s_VI (pc := 300) mX8_ask0 (ci := 8) (a := b0) (As := [.int l1, .int 6]) dX8_tell_300 lk_X8_284 in_X8_ask0 mo_X8_ask0 ⟨by decide, rfl⟩ ⟨by decide, by decide⟩ (Nat.le_of_ble_eq_true rfl) k_b0 (sr_X8_ask0 k_b0 g_5 e_6 p_8 ⟨by decide, by decide⟩ ?_)
        refine s_VV (pc := 303) mX8_saysNumber (ci := 8) (a := b0) (As := [.int (ao (gi y_3 c_4) (l1 : Int32).toNatClampNeg 6)]) dX8_tell_303 lk_X8_410 in_X8_saysNumber mo_X8_saysNumber ⟨by decide, rfl⟩ ⟨by decide, by decide⟩ (Nat.le_of_ble_eq_true rfl) k_b0 (mSV_mono K0 (fun y_12 K0 => ?_))
        refine r_aload_n (pc := 306) dX8_tell_306 rfl ?_
        refine r_bipush (pc := 307) (v := 59) dX8_tell_307 (by decide) ?_
        refine s_VV (pc := 309) mX8_says (ci := 8) (a := b0) (As := [.int 59]) dX8_tell_309 lk_X8_401 in_X8_says mo_X8_says ⟨by decide, rfl⟩ ⟨by decide, by decide⟩ (Nat.le_of_ble_eq_true rfl) k_b0 (mSV_mono K0 (fun y_13 K0 => ?_))
        refine r_iinc (pc := 312) (v := l1 + 1) dX8_tell_312 rfl rfl (by decide) ?_
        refine r_goto (pc := 315) (L := [some (.ref b0), some (.int (l1 + 1))]) (tgt := 242) dX8_tell_315 (by decide) ?_
        exact r_le (L' := [some (.ref b0), some (.int (l1 + 1))]) ⟨rfl, ⟨rfl, trivial⟩⟩ K0
    · have K0 := K0.2 q
      refine r_aload_n (pc := 278) dX8_tell_278 rfl ?_
      refine r_ldcwS (pc := 279) (j := 36) dX8_tell_279 rfl ?_
      refine s_VV (pc := 282) mX8_saysText (ci := 8) (a := b0) (As := [.ref (mSB + 36)]) dX8_tell_282 lk_X8_404 in_X8_saysText mo_X8_saysText ⟨by decide, rfl⟩ ⟨by decide, by decide⟩ (Nat.le_of_ble_eq_true rfl) k_b0 (mSV_mono K0 (fun y_14 K0 => ?_))
      refine r_aload_n (pc := 285) dX8_tell_285 rfl ?_
      refine r_iload_n (pc := 286) dX8_tell_286 rfl ?_
      refine r_bipush (pc := 287) (v := 6) dX8_tell_287 (by decide) ?_
      obtain ⟨c_15, g_16, K0⟩ := K0
      obtain ⟨n_18, e_17, K0⟩ := K0
      obtain ⟨p_19, K0⟩ := K0
      refine s_VI (pc := 289) mX8_ask0 (ci := 8) (a := b0) (As := [.int l1, .int 6]) dX8_tell_289 lk_X8_284 in_X8_ask0 mo_X8_ask0 ⟨by decide, rfl⟩ ⟨by decide, by decide⟩ (Nat.le_of_ble_eq_true rfl) k_b0 (sr_X8_ask0 k_b0 g_16 e_17 p_19 ⟨by decide, by decide⟩ ?_)
      refine r_if_le (pc := 292) (tgt := 306) dX8_tell_292 (by decide) (fun q => ?_) (fun q => ?_)
      · have K0 := K0.1 q
        refine r_aload_n (pc := 306) dX8_tell_306 rfl ?_
        refine r_bipush (pc := 307) (v := 59) dX8_tell_307 (by decide) ?_
        refine s_VV (pc := 309) mX8_says (ci := 8) (a := b0) (As := [.int 59]) dX8_tell_309 lk_X8_401 in_X8_says mo_X8_says ⟨by decide, rfl⟩ ⟨by decide, by decide⟩ (Nat.le_of_ble_eq_true rfl) k_b0 (mSV_mono K0 (fun y_21 K0 => ?_))
        refine r_iinc (pc := 312) (v := l1 + 1) dX8_tell_312 rfl rfl (by decide) ?_
        refine r_goto (pc := 315) (L := [some (.ref b0), some (.int (l1 + 1))]) (tgt := 242) dX8_tell_315 (by decide) ?_
        exact r_le (L' := [some (.ref b0), some (.int (l1 + 1))]) ⟨rfl, ⟨rfl, trivial⟩⟩ K0
      · have K0 := K0.2 q
        refine r_aload_n (pc := 295) dX8_tell_295 rfl ?_
        refine r_aload_n (pc := 296) dX8_tell_296 rfl ?_
        refine r_iload_n (pc := 297) dX8_tell_297 rfl ?_
        refine r_bipush (pc := 298) (v := 6) dX8_tell_298 (by decide) ?_
        refine s_VI (pc := 300) mX8_ask0 (ci := 8) (a := b0) (As := [.int l1, .int 6]) dX8_tell_300 lk_X8_284 in_X8_ask0 mo_X8_ask0 ⟨by decide, rfl⟩ ⟨by decide, by decide⟩ (Nat.le_of_ble_eq_true rfl) k_b0 (sr_X8_ask0 k_b0 g_16 e_17 p_19 ⟨by decide, by decide⟩ ?_)
        refine s_VV (pc := 303) mX8_saysNumber (ci := 8) (a := b0) (As := [.int (ao (gi y_14 c_15) (l1 : Int32).toNatClampNeg 6)]) dX8_tell_303 lk_X8_410 in_X8_saysNumber mo_X8_saysNumber ⟨by decide, rfl⟩ ⟨by decide, by decide⟩ (Nat.le_of_ble_eq_true rfl) k_b0 (mSV_mono K0 (fun y_22 K0 => ?_))
        refine r_aload_n (pc := 306) dX8_tell_306 rfl ?_
        refine r_bipush (pc := 307) (v := 59) dX8_tell_307 (by decide) ?_
        refine s_VV (pc := 309) mX8_says (ci := 8) (a := b0) (As := [.int 59]) dX8_tell_309 lk_X8_401 in_X8_says mo_X8_says ⟨by decide, rfl⟩ ⟨by decide, by decide⟩ (Nat.le_of_ble_eq_true rfl) k_b0 (mSV_mono K0 (fun y_23 K0 => ?_))
        refine r_iinc (pc := 312) (v := l1 + 1) dX8_tell_312 rfl rfl (by decide) ?_
        refine r_goto (pc := 315) (L := [some (.ref b0), some (.int (l1 + 1))]) (tgt := 242) dX8_tell_315 (by decide) ?_
        exact r_le (L' := [some (.ref b0), some (.int (l1 + 1))]) ⟨rfl, ⟨rfl, trivial⟩⟩ K0
section
theorem sp_X8_tell_1 {x : Cn} {Q : Int32 → Cn → Prop} {T : TT} {W C S A N : Nat} (M : MRf x 718) (hT : gi x 718 = T) (F : WF T W C S A N) (hW : 0 < W) (hnm : ∀ c, c < C → ∃ v, (0 < v ∧ v < 387420489) ∧ T (54 + c) = nI v) (k : ∀ y, OFr x y → OR y (tl4 T W C S A) 2346 → Q (nI (tl4 T W C S A).length) y) : mSI mX8_tell [.ref 717] KW x Q := by
  have hW30 : W ≤ 30 := F.2.2.1
  have hC : C ≤ 8 := F.2.2.2.2.1
  have hS : S ≤ 24 := F.2.2.2.2.2.2.1
  have hA : A ≤ 24 := F.2.2.2.2.2.2.2.2.1
  have Mg : ∀ y : Cn, OFr x y → MRf y 718 := fun y fy => M.keep fy.1
  have tg : ∀ y : Cn, OFr x y → gi y 718 = T := fun y fy => by rw [← hT]; funext i; exact fy.2 718 i (by decide) (by omega)
  have l4 : ∀ y, OFr x y → OR y (tl3 T W C S) 1482 → GI mX8_tell 242 [some (.ref 717), some (.int 0)] [] KW y Q := by
    intro y fy wy
    refine lp_acc (fun a l => l ++ askS T a) (fun a l => ∀ z, OFr x z → OR z l (1482 + 36 * a) → GI mX8_tell 242 [some (.ref 717), some (.int (nI a))] [] KW z Q) A (tl3 T W C S) ?_ (fun a l ha n1 => ?_) y fy wy
    · intro z fz wz
      refine v_X8_tell_242 km (Mg z fz).1 km1 ⟨v0 (k := 3) (by decide) rfl rfl, fun _ => ?_, fun u => absurd (by rw [tg z fz, F.2.2.2.2.2.2.2.1]; exact Int32.le_refl _) u⟩
      rw [wz.1]
      exact k z fz (wz.le (by omega))
    · intro z fz wz
      obtain ⟨⟨cr, hc, ec⟩, ⟨d, hd, ed⟩, ⟨h, hh, eh⟩, -, ⟨f, t, f1, f2, f3, f4⟩, ⟨b, hb9, eb⟩⟩ := F.2.2.2.2.2.2.2.2.2.2.2.2.2 a ha
      obtain ⟨v, ⟨hv0, hv1⟩, hv2⟩ := hnm cr hc
      have ea : askS T a = askP v d h (ao T a 3) f t b := by
        unfold askS nmv
        rw [ec, ed, eh, f3, f4, eb, nI_clamp (by omega), nI_clamp (by omega), nI_clamp (by omega), nI_clamp (by omega), nI_clamp (by omega), nI_clamp (by omega), hv2, nI_clamp (by omega)]
      have ib : (350 : Int32) + 7 * nI a = nI (350 + 7 * a) := by
        have := ix2 a (v := 0) 0 rfl
        rw [Int32.add_zero] at this
        exact this
      refine v_X8_tell_242 km (Mg z fz).1 km1 ⟨v0 (k := 3) (by decide) rfl rfl, fun u => absurd (by rw [tg z fz, F.2.2.2.2.2.2.2.1] at u; exact u) (nI_ge ha (by omega)), fun _ => ?_⟩
      rw [ib, nI_1]
      refine sp_X8_saysCommon (j := 35) (m := 4) (f0 := 4) (way := ao T a 3) T (tg z fz) (by omega) (by decide) ec ed eh rfl f3 f4 (by omega) hv1 hv2 hd (by omega) (by omega) (by omega) (by decide) (by decide) (Mg z fz) wz (by omega) (fun y1 g1 w1 => ⟨718, (Mg y1 (fz.tr g1)).2.2.1, 518, km1, l24_nI (by omega) rfl, ?_⟩)
      rw [tg y1 (fz.tr g1), nI_clamp (by omega), eb, show nI b ≤ 0 ↔ b ≤ 0 from nI_leI (b := 0) (by omega) (by decide)]
      have fin : ∀ (y2 : Cn) B2, OFr x y2 → OR y2 (l ++ comP (wd 35) v d h (ao T a 3) f t ++ (if b = 0 then [] else wd 36 ++ numL b)) B2 → B2 + 1 ≤ 1482 + 36 * (a + 1) → mSV mX8_says [.ref 717, .int 59] KW y2 (fun y_11 => GI mX8_tell 242 [some (.ref 717), some (.int (nI (a + 1)))] [] KW y_11 Q) := by
        intro y2 B2 G2 w2 hB2
        refine sp_X8_says (n := 59) (by decide) (Mg y2 G2) w2 (by omega) (fun y3 g3 w3 => n1 _ rfl y3 (G2.tr g3) ?_)
        have e : l ++ comP (wd 35) v d h (ao T a 3) f t ++ (if b = 0 then [] else wd 36 ++ numL b) ++ [59] = l ++ askS T a := by
          rw [ea]
          simp only [askP, List.append_assoc]
        rw [e] at w3
        exact w3.le (by omega)
      have G1 := fz.tr g1
      refine ⟨fun u => ⟨fun _ => fin y1 _ G1 (by rw [if_pos (by omega), List.append_nil]; exact w1) (by omega), fun u2 => absurd u u2⟩, fun u => sp_X8_saysText (j := 36) (m := 4) (mSq_at (by decide)) (by decide) (Mg y1 G1) w1 (by omega) (fun y2 g2 w2 => ⟨718, (Mg y2 (G1.tr g2)).2.2.1, 518, km1, l24_nI (by omega) rfl, ?_⟩)⟩
      rw [tg y2 (G1.tr g2), eb, show nI b ≤ 0 ↔ b ≤ 0 from nI_leI (b := 0) (by omega) (by decide)]
      refine ⟨fun u2 => absurd u2 u, fun _ => sp_X8_saysNumber (n := b) (by omega) (Mg y2 (G1.tr g2)) w2 (by omega) (fun y3 g3 w3 => fin y3 (1482 + 36 * a + 23 + 4 + 4 + 2) (G1.tr (g2.tr g3)) ?_ (by omega))⟩
      rw [if_neg (by omega), ← List.append_assoc]
      exact w3
  have l3 : ∀ y, OFr x y → OR y (tl2 T W C) 594 → GI mX8_tell 188 [some (.ref 717), some (.int 0)] [] KW y Q := by
    intro y fy wy
    refine lp_acc (fun s l => l ++ serT T s) (fun s l => ∀ z, OFr x z → OR z l (594 + 37 * s) → GI mX8_tell 188 [some (.ref 717), some (.int (nI s))] [] KW z Q) S (tl2 T W C) ?_ (fun s l hs n1 => ?_) y fy wy
    · intro z fz wz
      exact v_X8_tell_188 km (Mg z fz).1 km1 ⟨v0 (k := 2) (by decide) rfl rfl, fun _ => l4 z fz (wz.le (by omega)), fun u => absurd (by rw [tg z fz, F.2.2.2.2.2.1]; exact Int32.le_refl _) u⟩
    · intro z fz wz
      obtain ⟨⟨cr, hc, ec⟩, ⟨d, hd, ed⟩, ⟨h, hh, eh⟩, -, o4, ⟨f, t, f1, f2, f3, f4⟩, -⟩ := F.2.2.2.2.2.2.2.2.2.2.2.2.1 s hs
      obtain ⟨v, ⟨hv0, hv1⟩, hv2⟩ := hnm cr hc
      have es : serT T s = serP v d h (so T s 3) f t (so T s 4) := by
        unfold serT nmv
        rw [ec, ed, eh, f3, f4, nI_clamp (by omega), nI_clamp (by omega), nI_clamp (by omega), nI_clamp (by omega), nI_clamp (by omega), hv2, nI_clamp (by omega)]
      have ib : (62 : Int32) + 12 * nI s = nI (62 + 12 * s) := by
        have := ix1 s (v := 0) 0 rfl
        rw [Int32.add_zero] at this
        exact this
      refine v_X8_tell_188 km (Mg z fz).1 km1 ⟨v0 (k := 2) (by decide) rfl rfl, fun u => absurd (by rw [tg z fz, F.2.2.2.2.2.1] at u; exact u) (nI_ge hs (by omega)), fun _ => ?_⟩
      rw [ib, nI_1]
      refine sp_X8_saysCommon (j := 31) (m := 7) (f0 := 5) (way := so T s 3) T (tg z fz) (by omega) (by decide) ec ed eh rfl f3 f4 (by omega) hv1 hv2 hd (by omega) (by omega) (by omega) (by decide) (by decide) (Mg z fz) wz (by omega) (fun y1 g1 w1 => ⟨718, (Mg y1 (fz.tr g1)).2.2.1, 518, km1, l24_nI (by omega) rfl, ?_⟩)
      have G1 := fz.tr g1
      rw [tg y1 G1, nI_clamp (by omega)]
      refine ⟨fun u => sp_X8_saysText (j := 34) (m := 1) (mSq_at (by decide)) (by decide) (Mg y1 G1) w1 (by omega) (fun y2 g2 w2 => n1 _ rfl y2 (G1.tr g2) ?_), fun u => sp_X8_saysText (j := 33) (m := 5) (mSq_at (by decide)) (by decide) (Mg y1 G1) w1 (by omega) (fun y2 g2 w2 => n1 _ rfl y2 (G1.tr g2) ?_)⟩
      · rw [es]
        unfold serP
        rw [if_neg u, ← List.append_assoc]
        exact w2.le (by omega)
      · rw [es]
        unfold serP
        rw [if_pos u, ← List.append_assoc]
        exact w2.le (by omega)
  have l2 : ∀ y, OFr x y → OR y (tl1 T W) 466 → GI mX8_tell 152 [some (.ref 717), some (.int 0)] [] KW y Q := by
    intro y fy wy
    refine lp_acc (fun c l => l ++ carP (nmv T c)) (fun cr l => ∀ z, OFr x z → OR z l (466 + 16 * cr) → GI mX8_tell 152 [some (.ref 717), some (.int (nI cr))] [] KW z Q) C (tl1 T W) ?_ (fun cr l hc n1 => ?_) y fy wy
    · intro z fz wz
      exact v_X8_tell_152 km (Mg z fz).1 km1 ⟨v0 (k := 1) (by decide) rfl rfl, fun _ => l3 z fz (wz.le (by omega)), fun u => absurd (by rw [tg z fz, F.2.2.2.1]; exact Int32.le_refl _) u⟩
    · intro z fz wz
      obtain ⟨v, ⟨hv0, hv1⟩, hv2⟩ := hnm cr hc
      have ec : nmv T cr = v := by
        unfold nmv
        rw [hv2, nI_clamp (by omega)]
      refine v_X8_tell_152 km (Mg z fz).1 km1 ⟨v0 (k := 1) (by decide) rfl rfl, fun u => absurd (by rw [tg z fz, F.2.2.2.1] at u; exact u) (nI_ge hc (by omega)), fun _ => ?_⟩
      rw [nI_1]
      refine sp_X8_saysText (j := 30) (m := 8) (mSq_at (by decide)) (by decide) (Mg z fz) wz (by omega) (fun y1 g1 w1 => sp_X8_saysName (v := v) (by omega) hv1 (by rw [tg y1 (fz.tr g1)]; exact hv2) (Mg y1 (fz.tr g1)) w1 (by omega) (fun y2 g2 w2 => sp_X8_says (n := 59) (by decide) (Mg y2 (fz.tr (g1.tr g2))) w2 (by omega) (fun y3 g3 w3 => n1 _ rfl y3 (fz.tr (g1.tr (g2.tr g3))) ?_)))
      have e : l ++ wq (mSq 30) ++ nmL v ++ [59] = l ++ carP (nmv T cr) := by
        rw [ec]
        simp only [carP, List.append_assoc]
      rw [e] at w3
      exact w3.le (by omega)
  have l1 : ∀ y, OFr x y → OR y (tl0 W) 10 → GI mX8_tell 40 [some (.ref 717), some (.int 0)] [] KW y Q := by
    intro y fy wy
    refine lp_acc (fun h l => l ++ limT T h) (fun h l => ∀ z, OFr x z → OR z l (10 + 19 * h) → GI mX8_tell 40 [some (.ref 717), some (.int (nI h))] [] KW z Q) 24 (tl0 W) ?_ (fun h l hh n1 => ?_) y fy wy
    · intro z fz wz
      exact v_X8_tell_40 km (Mg z fz).1 km1 ⟨fun _ => l2 z fz wz, fun u => absurd (Int32.le_refl _) u⟩
    · intro z fz wz
      obtain ⟨a, b, ha, hb', ea, eb⟩ := F.2.2.2.2.2.2.2.2.2.2.2.1 h hh
      have put : ¬ (T (6 + 2 * h) = 4 ∧ T (7 + 2 * h) = 4) → mSV mX8_saysText [.ref 717, .ref (mSB + 28)] KW z (fun y_4 => mSV mX8_saysNumber [.ref 717, .int (nI h)] KW y_4 (fun y_5 => mSV mX8_says [.ref 717, .int 32] KW y_5 (fun y_6 => gr y_6 717 1 = some 718 ∧ mSV mX8_saysNumber [.ref 717, .int (gi y_6 718 (6 + 2 * h))] KW y_6 (fun y_8 => mSV mX8_saysText [.ref 717, .ref (mSB + 29)] KW y_8 (fun y_9 => gr y_9 717 1 = some 718 ∧ mSV mX8_saysNumber [.ref 717, .int (gi y_9 718 (7 + 2 * h))] KW y_9 (fun y_12 => mSV mX8_says [.ref 717, .int 59] KW y_12 (fun y_13 => GI mX8_tell 40 [some (.ref 717), some (.int (nI (h + 1)))] [] KW y_13 Q))))))) := by
        intro hne
        have el : limT T h = limP h a b := by
          unfold limT
          rw [if_neg hne, ea, eb, nI_clamp (by omega), nI_clamp (by omega)]
        refine sp_X8_saysText (j := 28) (m := 6) (mSq_at (by decide)) (by decide) (Mg z fz) wz (by omega) (fun y1 g1 w1 => sp_X8_saysNumber (n := h) (by omega) (Mg y1 (fz.tr g1)) w1 (by omega) (fun y2 g2 w2 => sp_X8_says (n := 32) (by decide) (Mg y2 (fz.tr (g1.tr g2))) w2 (by omega) (fun y3 g3 w3 => ⟨(Mg y3 (fz.tr (g1.tr (g2.tr g3)))).1, ?_⟩)))
        have G3 := fz.tr (g1.tr (g2.tr g3))
        rw [tg y3 G3, ea]
        refine sp_X8_saysNumber (n := a) (by omega) (Mg y3 G3) w3 (by omega) (fun y4 g4 w4 => sp_X8_saysText (j := 29) (m := 4) (mSq_at (by decide)) (by decide) (Mg y4 (G3.tr g4)) w4 (by omega) (fun y5 g5 w5 => ⟨(Mg y5 (G3.tr (g4.tr g5))).1, ?_⟩))
        have G5 := G3.tr (g4.tr g5)
        rw [tg y5 G5, eb]
        refine sp_X8_saysNumber (n := b) (by omega) (Mg y5 G5) w5 (by omega) (fun y6 g6 w6 => sp_X8_says (n := 59) (by decide) (Mg y6 (G5.tr g6)) w6 (by omega) (fun y7 g7 w7 => n1 _ rfl y7 (G5.tr (g6.tr g7)) ?_))
        have e : l ++ wq (mSq 28) ++ numL h ++ [32] ++ numL a ++ wq (mSq 29) ++ numL b ++ [59] = l ++ limT T h := by
          rw [el]
          simp only [limP, List.append_assoc]
        rw [e] at w7
        exact w7.le (by omega)
      refine v_X8_tell_40 km (Mg z fz).1 km1 ⟨fun u => absurd u (nI_ge (b := 24) hh (by decide)), fun _ => ?_⟩
      rw [ixh1, ixh, nI_clamp (show 6 + 2 * h < 2 ^ 31 by omega), nI_clamp (show 7 + 2 * h < 2 ^ 31 by omega), nI_1, tg z fz]
      have i7 : vp_in (nI (7 + 2 * h)) 518 := vp_in_nI (by omega) (by decide)
      refine ⟨vp_in_nI (by omega) (by decide), fun u => mSV_mono (put (fun g => u g.1)) (fun y1 q1 => mSV_mono q1 (fun y2 q2 => mSV_mono q2 (fun y3 q3 => ⟨q3.1, mSV_mono q3.2 (fun y4 q4 => mSV_mono q4 (fun y5 q5 => ⟨q5.1, i7, q5.2⟩))⟩))), fun u => ⟨i7, fun u2 => put (fun g => u2 g.2), fun u2 => ?_⟩⟩
      have el : limT T h = [] := by
        unfold limT
        rw [if_pos ⟨u, u2⟩]
      exact n1 l (by rw [el, List.append_nil]) z fz (wz.le (by omega))
  have w0 : OR (ui x 717 22 0) [] 0 := ⟨by rw [gi_ui, if_pos ⟨rfl, rfl⟩]; rfl, fun i hi => absurd hi (Nat.not_lt_zero _), Nat.le_refl _⟩
  have f0 : OFr x (ui x 717 22 0) := ⟨rfl, fun a j a1 a2 => by rw [gi_ui, if_neg a2]⟩
  have gW : gi x 718 0 = nI W := by rw [hT]; exact F.1
  refine v_X8_tell_0 km M.1 km1 ⟨v0 (k := 0) (by decide) rfl rfl, fun _ => sp_X8_saysText (j := 27) (m := 6) (mSq_at (by decide)) (by decide) (Mg _ f0) w0 (by omega) (fun y1 f1 w1 => ⟨(Mg _ (f0.tr f1)).1, ?_⟩), fun u => absurd (by rw [gW]; exact nI_lt (a := 0) hW (by omega)) u⟩
  rw [tg _ (f0.tr f1), F.1]
  refine sp_X8_saysNumber (by omega) (Mg _ (f0.tr f1)) w1 (by omega) (fun y2 f2 w2 => sp_X8_says (n := 59) (by decide) (Mg _ (f0.tr (f1.tr f2))) w2 (by omega) (fun y3 f3 w3 => l1 y3 (f0.tr (f1.tr (f2.tr f3))) ?_))
  have e : [] ++ wq (mSq 27) ++ numL W ++ [59] = tl0 W := by
    simp only [tl0, List.nil_append]
  rw [e] at w3
  exact w3.le (by omega)
end
set_option maxHeartbeats 2000000 in
theorem v_X7_tell_0 {K : Sh} {x : Cn} {Q : Int32 → Cn → Prop} {b0 : Nat} {b0_2 : Nat} {b0_10 : Nat} {b0_3 : Nat} (k_b0 : kk K b0 = some (7, 0)) (g_b0_2 : gr x b0 2 = some b0_2) (k_b0_2 : kk K b0_2 = some (4, 0)) (g_b0_10 : gr x b0 10 = some b0_10) (g_b0_3 : gr x b0 3 = some b0_3) (k_b0_10 : kk K b0_10 = some (6, 0)) (K0 : ((0 < gi x b0_2 0) → (mSI mX6_write [.ref b0_10, .ref b0_2, .ref b0_3] K x (fun r_3 y_2 => Q r_3 y_2))) ∧ (¬ (0 < gi x b0_2 0) → (Q (-2) x))) : mSI mX7_tell [.ref b0] K x Q := by
  refine s_I (by decide) (by simp [Value.category]) (Nat.le_of_ble_eq_true rfl) ?_
  show mGM mX7_tell 0 [some (.ref b0)] [] (hp K x) (PI K Q)
  refine r_aload_n (pc := 0) dX7_tell_0 rfl ?_
  refine s_VI (pc := 1) mX7_hasText (ci := 7) (a := b0) (As := []) dX7_tell_1 lk_X7_121 in_X7_hasText mo_X7_hasText ⟨by decide, rfl⟩ ⟨by decide, by decide⟩ (Nat.le_of_ble_eq_true rfl) k_b0 (sp_X7_hasText k_b0 g_b0_2 k_b0_2 ?_)
  refine r_if_ne (pc := 4) (tgt := 10) dX7_tell_4 (by decide) (fun q => ?_) (fun q => ?_)
  · have q := b2i_nz q
    have K0 := K0.1 q
    refine r_aload_n (pc := 10) dX7_tell_10 rfl ?_
    refine s_getR (pc := 11) dX7_tell_11 fl_X7_61 rfl k_b0 g_b0_10 ?_
    refine r_aload_n (pc := 14) dX7_tell_14 rfl ?_
    refine s_getR (pc := 15) dX7_tell_15 fl_X7_20 rfl k_b0 g_b0_2 ?_
    refine r_aload_n (pc := 18) dX7_tell_18 rfl ?_
    refine s_getR (pc := 19) dX7_tell_19 fl_X7_27 rfl k_b0 g_b0_3 ?_
    refine s_VI (pc := 22) mX6_write (ci := 6) (a := b0_10) (As := [.ref b0_2, .ref b0_3]) dX7_tell_22 lk_X7_379 in_X6_write mo_X6_write ⟨by decide, rfl⟩ ⟨by decide, by decide⟩ (Nat.le_of_ble_eq_true rfl) k_b0_10 (mSI_mono K0 (fun r_3 y_2 K0 => ?_))
    exact s_iret rfl dX7_tell_25 K0
  · have q := (b2i_z _).mp q
    have K0 := K0.2 q
    refine r_bipush (pc := 7) (v := (-2)) dX7_tell_7 (by decide) ?_
    exact s_iret rfl dX7_tell_9 K0
theorem eq_tell : Both mX7_tell mX8_tell [] := by
  intro x R
  obtain ⟨W, C, S, A, N, E, nm, hs⟩ := R.sea
  have hn := E.nums
  have hW30 : W ≤ 30 := hn.2.2.2.2.1
  have t0 := (Rel.t2 E).1
  have c1 := R.1
  refine v_X7_tell_0 k0 R.1.2.1 (ks0 E.1) R.1.c10 R.1.2.2.1 k175 ?_
  rw [hn.1]
  refine ⟨fun z => sp_X6_write R.1 E nm (fun y fy wy => ?_), fun z => v_X8_tell_0 km R.2.1.1 km1 ⟨v0 (k := 0) (by decide) rfl rfl, fun u => absurd (by rw [t0] at u; exact u) z, fun _ => ⟨rfl, R⟩⟩⟩
  have hW : 0 < W := (nI_ltI (a := 0) (b := W) (by decide) (by omega)).mp z
  have My : MRf y 718 := R.2.1.keep fy.1
  have e718 : gi y 718 = gi x 718 := funext (fun i => fy.2 718 i (by decide) (by omega))
  refine sp_X8_tell_1 My e718 E.2.2.2 hW (fun c hc => by obtain ⟨v, h1, h2, -⟩ := nm.2 c hc; exact ⟨v, h1, h2⟩) (fun u fu wu => ⟨rfl, ?_⟩)
  have eq : ∀ a j, a ≠ 176 → ¬ (a = 175 ∧ j = 1) → a ≠ 725 → ¬ (a = 717 ∧ j = 22) → gi u a j = gi x a j := fun a j a1 a2 a3 a4 => (fu.2 a j a3 a4).trans (fy.2 a j a1 a2)
  have er : u.2 = x.2 := fu.1.trans fy.1
  have e8 : gi u 718 = gi x 718 := funext (fun i => eq 718 i (by decide) (by omega) (by decide) (by omega))
  refine ⟨R.1.keep er, R.2.1.keep er, ⟨?_, ?_⟩, R.2.2.2.1.keep (eq 0 1 (by decide) (by omega) (by decide) (by omega)) (eq 717 5 (by decide) (by omega) (by decide) (by omega)) (fun i => eq 1 i (by decide) (by omega) (by decide) (by omega)) (fun i => eq 720 i (by decide) (by omega) (by decide) (by omega)), ⟨(tl4 (gi x 718) W C S A).length, ?_, ?_, wu.1, fun i hi => ?_⟩, W, C, S, A, N, ?_, ?_, ?_⟩
  · trivial
  · trivial
  · have := wy.2.2; omega
  · rw [fu.2 175 1 (by decide) (by omega)]; exact wy.1
  · rw [fu.2 176 i (by decide) (by omega), (wy.2.1 i hi).1, (wu.2.1 i hi).1]
  · rw [e8]; exact E.keep er (fun a j a1 a2 _ => eq a j (by omega) (by omega) (by omega) (by omega))
  · rw [e8]; exact nm.keep (eq 56 0 (by decide) (by omega) (by decide) (by omega)) (fun i => eq 57 i (by decide) (by omega) (by decide) (by omega)) (fun _ _ => rfl)
  · rw [e8]; exact hs.keep c1 er (eq 717 19 (by decide) (by omega) (by decide) (by omega)) (eq 0 5 (by decide) (by omega) (by decide) (by omega)) (fun a j a1 a2 => eq a j (by omega) (by omega) (by omega) (by omega)) (fun i => eq 724 i (by decide) (by omega) (by decide) (by omega)) (fun _ _ => rfl)
end
/-! 62.feed.lean.txt -/
section
def bv (v : Int32) (s : Nat) : Int32 := ((v >>> (nI s &&& 31)).toInt8.toInt32).toInt8.toInt32
theorem i8_rt (a : Int8) : a.toInt32.toInt8 = a := by simp
theorem sh8 (v : Int32) {s : Nat} (hs : s < 25) : ((v.toUInt32 >>> ((nI s).toUInt32 &&& Int32.toUInt32 31)).toInt32).toInt8 = (v >>> (nI s &&& 31)).toInt8 := by
  apply Int8.toBitVec_inj.mp
  have e1 := sh_amt s (by omega)
  have e2 := sh_amt2 s (by omega)
  rw [Int32.toBitVec_toInt8, Int32.toBitVec_toInt8, UInt32.toBitVec_toInt32, UInt32.toBitVec_shiftRight, Int32.toBitVec_shiftRight, BitVec.sshiftRight_eq', BitVec.ushiftRight_eq', e1, e2]
  apply BitVec.eq_of_getLsbD_eq
  intro i hi
  rw [BitVec.getLsbD_signExtend, BitVec.getLsbD_signExtend, if_pos (by omega), if_pos (by omega), BitVec.getLsbD_ushiftRight, BitVec.getLsbD_sshiftRight, if_pos (by omega), decide_eq_false (show ¬ 32 ≤ i by omega)]
  rfl
theorem bv_is (v : Int32) (s : Nat) : isB (bv v s) := by
  unfold isB bv
  rw [i8_rt]
theorem k1t : kk KW 1 = some (21, 1200) := by decide
theorem km720 : kk KW 720 = some (21, 1200) := by decide
/-- four bytes more -/
def uB (b : TT) (n : Nat) (v : Int32) : TT := fun i => if n ≤ i ∧ i < n + 4 then bv v (24 - 8 * (i - n)) else b i
def CT (y : Cn) (b : TT) (m : Nat) : Prop := gi y 0 1 = nI m ∧ ∀ i, i < m → gi y 1 i = b i
def RT (y : Cn) (b : TT) (m : Nat) : Prop := gi y 717 5 = nI m ∧ ∀ i, i < m → gi y 720 i = b i
def CTf (x y : Cn) : Prop := y.2 = x.2 ∧ ∀ a k, a ≠ 1 → ¬ (a = 0 ∧ k = 1) → gi y a k = gi x a k
def RTf (x y : Cn) : Prop := y.2 = x.2 ∧ ∀ a k, a ≠ 720 → ¬ (a = 717 ∧ k = 5) → gi y a k = gi x a k
theorem CTf.rf (x : Cn) : CTf x x := ⟨rfl, fun _ _ _ _ => rfl⟩
theorem RTf.rf (x : Cn) : RTf x x := ⟨rfl, fun _ _ _ _ => rfl⟩
theorem CTf.tr {x y z : Cn} (h : CTf x y) (g : CTf y z) : CTf x z := ⟨g.1.trans h.1, fun a k a1 a2 => (g.2 a k a1 a2).trans (h.2 a k a1 a2)⟩
theorem RTf.tr {x y z : Cn} (h : RTf x y) (g : RTf y z) : RTf x z := ⟨g.1.trans h.1, fun a k a1 a2 => (g.2 a k a1 a2).trans (h.2 a k a1 a2)⟩
theorem nm8 (s : Nat) (h : 8 ≤ s) : nI s + (-8) = nI (s - 8) := by
  rw [show nI s + (-8) = nI s - nI 8 from (Int32.sub_eq_add_neg _ _).symm]
  exact pk_sub h
set_option maxHeartbeats 2000000 in
theorem v_X7_putOnTape_0 {K : Sh} {x : Cn} {Q : Cn → Prop} {b0 : Nat} {l1 : Int32}   (K0 : GV mX7_putOnTape 3 [some (.ref b0), some (.int l1), some (.int 24)] [] K x Q) : mSV mX7_putOnTape [.ref b0, .int l1] K x Q := by
  refine s_V (by decide) (by simp [Value.category]) (Nat.le_of_ble_eq_true rfl) ?_
  show mGM mX7_putOnTape 0 [some (.ref b0), some (.int l1), none] [] (hp K x) (PV K Q)
  refine r_bipush (pc := 0) (v := 24) dX7_putOnTape_0 (by decide) ?_
  refine r_istore_n (pc := 2) dX7_putOnTape_2 (by decide) ?_
  exact r_le (L' := [some (.ref b0), some (.int l1), some (.int 24)]) ⟨rfl, ⟨rfl, ⟨rfl, trivial⟩⟩⟩ K0
set_option maxHeartbeats 2000000 in
theorem v_X7_putOnTape_3 {K : Sh} {x : Cn} {Q : Cn → Prop} {b0 : Nat} {l1 : Int32} {l2 : Int32} {b0_0 : Nat} {n_b0_0 : Nat} (k_b0 : kk K b0 = some (7, 0)) (g_b0_0 : gr x b0 0 = some b0_0) (k_b0_0 : kk K b0_0 = some (21, n_b0_0)) (K0 : (l2 < 0 → (Q x)) ∧ (¬ l2 < 0 → ((1200 ≤ (gi x b0 1) → (GV mX7_putOnTape 3 [some (.ref b0), some (.int l1), some (.int (l2 + (-8)))] [] K x Q)) ∧ (¬ 1200 ≤ (gi x b0 1) → (vp_in (gi x b0 1) n_b0_0 ∧ (∀ r_4 : Int32, r_4 = gi (ui x b0_0 ((gi x b0 1) : Int32).toNatClampNeg (((((l1 : Int32).toUInt32 >>> ((l2 : Int32).toUInt32 &&& Int32.toUInt32 31)).toInt32 : Int32).toInt8.toInt32 : Int32).toInt8.toInt32)) b0 1 → (GV mX7_putOnTape 3 [some (.ref b0), some (.int l1), some (.int (l2 + (-8)))] [] K (ui (ui x b0_0 ((gi x b0 1) : Int32).toNatClampNeg (((((l1 : Int32).toUInt32 >>> ((l2 : Int32).toUInt32 &&& Int32.toUInt32 31)).toInt32 : Int32).toInt8.toInt32 : Int32).toInt8.toInt32)) b0 1 (r_4 + 1)) Q))))))) : GV mX7_putOnTape 3 [some (.ref b0), some (.int l1), some (.int l2)] [] K x Q := by
  show mGM mX7_putOnTape 3 [some (.ref b0), some (.int l1), some (.int l2)] [] (hp K x) (PV K Q)
  refine r_iload_n (pc := 3) dX7_putOnTape_3 rfl ?_
  refine r_if_lt (pc := 4) (tgt := 46) dX7_putOnTape_4 (by decide) (fun q => ?_) (fun q => ?_)
  · have K0 := K0.1 q
    exact s_ret rfl dX7_putOnTape_46 K0
  · have K0 := K0.2 q
    refine r_aload_n (pc := 7) dX7_putOnTape_7 rfl ?_
    refine s_getI (pc := 8) dX7_putOnTape_8 fl_X7_13 rfl k_b0 ?_
    refine r_sipush (pc := 11) (v := 1200) dX7_putOnTape_11 (by decide) ?_
    refine r_icmp_ge (pc := 14) (tgt := 40) dX7_putOnTape_14 (by decide) (fun q => ?_) (fun q => ?_)
    · have K0 := K0.1 q
      refine r_iinc (pc := 40) (v := l2 + (-8)) dX7_putOnTape_40 rfl rfl (by decide) ?_
      refine r_goto (pc := 43) (L := [some (.ref b0), some (.int l1), some (.int (l2 + (-8)))]) (tgt := 3) dX7_putOnTape_43 (by decide) ?_
      exact r_le (L' := [some (.ref b0), some (.int l1), some (.int (l2 + (-8)))]) ⟨rfl, ⟨rfl, ⟨rfl, trivial⟩⟩⟩ K0
    · have K0 := K0.2 q
      refine r_aload_n (pc := 17) dX7_putOnTape_17 rfl ?_
      refine s_getR (pc := 18) dX7_putOnTape_18 fl_X7_9 rfl k_b0 g_b0_0 ?_
      refine r_aload_n (pc := 21) dX7_putOnTape_21 rfl ?_
      refine s_getI (pc := 22) dX7_putOnTape_22 fl_X7_13 rfl k_b0 ?_
      refine r_iload_n (pc := 25) dX7_putOnTape_25 rfl ?_
      refine r_iload_n (pc := 26) dX7_putOnTape_26 rfl ?_
      refine r_iushr (pc := 27) dX7_putOnTape_27 ?_
      refine r_i2b (pc := 28) dX7_putOnTape_28 ?_
      obtain ⟨i_3, K0⟩ := K0
      refine s_bast (pc := 29) dX7_putOnTape_29 k_b0_0 i_3 ?_
      refine r_aload_n (pc := 30) dX7_putOnTape_30 rfl ?_
      refine r_dup (pc := 31) dX7_putOnTape_31 rfl ?_
      refine s_getI (pc := 32) dX7_putOnTape_32 fl_X7_13 rfl k_b0 ?_
      obtain ⟨r_4, w_5⟩ : ∃ z : Int32, z = gi (ui x b0_0 ((gi x b0 1) : Int32).toNatClampNeg (((((l1 : Int32).toUInt32 >>> ((l2 : Int32).toUInt32 &&& Int32.toUInt32 31)).toInt32 : Int32).toInt8.toInt32 : Int32).toInt8.toInt32)) b0 1 := ⟨_, rfl⟩
      rw [← w_5]
      have K0 := K0 r_4 w_5
      refine r_iconst (pc := 35) (v := 1) dX7_putOnTape_35 (by decide) ?_
      refine r_iadd (pc := 36) dX7_putOnTape_36 ?_
      refine s_putI (pc := 37) dX7_putOnTape_37 fl_X7_13 rfl rfl k_b0 ?_
      refine r_iinc (pc := 40) (v := l2 + (-8)) dX7_putOnTape_40 rfl rfl (by decide) ?_
      refine r_goto (pc := 43) (L := [some (.ref b0), some (.int l1), some (.int (l2 + (-8)))]) (tgt := 3) dX7_putOnTape_43 (by decide) ?_
      exact r_le (L' := [some (.ref b0), some (.int l1), some (.int (l2 + (-8)))]) ⟨rfl, ⟨rfl, ⟨rfl, trivial⟩⟩⟩ K0
section
theorem sp_X7_putOnTape {x : Cn} {Q : Cn → Prop} {b : TT} {m : Nat} {v : Int32} (c : gr x 0 0 = some 1) (t : CT x b m) (hm : m + 4 ≤ 1200) (k : ∀ y, CTf x y → CT y (uB b m v) (m + 4) → Q y) : mSV mX7_putOnTape [.ref 0, .int v] KW x Q := by
  have key : ∀ r j y, j + r = 4 → CTf x y → CT y (fun i => if m ≤ i ∧ i < m + j then bv v (24 - 8 * (i - m)) else b i) (m + j) → GV mX7_putOnTape 3 [some (.ref 0), some (.int v), some (.int (if j = 4 then (-8) else nI (24 - 8 * j)))] [] KW y Q := by
    intro r
    induction r with
    | zero =>
      intro j y hj fy ty
      have : j = 4 := by omega
      subst this
      have cy : gr y 0 0 = some 1 := by unfold gr; rw [fy.1]; exact c
      exact v_X7_putOnTape_3 k0 cy k1t ⟨fun _ => k y fy ty, fun z => absurd (by decide) z⟩
    | succ r ih =>
      intro j y hj fy ty
      have cy : gr y 0 0 = some 1 := by unfold gr; rw [fy.1]; exact c
      rw [if_neg (by omega)]
      refine v_X7_putOnTape_3 k0 cy k1t ⟨fun z => absurd z (nI_pos (by omega)), fun _ => ⟨fun z => absurd (by rw [ty.1] at z; exact z) (nI_ge (b := 1200) (by omega) (by decide)), fun _ => ?_⟩⟩
      rw [ty.1, nI_clamp (by omega), sh8 v (by omega)]
      refine ⟨vp_in_nI (by omega) (by decide), fun q hq => ?_⟩
      have eq : q = nI (m + j) := by rw [hq, gi_ui, if_neg (by omega)]; exact ty.1
      rw [eq, nI_1]
      have e8 : nI (24 - 8 * j) + (-8) = (if j + 1 = 4 then (-8) else nI (24 - 8 * (j + 1))) := by
        by_cases c4 : j + 1 = 4
        · rw [if_pos c4, show j = 3 by omega]; decide
        · rw [if_neg c4, nm8 _ (by omega)]
          congr 1
      rw [e8]
      refine ih (j + 1) _ (by omega) ⟨fy.1, fun a i a1 a2 => by rw [gi_ui, if_neg a2, gi_ui, if_neg (fun u => a1 u.1)]; exact fy.2 a i a1 a2⟩ ⟨by rw [gi_ui, if_pos ⟨rfl, rfl⟩]; rfl, fun i hi => ?_⟩
      rw [gi_ui, if_neg (by omega), gi_ui]
      show _ = if m ≤ i ∧ i < m + (j + 1) then bv v (24 - 8 * (i - m)) else b i
      by_cases c1 : i = m + j
      · rw [if_pos ⟨rfl, c1⟩, if_pos (by omega), c1, show m + j - m = j by omega]
        rfl
      · rw [if_neg (fun u => c1 u.2), ty.2 i (by omega)]
        show (if m ≤ i ∧ i < m + j then bv v (24 - 8 * (i - m)) else b i) = _
        by_cases c2 : m ≤ i ∧ i < m + j
        · rw [if_pos c2, if_pos (by omega)]
        · rw [if_neg c2, if_neg (by omega)]
  have e0 : (fun i => if m ≤ i ∧ i < m + 0 then bv v (24 - 8 * (i - m)) else b i) = b := by
    funext i
    rw [if_neg (by omega)]
  exact v_X7_putOnTape_0 (key 4 0 x (by omega) (CTf.rf x) (by rw [e0]; exact t))
end
set_option maxHeartbeats 2000000 in
theorem v_X8_puts4_0 {K : Sh} {x : Cn} {Q : Cn → Prop} {b0 : Nat} {l1 : Int32}   (K0 : GV mX8_puts4 3 [some (.ref b0), some (.int l1), some (.int 24)] [] K x Q) : mSV mX8_puts4 [.ref b0, .int l1] K x Q := by
  refine s_V (by decide) (by simp [Value.category]) (Nat.le_of_ble_eq_true rfl) ?_
  show mGM mX8_puts4 0 [some (.ref b0), some (.int l1), none] [] (hp K x) (PV K Q)
  refine r_bipush (pc := 0) (v := 24) dX8_puts4_0 (by decide) ?_
  refine r_istore_n (pc := 2) dX8_puts4_2 (by decide) ?_
  exact r_le (L' := [some (.ref b0), some (.int l1), some (.int 24)]) ⟨rfl, ⟨rfl, ⟨rfl, trivial⟩⟩⟩ K0
set_option maxHeartbeats 2000000 in
theorem v_X8_puts4_3 {K : Sh} {x : Cn} {Q : Cn → Prop} {b0 : Nat} {l1 : Int32} {l2 : Int32} {b0_4 : Nat} {n_b0_4 : Nat} (k_b0 : kk K b0 = some (8, 0)) (g_b0_4 : gr x b0 4 = some b0_4) (k_b0_4 : kk K b0_4 = some (21, n_b0_4)) (K0 : (l2 < 0 → (Q x)) ∧ (¬ l2 < 0 → (vp_in (gi x b0 5) n_b0_4 ∧ (∀ r_3 : Int32, r_3 = gi (ui x b0_4 ((gi x b0 5) : Int32).toNatClampNeg ((((l1 >>> (l2 &&& 31)) : Int32).toInt8.toInt32 : Int32).toInt8.toInt32)) b0 5 → (GV mX8_puts4 3 [some (.ref b0), some (.int l1), some (.int (l2 + (-8)))] [] K (ui (ui x b0_4 ((gi x b0 5) : Int32).toNatClampNeg ((((l1 >>> (l2 &&& 31)) : Int32).toInt8.toInt32 : Int32).toInt8.toInt32)) b0 5 (r_3 + 1)) Q))))) : GV mX8_puts4 3 [some (.ref b0), some (.int l1), some (.int l2)] [] K x Q := by
  show mGM mX8_puts4 3 [some (.ref b0), some (.int l1), some (.int l2)] [] (hp K x) (PV K Q)
  refine r_iload_n (pc := 3) dX8_puts4_3 rfl ?_
  refine r_if_lt (pc := 4) (tgt := 36) dX8_puts4_4 (by decide) (fun q => ?_) (fun q => ?_)
  · have K0 := K0.1 q
    exact s_ret rfl dX8_puts4_36 K0
  · have K0 := K0.2 q
    refine r_aload_n (pc := 7) dX8_puts4_7 rfl ?_
    refine s_getR (pc := 8) dX8_puts4_8 fl_X8_19 rfl k_b0 g_b0_4 ?_
    refine r_aload_n (pc := 11) dX8_puts4_11 rfl ?_
    refine s_getI (pc := 12) dX8_puts4_12 fl_X8_94 rfl k_b0 ?_
    refine r_iload_n (pc := 15) dX8_puts4_15 rfl ?_
    refine r_iload_n (pc := 16) dX8_puts4_16 rfl ?_
    refine r_ishr (pc := 17) dX8_puts4_17 ?_
    refine r_i2b (pc := 18) dX8_puts4_18 ?_
    obtain ⟨i_2, K0⟩ := K0
    refine s_bast (pc := 19) dX8_puts4_19 k_b0_4 i_2 ?_
    refine r_aload_n (pc := 20) dX8_puts4_20 rfl ?_
    refine r_dup (pc := 21) dX8_puts4_21 rfl ?_
    refine s_getI (pc := 22) dX8_puts4_22 fl_X8_94 rfl k_b0 ?_
    obtain ⟨r_3, w_4⟩ : ∃ z : Int32, z = gi (ui x b0_4 ((gi x b0 5) : Int32).toNatClampNeg ((((l1 >>> (l2 &&& 31)) : Int32).toInt8.toInt32 : Int32).toInt8.toInt32)) b0 5 := ⟨_, rfl⟩
    rw [← w_4]
    have K0 := K0 r_3 w_4
    refine r_iconst (pc := 25) (v := 1) dX8_puts4_25 (by decide) ?_
    refine r_iadd (pc := 26) dX8_puts4_26 ?_
    refine s_putI (pc := 27) dX8_puts4_27 fl_X8_94 rfl rfl k_b0 ?_
    refine r_iinc (pc := 30) (v := l2 + (-8)) dX8_puts4_30 rfl rfl (by decide) ?_
    refine r_goto (pc := 33) (L := [some (.ref b0), some (.int l1), some (.int (l2 + (-8)))]) (tgt := 3) dX8_puts4_33 (by decide) ?_
    exact r_le (L' := [some (.ref b0), some (.int l1), some (.int (l2 + (-8)))]) ⟨rfl, ⟨rfl, ⟨rfl, trivial⟩⟩⟩ K0
section
theorem sp_X8_puts4 {x : Cn} {Q : Cn → Prop} {b : TT} {m : Nat} {v : Int32} (M : MRf x 718) (t : RT x b m) (hm : m + 4 ≤ 1200) (k : ∀ y, RTf x y → RT y (uB b m v) (m + 4) → Q y) : mSV mX8_puts4 [.ref 717, .int v] KW x Q := by
  have key : ∀ r j y, j + r = 4 → RTf x y → RT y (fun i => if m ≤ i ∧ i < m + j then bv v (24 - 8 * (i - m)) else b i) (m + j) → GV mX8_puts4 3 [some (.ref 717), some (.int v), some (.int (if j = 4 then (-8) else nI (24 - 8 * j)))] [] KW y Q := by
    intro r
    induction r with
    | zero =>
      intro j y hj fy ty
      have : j = 4 := by omega
      subst this
      exact v_X8_puts4_3 km (M.keep fy.1).2.2.2.1 km720 ⟨fun _ => k y fy ty, fun z => absurd (by decide) z⟩
    | succ r ih =>
      intro j y hj fy ty
      rw [if_neg (by omega)]
      refine v_X8_puts4_3 km (M.keep fy.1).2.2.2.1 km720 ⟨fun z => absurd z (nI_pos (by omega)), fun _ => ?_⟩
      rw [ty.1, nI_clamp (by omega)]
      refine ⟨vp_in_nI (by omega) (by decide), fun q hq => ?_⟩
      have eq : q = nI (m + j) := by rw [hq, gi_ui, if_neg (by omega)]; exact ty.1
      rw [eq, nI_1]
      have e8 : nI (24 - 8 * j) + (-8) = (if j + 1 = 4 then (-8) else nI (24 - 8 * (j + 1))) := by
        by_cases c4 : j + 1 = 4
        · rw [if_pos c4, show j = 3 by omega]; decide
        · rw [if_neg c4, nm8 _ (by omega)]
          congr 1
      rw [e8]
      refine ih (j + 1) _ (by omega) ⟨fy.1, fun a i a1 a2 => by rw [gi_ui, if_neg a2, gi_ui, if_neg (fun u => a1 u.1)]; exact fy.2 a i a1 a2⟩ ⟨by rw [gi_ui, if_pos ⟨rfl, rfl⟩]; rfl, fun i hi => ?_⟩
      rw [gi_ui, if_neg (by omega), gi_ui]
      show _ = if m ≤ i ∧ i < m + (j + 1) then bv v (24 - 8 * (i - m)) else b i
      by_cases c1 : i = m + j
      · rw [if_pos ⟨rfl, c1⟩, if_pos (by omega), c1, show m + j - m = j by omega]
        rfl
      · rw [if_neg (fun u => c1 u.2), ty.2 i (by omega)]
        show (if m ≤ i ∧ i < m + j then bv v (24 - 8 * (i - m)) else b i) = _
        by_cases c2 : m ≤ i ∧ i < m + j
        · rw [if_pos c2, if_pos (by omega)]
        · rw [if_neg c2, if_neg (by omega)]
  have e0 : (fun i => if m ≤ i ∧ i < m + 0 then bv v (24 - 8 * (i - m)) else b i) = b := by
    funext i
    rw [if_neg (by omega)]
  exact v_X8_puts4_0 (key 4 0 x (by omega) (RTf.rf x) (by rw [e0]; exact t))
theorem Rel.tape {x u : Cn} (R : Rel x) (er : u.2 = x.2) (eq : ∀ a j, a ≠ 1 → ¬ (a = 0 ∧ j = 1) → a ≠ 720 → ¬ (a = 717 ∧ j = 5) → gi u a j = gi x a j) (t : TPr u) : Rel u := by
  obtain ⟨W, C, S, A, N, E, nm, hs⟩ := R.sea
  have c1 := R.1
  have e8 : gi u 718 = gi x 718 := funext (fun i => eq 718 i (by decide) (by omega) (by decide) (by omega))
  refine ⟨R.1.keep er, R.2.1.keep er, ⟨?_, ?_⟩, t, R.2.2.2.2.1.keep (eq 175 1 (by decide) (by omega) (by decide) (by omega)) (eq 717 22 (by decide) (by omega) (by decide) (by omega)) (fun i => eq 176 i (by decide) (by omega) (by decide) (by omega)) (fun i => eq 725 i (by decide) (by omega) (by decide) (by omega)), W, C, S, A, N, ?_, ?_, ?_⟩
  · trivial
  · trivial
  · rw [e8]; exact E.keep er (fun a j a1 a2 _ => eq a j (by omega) (by omega) (by omega) (by omega))
  · rw [e8]; exact nm.keep (eq 56 0 (by decide) (by omega) (by decide) (by omega)) (fun i => eq 57 i (by decide) (by omega) (by decide) (by omega)) (fun _ _ => rfl)
  · rw [e8]; exact hs.keep c1 er (eq 717 19 (by decide) (by omega) (by decide) (by omega)) (eq 0 5 (by decide) (by omega) (by decide) (by omega)) (fun a j a1 a2 => eq a j (by omega) (by omega) (by omega) (by omega)) (fun i => eq 724 i (by decide) (by omega) (by decide) (by omega)) (fun _ _ => rfl)
theorem uB_is {b : TT} {m : Nat} {v : Int32} (h : ∀ i, i < m → isB (b i)) : ∀ i, i < m + 4 → isB (uB b m v i) := by
  intro i hi
  unfold uB
  by_cases c : m ≤ i ∧ i < m + 4
  · rw [if_pos c]; exact bv_is _ _
  · rw [if_neg c]; exact h i (by omega)
/-- a name's number -/
def bd (b : TT) (fr to i : Nat) : Nat := if fr + i < to then (b (fr + i)).toNatClampNeg - 96 else 0
def pkn (b : TT) (fr to : Nat) : Nat → Nat
  | 0 => 0
  | n + 1 => 27 * pkn b fr to n + bd b fr to n
def pkv (b : TT) (fr to : Nat) : Nat := pkn b fr to 6
def ltr (b : TT) (fr to : Nat) : Prop := ∀ i, fr ≤ i → i < to → ∃ m, 97 ≤ m ∧ m ≤ 122 ∧ b i = nI m
theorem bd_lt {b : TT} {fr to : Nat} (h : ltr b fr to) (i : Nat) : bd b fr to i < 27 := by
  unfold bd
  by_cases c : fr + i < to
  · rw [if_pos c]
    obtain ⟨m, h1, h2, h3⟩ := h (fr + i) (by omega) c
    rw [h3, nI_clamp (by omega)]; omega
  · rw [if_neg c]; decide
theorem dg_6 {w : Nat} (h : w < 387420489) : w = 27 * (27 * (27 * (27 * (27 * dg w 0 + dg w 1) + dg w 2) + dg w 3) + dg w 4) + dg w 5 := by
  have e5 : dg w 5 = w % 27 := by show w / 1 % 27 = _; rw [Nat.div_one]
  have e4 : dg w 4 = w / 27 % 27 := rfl
  have e3 : dg w 3 = w / 27 / 27 % 27 := by rw [Nat.div_div_eq_div_mul]; rfl
  have e2 : dg w 2 = w / 27 / 27 / 27 % 27 := by rw [Nat.div_div_eq_div_mul, Nat.div_div_eq_div_mul]; rfl
  have e1 : dg w 1 = w / 27 / 27 / 27 / 27 % 27 := by rw [Nat.div_div_eq_div_mul, Nat.div_div_eq_div_mul, Nat.div_div_eq_div_mul]; rfl
  have e0 : dg w 0 = w / 27 / 27 / 27 / 27 / 27 := by
    rw [Nat.div_div_eq_div_mul, Nat.div_div_eq_div_mul, Nat.div_div_eq_div_mul, Nat.div_div_eq_div_mul]
    exact Nat.mod_eq_of_lt (Nat.div_lt_of_lt_mul (show w < 14348907 * 27 from h))
  rw [e0, e1, e2, e3, e4, e5, Nat.div_add_mod, Nat.div_add_mod, Nat.div_add_mod, Nat.div_add_mod, Nat.div_add_mod]
theorem pkv_6 (b : TT) (fr to : Nat) : pkv b fr to = 27 * (27 * (27 * (27 * (27 * bd b fr to 0 + bd b fr to 1) + bd b fr to 2) + bd b fr to 3) + bd b fr to 4) + bd b fr to 5 := by
  show 27 * (27 * (27 * (27 * (27 * (27 * 0 + bd b fr to 0) + bd b fr to 1) + bd b fr to 2) + bd b fr to 3) + bd b fr to 4) + bd b fr to 5 = _
  omega
theorem pkv_lt {b : TT} {fr to : Nat} (h : ltr b fr to) : pkv b fr to < 387420489 := by
  have h0 := bd_lt h 0
  have h1 := bd_lt h 1
  have h2 := bd_lt h 2
  have h3 := bd_lt h 3
  have h4 := bd_lt h 4
  have h5 := bd_lt h 5
  rw [pkv_6]
  omega
theorem pkn_lt {b : TT} {fr to : Nat} (h : ltr b fr to) : ∀ n, n ≤ 6 → pkn b fr to n < 27 ^ n := by
  intro n
  induction n with
  | zero => intro _; exact Nat.one_pos
  | succ n ih =>
    intro hn
    have := ih (by omega)
    have := bd_lt h n
    show 27 * pkn b fr to n + bd b fr to n < 27 ^ (n + 1)
    rw [Nat.pow_succ]
    omega
theorem pkv_dg {b : TT} {fr to : Nat} (h : ltr b fr to) : ∀ i, i < 6 → dg (pkv b fr to) i = bd b fr to i := by
  have h0 := bd_lt h 0
  have h1 := bd_lt h 1
  have h2 := bd_lt h 2
  have h3 := bd_lt h 3
  have h4 := bd_lt h 4
  have h5 := bd_lt h 5
  have e := pkv_6 b fr to
  revert e
  generalize pkv b fr to = p
  intro e
  intro i hi
  have : i = 0 ∨ i = 1 ∨ i = 2 ∨ i = 3 ∨ i = 4 ∨ i = 5 := by omega
  rcases this with rfl | rfl | rfl | rfl | rfl | rfl
  · rw [show dg p 0 = p / 14348907 % 27 from rfl]; omega
  · rw [show dg p 1 = p / 531441 % 27 from rfl]; omega
  · rw [show dg p 2 = p / 19683 % 27 from rfl]; omega
  · rw [show dg p 3 = p / 729 % 27 from rfl]; omega
  · rw [show dg p 4 = p / 27 % 27 from rfl]; omega
  · rw [show dg p 5 = p / 1 % 27 from rfl]; omega
theorem dg_inj {v w : Nat} (hv : v < 387420489) (hw : w < 387420489) (h : ∀ i, i < 6 → dg v i = dg w i) : v = w := by
  rw [dg_6 hv, dg_6 hw, h 0 (by decide), h 1 (by decide), h 2 (by decide), h 3 (by decide), h 4 (by decide), h 5 (by decide)]
theorem let_v {m : Nat} (h1 : 97 ≤ m) (h2 : m ≤ 122) : (nI m - 97) + 1 = nI (m - 96) := by
  rw [show nI m - 97 = nI (m - 97) from pk_sub (b := 97) h1, nI_1]
  congr 1
  omega
def stN (T : TT) (v : Nat) : Nat → Unit → Unit ⊕ Int32 := fun c _ => if T (54 + c) = nI v then .inr (nI c) else .inl ()
def fnd (T : TT) (C v : Nat) : Int32 := lpR (stN T v) (fun _ => -1) C 0 ()
end
set_option maxHeartbeats 2000000 in
theorem v_X7_feed_0 {K : Sh} {x : Cn} {Q : Int32 → Cn → Prop} {b0 : Nat} {l1 : Int32} {l2 : Int32} {l3 : Int32} {l4 : Int32} {l5 : Int32}  (k_b0 : kk K b0 = some (7, 0)) (K0 : (((gi x b0 1) + 20) ≤ 1200 → (mSV mX7_putOnTape [.ref b0, .int l1] K x (fun y_2 => mSV mX7_putOnTape [.ref b0, .int l2] K y_2 (fun y_3 => mSV mX7_putOnTape [.ref b0, .int l3] K y_3 (fun y_4 => mSV mX7_putOnTape [.ref b0, .int l4] K y_4 (fun y_5 => mSV mX7_putOnTape [.ref b0, .int l5] K y_5 (fun y_6 => Q (gi y_6 b0 1) y_6))))))) ∧ (¬ ((gi x b0 1) + 20) ≤ 1200 → (Q (-1) x))) : mSI mX7_feed [.ref b0, .int l1, .int l2, .int l3, .int l4, .int l5] K x Q := by
  refine s_I (by decide) (by simp [Value.category]) (Nat.le_of_ble_eq_true rfl) ?_
  show mGM mX7_feed 0 [some (.ref b0), some (.int l1), some (.int l2), some (.int l3), some (.int l4), some (.int l5)] [] (hp K x) (PI K Q)
  refine r_aload_n (pc := 0) dX7_feed_0 rfl ?_
  refine s_getI (pc := 1) dX7_feed_1 fl_X7_13 rfl k_b0 ?_
  refine r_bipush (pc := 4) (v := 20) dX7_feed_4 (by decide) ?_
  refine r_iadd (pc := 6) dX7_feed_6 ?_
  refine r_sipush (pc := 7) (v := 1200) dX7_feed_7 (by decide) ?_
  refine r_icmp_le (pc := 10) (tgt := 15) dX7_feed_10 (by decide) (fun q => ?_) (fun q => ?_)
  · have K0 := K0.1 q
    refine r_aload_n (pc := 15) dX7_feed_15 rfl ?_
    refine r_iload_n (pc := 16) dX7_feed_16 rfl ?_
    refine s_VV (pc := 17) mX7_putOnTape (ci := 7) (a := b0) (As := [.int l1]) dX7_feed_17 lk_X7_65 in_X7_putOnTape mo_X7_putOnTape ⟨by decide, rfl⟩ ⟨by decide, by decide⟩ (Nat.le_of_ble_eq_true rfl) k_b0 (mSV_mono K0 (fun y_2 K0 => ?_))
    refine r_aload_n (pc := 20) dX7_feed_20 rfl ?_
    refine r_iload_n (pc := 21) dX7_feed_21 rfl ?_
    refine s_VV (pc := 22) mX7_putOnTape (ci := 7) (a := b0) (As := [.int l2]) dX7_feed_22 lk_X7_65 in_X7_putOnTape mo_X7_putOnTape ⟨by decide, rfl⟩ ⟨by decide, by decide⟩ (Nat.le_of_ble_eq_true rfl) k_b0 (mSV_mono K0 (fun y_3 K0 => ?_))
    refine r_aload_n (pc := 25) dX7_feed_25 rfl ?_
    refine r_iload_n (pc := 26) dX7_feed_26 rfl ?_
    refine s_VV (pc := 27) mX7_putOnTape (ci := 7) (a := b0) (As := [.int l3]) dX7_feed_27 lk_X7_65 in_X7_putOnTape mo_X7_putOnTape ⟨by decide, rfl⟩ ⟨by decide, by decide⟩ (Nat.le_of_ble_eq_true rfl) k_b0 (mSV_mono K0 (fun y_4 K0 => ?_))
    refine r_aload_n (pc := 30) dX7_feed_30 rfl ?_
    refine r_iload (pc := 31) dX7_feed_31 rfl ?_
    refine s_VV (pc := 33) mX7_putOnTape (ci := 7) (a := b0) (As := [.int l4]) dX7_feed_33 lk_X7_65 in_X7_putOnTape mo_X7_putOnTape ⟨by decide, rfl⟩ ⟨by decide, by decide⟩ (Nat.le_of_ble_eq_true rfl) k_b0 (mSV_mono K0 (fun y_5 K0 => ?_))
    refine r_aload_n (pc := 36) dX7_feed_36 rfl ?_
    refine r_iload (pc := 37) dX7_feed_37 rfl ?_
    refine s_VV (pc := 39) mX7_putOnTape (ci := 7) (a := b0) (As := [.int l5]) dX7_feed_39 lk_X7_65 in_X7_putOnTape mo_X7_putOnTape ⟨by decide, rfl⟩ ⟨by decide, by decide⟩ (Nat.le_of_ble_eq_true rfl) k_b0 (mSV_mono K0 (fun y_6 K0 => ?_))
    refine r_aload_n (pc := 42) dX7_feed_42 rfl ?_
    refine s_getI (pc := 43) dX7_feed_43 fl_X7_13 rfl k_b0 ?_
    exact s_iret rfl dX7_feed_46 K0
  · have K0 := K0.2 q
    refine r_iconst (pc := 13) (v := (-1)) dX7_feed_13 (by decide) ?_
    exact s_iret rfl dX7_feed_14 K0
set_option maxHeartbeats 2000000 in
theorem v_X8_feed_0 {K : Sh} {x : Cn} {Q : Int32 → Cn → Prop} {b0 : Nat} {l1 : Int32} {l2 : Int32} {l3 : Int32} {l4 : Int32} {l5 : Int32}  (k_b0 : kk K b0 = some (8, 0)) (K0 : (((gi x b0 5) + 20) ≤ 1200 → (mSV mX8_puts4 [.ref b0, .int l1] K x (fun y_2 => mSV mX8_puts4 [.ref b0, .int l2] K y_2 (fun y_3 => mSV mX8_puts4 [.ref b0, .int l3] K y_3 (fun y_4 => mSV mX8_puts4 [.ref b0, .int l4] K y_4 (fun y_5 => mSV mX8_puts4 [.ref b0, .int l5] K y_5 (fun y_6 => Q (gi y_6 b0 5) y_6))))))) ∧ (¬ ((gi x b0 5) + 20) ≤ 1200 → (Q (-1) x))) : mSI mX8_feed [.ref b0, .int l1, .int l2, .int l3, .int l4, .int l5] K x Q := by
  refine s_I (by decide) (by simp [Value.category]) (Nat.le_of_ble_eq_true rfl) ?_
  show mGM mX8_feed 0 [some (.ref b0), some (.int l1), some (.int l2), some (.int l3), some (.int l4), some (.int l5)] [] (hp K x) (PI K Q)
  refine r_aload_n (pc := 0) dX8_feed_0 rfl ?_
  refine s_getI (pc := 1) dX8_feed_1 fl_X8_94 rfl k_b0 ?_
  refine r_bipush (pc := 4) (v := 20) dX8_feed_4 (by decide) ?_
  refine r_iadd (pc := 6) dX8_feed_6 ?_
  refine r_sipush (pc := 7) (v := 1200) dX8_feed_7 (by decide) ?_
  refine r_icmp_le (pc := 10) (tgt := 15) dX8_feed_10 (by decide) (fun q => ?_) (fun q => ?_)
  · have K0 := K0.1 q
    refine r_aload_n (pc := 15) dX8_feed_15 rfl ?_
    refine r_iload_n (pc := 16) dX8_feed_16 rfl ?_
    refine s_VV (pc := 17) mX8_puts4 (ci := 8) (a := b0) (As := [.int l1]) dX8_feed_17 lk_X8_97 in_X8_puts4 mo_X8_puts4 ⟨by decide, rfl⟩ ⟨by decide, by decide⟩ (Nat.le_of_ble_eq_true rfl) k_b0 (mSV_mono K0 (fun y_2 K0 => ?_))
    refine r_aload_n (pc := 20) dX8_feed_20 rfl ?_
    refine r_iload_n (pc := 21) dX8_feed_21 rfl ?_
    refine s_VV (pc := 22) mX8_puts4 (ci := 8) (a := b0) (As := [.int l2]) dX8_feed_22 lk_X8_97 in_X8_puts4 mo_X8_puts4 ⟨by decide, rfl⟩ ⟨by decide, by decide⟩ (Nat.le_of_ble_eq_true rfl) k_b0 (mSV_mono K0 (fun y_3 K0 => ?_))
    refine r_aload_n (pc := 25) dX8_feed_25 rfl ?_
    refine r_iload_n (pc := 26) dX8_feed_26 rfl ?_
    refine s_VV (pc := 27) mX8_puts4 (ci := 8) (a := b0) (As := [.int l3]) dX8_feed_27 lk_X8_97 in_X8_puts4 mo_X8_puts4 ⟨by decide, rfl⟩ ⟨by decide, by decide⟩ (Nat.le_of_ble_eq_true rfl) k_b0 (mSV_mono K0 (fun y_4 K0 => ?_))
    refine r_aload_n (pc := 30) dX8_feed_30 rfl ?_
    refine r_iload (pc := 31) dX8_feed_31 rfl ?_
    refine s_VV (pc := 33) mX8_puts4 (ci := 8) (a := b0) (As := [.int l4]) dX8_feed_33 lk_X8_97 in_X8_puts4 mo_X8_puts4 ⟨by decide, rfl⟩ ⟨by decide, by decide⟩ (Nat.le_of_ble_eq_true rfl) k_b0 (mSV_mono K0 (fun y_5 K0 => ?_))
    refine r_aload_n (pc := 36) dX8_feed_36 rfl ?_
    refine r_iload (pc := 37) dX8_feed_37 rfl ?_
    refine s_VV (pc := 39) mX8_puts4 (ci := 8) (a := b0) (As := [.int l5]) dX8_feed_39 lk_X8_97 in_X8_puts4 mo_X8_puts4 ⟨by decide, rfl⟩ ⟨by decide, by decide⟩ (Nat.le_of_ble_eq_true rfl) k_b0 (mSV_mono K0 (fun y_6 K0 => ?_))
    refine r_aload_n (pc := 42) dX8_feed_42 rfl ?_
    refine s_getI (pc := 43) dX8_feed_43 fl_X8_94 rfl k_b0 ?_
    exact s_iret rfl dX8_feed_46 K0
  · have K0 := K0.2 q
    refine r_iconst (pc := 13) (v := (-1)) dX8_feed_13 (by decide) ?_
    exact s_iret rfl dX8_feed_14 K0
set_option maxHeartbeats 2000000 in
theorem v_X1_isNamed_0 {K : Sh} {x : Cn} {Q : Int32 → Cn → Prop} {b0 : Nat} {l1 : Int32} {b2 : Nat} {l3 : Int32} {l4 : Int32}   (K0 : GI mX1_isNamed 3 [some (.ref b0), some (.int l1), some (.ref b2), some (.int l3), some (.int l4), some (.int 0), none] [] K x Q) : mSI mX1_isNamed [.ref b0, .int l1, .ref b2, .int l3, .int l4] K x Q := by
  refine s_I (by decide) (by simp [Value.category]) (Nat.le_of_ble_eq_true rfl) ?_
  show mGM mX1_isNamed 0 [some (.ref b0), some (.int l1), some (.ref b2), some (.int l3), some (.int l4), none, none] [] (hp K x) (PI K Q)
  refine r_iconst (pc := 0) (v := 0) dX1_isNamed_0 (by decide) ?_
  refine r_istore (pc := 1) dX1_isNamed_1 (by decide) ?_
  exact r_le (L' := [some (.ref b0), some (.int l1), some (.ref b2), some (.int l3), some (.int l4), some (.int 0), none]) ⟨rfl, ⟨rfl, ⟨rfl, ⟨rfl, ⟨rfl, ⟨rfl, trivial⟩⟩⟩⟩⟩⟩ K0
set_option maxHeartbeats 2000000 in
theorem v_X1_isNamed_3 {K : Sh} {x : Cn} {Q : Int32 → Cn → Prop} {b0 : Nat} {l1 : Int32} {b2 : Nat} {l3 : Int32} {l4 : Int32} {l5 : Int32} {b0_1 : Nat} {n_b0_1 : Nat} {n_b2 : Nat} (k_b0 : kk K b0 = some (1, 0)) (g_b0_1 : gr x b0 1 = some b0_1) (k_b0_1 : kk K b0_1 = some (20, n_b0_1)) (k_b2 : kk K b2 = some (21, n_b2)) (K0 : (6 ≤ l5 → (Q 1 x)) ∧ (¬ 6 ≤ l5 → ((l4 ≤ (l3 + l5) → (vp_in ((l1 * 6) + l5) n_b0_1 ∧ (((gi x b0_1 (((l1 * 6) + l5) : Int32).toNatClampNeg) = 0 → (GI mX1_isNamed 3 [some (.ref b0), some (.int l1), some (.ref b2), some (.int l3), some (.int l4), some (.int (l5 + 1)), none] [] K x Q)) ∧ (¬ (gi x b0_1 (((l1 * 6) + l5) : Int32).toNatClampNeg) = 0 → (Q 0 x))))) ∧ (¬ l4 ≤ (l3 + l5) → (vp_in (l3 + l5) n_b2 ∧ (vp_in ((l1 * 6) + l5) n_b0_1 ∧ (((gi x b0_1 (((l1 * 6) + l5) : Int32).toNatClampNeg) = (((gi x b2 ((l3 + l5) : Int32).toNatClampNeg) - 97) + 1) → (GI mX1_isNamed 3 [some (.ref b0), some (.int l1), some (.ref b2), some (.int l3), some (.int l4), some (.int (l5 + 1)), none] [] K x Q)) ∧ (¬ (gi x b0_1 (((l1 * 6) + l5) : Int32).toNatClampNeg) = (((gi x b2 ((l3 + l5) : Int32).toNatClampNeg) - 97) + 1) → (Q 0 x))))))))) : GI mX1_isNamed 3 [some (.ref b0), some (.int l1), some (.ref b2), some (.int l3), some (.int l4), some (.int l5), none] [] K x Q := by
  show mGM mX1_isNamed 3 [some (.ref b0), some (.int l1), some (.ref b2), some (.int l3), some (.int l4), some (.int l5), none] [] (hp K x) (PI K Q)
  refine r_iload (pc := 3) dX1_isNamed_3 rfl ?_
  refine r_bipush (pc := 5) (v := 6) dX1_isNamed_5 (by decide) ?_
  refine r_icmp_ge (pc := 7) (tgt := 61) dX1_isNamed_7 (by decide) (fun q => ?_) (fun q => ?_)
  · have K0 := K0.1 q
    refine r_iconst (pc := 61) (v := 1) dX1_isNamed_61 (by decide) ?_
    exact s_zret rfl (by decide) dX1_isNamed_62 K0
  · have K0 := K0.2 q
    refine r_iload_n (pc := 10) dX1_isNamed_10 rfl ?_
    refine r_iload (pc := 11) dX1_isNamed_11 rfl ?_
    refine r_iadd (pc := 13) dX1_isNamed_13 ?_
    refine r_iload (pc := 14) dX1_isNamed_14 rfl ?_
    refine r_icmp_ge (pc := 16) (tgt := 33) dX1_isNamed_16 (by decide) (fun q => ?_) (fun q => ?_)
    · have K0 := K0.1 q
      refine r_iconst (pc := 33) (v := 0) dX1_isNamed_33 (by decide) ?_
      refine r_istore (pc := 34) dX1_isNamed_34 (by decide) ?_
      refine r_aload_n (pc := 36) (L := [some (.ref b0), some (.int l1), some (.ref b2), some (.int l3), some (.int l4), some (.int l5), some (.int 0)]) dX1_isNamed_36 rfl ?_
      refine s_getR (pc := 37) dX1_isNamed_37 fl_X1_15 rfl k_b0 g_b0_1 ?_
      refine r_iload_n (pc := 40) dX1_isNamed_40 rfl ?_
      refine r_bipush (pc := 41) (v := 6) dX1_isNamed_41 (by decide) ?_
      refine r_imul (pc := 43) dX1_isNamed_43 ?_
      refine r_iload (pc := 44) dX1_isNamed_44 rfl ?_
      refine r_iadd (pc := 46) dX1_isNamed_46 ?_
      obtain ⟨i_3, K0⟩ := K0
      refine s_iald (pc := 47) dX1_isNamed_47 k_b0_1 i_3 ?_
      refine r_iload (pc := 48) dX1_isNamed_48 rfl ?_
      refine r_icmp_eq (pc := 50) (tgt := 55) dX1_isNamed_50 (by decide) (fun q => ?_) (fun q => ?_)
      · have K0 := K0.1 q
        refine r_iinc (pc := 55) (v := l5 + 1) dX1_isNamed_55 rfl rfl (by decide) ?_
        refine r_goto (pc := 58) (L := [some (.ref b0), some (.int l1), some (.ref b2), some (.int l3), some (.int l4), some (.int (l5 + 1)), some (.int 0)]) (tgt := 3) dX1_isNamed_58 (by decide) ?_
        exact r_le (L' := [some (.ref b0), some (.int l1), some (.ref b2), some (.int l3), some (.int l4), some (.int (l5 + 1)), none]) ⟨rfl, ⟨rfl, ⟨rfl, ⟨rfl, ⟨rfl, ⟨rfl, trivial⟩⟩⟩⟩⟩⟩ K0
      · have K0 := K0.2 q
        refine r_iconst (pc := 53) (v := 0) dX1_isNamed_53 (by decide) ?_
        exact s_zret rfl (by decide) dX1_isNamed_54 K0
    · have K0 := K0.2 q
      refine r_aload_n (pc := 19) dX1_isNamed_19 rfl ?_
      refine r_iload_n (pc := 20) dX1_isNamed_20 rfl ?_
      refine r_iload (pc := 21) dX1_isNamed_21 rfl ?_
      refine r_iadd (pc := 23) dX1_isNamed_23 ?_
      obtain ⟨i_5, K0⟩ := K0
      refine s_bald (pc := 24) dX1_isNamed_24 k_b2 i_5 ?_
      refine r_bipush (pc := 25) (v := 97) dX1_isNamed_25 (by decide) ?_
      refine r_isub (pc := 27) dX1_isNamed_27 ?_
      refine r_iconst (pc := 28) (v := 1) dX1_isNamed_28 (by decide) ?_
      refine r_iadd (pc := 29) dX1_isNamed_29 ?_
      refine r_goto (pc := 30) (tgt := 34) dX1_isNamed_30 (by decide) ?_
      refine r_istore (pc := 34) dX1_isNamed_34 (by decide) ?_
      refine r_aload_n (pc := 36) (L := [some (.ref b0), some (.int l1), some (.ref b2), some (.int l3), some (.int l4), some (.int l5), some (.int (((gi x b2 ((l3 + l5) : Int32).toNatClampNeg) - 97) + 1))]) dX1_isNamed_36 rfl ?_
      refine s_getR (pc := 37) dX1_isNamed_37 fl_X1_15 rfl k_b0 g_b0_1 ?_
      refine r_iload_n (pc := 40) dX1_isNamed_40 rfl ?_
      refine r_bipush (pc := 41) (v := 6) dX1_isNamed_41 (by decide) ?_
      refine r_imul (pc := 43) dX1_isNamed_43 ?_
      refine r_iload (pc := 44) dX1_isNamed_44 rfl ?_
      refine r_iadd (pc := 46) dX1_isNamed_46 ?_
      obtain ⟨i_6, K0⟩ := K0
      refine s_iald (pc := 47) dX1_isNamed_47 k_b0_1 i_6 ?_
      refine r_iload (pc := 48) dX1_isNamed_48 rfl ?_
      refine r_icmp_eq (pc := 50) (tgt := 55) dX1_isNamed_50 (by decide) (fun q => ?_) (fun q => ?_)
      · have K0 := K0.1 q
        refine r_iinc (pc := 55) (v := l5 + 1) dX1_isNamed_55 rfl rfl (by decide) ?_
        refine r_goto (pc := 58) (L := [some (.ref b0), some (.int l1), some (.ref b2), some (.int l3), some (.int l4), some (.int (l5 + 1)), some (.int (((gi x b2 ((l3 + l5) : Int32).toNatClampNeg) - 97) + 1))]) (tgt := 3) dX1_isNamed_58 (by decide) ?_
        exact r_le (L' := [some (.ref b0), some (.int l1), some (.ref b2), some (.int l3), some (.int l4), some (.int (l5 + 1)), none]) ⟨rfl, ⟨rfl, ⟨rfl, ⟨rfl, ⟨rfl, ⟨rfl, trivial⟩⟩⟩⟩⟩⟩ K0
      · have K0 := K0.2 q
        refine r_iconst (pc := 53) (v := 0) dX1_isNamed_53 (by decide) ?_
        exact s_zret rfl (by decide) dX1_isNamed_54 K0
section
theorem sp_X1_isNamed {x : Cn} {Q : Int32 → Cn → Prop} {nb cr w bt nB fr to : Nat} (k1 : kk KW nb = some (1, 0)) (g1 : gr x nb 1 = some (nb + 1)) (k2 : kk KW (nb + 1) = some (20, 48)) (kb : kk KW bt = some (21, nB)) (hc : cr < 8) (hw : w < 387420489) (hv : ∀ i, i < 6 → gi x (nb + 1) (6 * cr + i) = nI (dg w i)) (h : ltr (gi x bt) fr to) (hto : to ≤ nB) (hft : fr ≤ to) (hnB : nB ≤ 1200) (k : Q (b2i (w = pkv (gi x bt) fr to)) x) : mSI mX1_isNamed [.ref nb, .int (nI cr), .ref bt, .int (nI fr), .int (nI to)] KW x Q := by
  have no : ∀ i, i < 6 → ¬ dg w i = bd (gi x bt) fr to i → Q 0 x := fun i hi hne => by
    rw [b2i_f (fun e => hne (by rw [e]; exact pkv_dg h i hi))] at k
    exact k
  have key : ∀ r i, i + r = 6 → (∀ j, j < i → dg w j = bd (gi x bt) fr to j) → GI mX1_isNamed 3 [some (.ref nb), some (.int (nI cr)), some (.ref bt), some (.int (nI fr)), some (.int (nI to)), some (.int (nI i)), none] [] KW x Q := by
    intro r
    induction r with
    | zero =>
      intro i hi hj
      have : i = 6 := by omega
      subst this
      refine v_X1_isNamed_3 k1 g1 k2 kb ⟨fun _ => ?_, fun z => absurd (Int32.le_refl _) z⟩
      rw [b2i_t (dg_inj hw (pkv_lt h) (fun j hj6 => by rw [hj j hj6, pkv_dg h j hj6]))] at k
      exact k
    | succ r ih =>
      intro i hi hj
      have hd := dg_lt w i
      have ix : (nI cr * 6) + nI i = nI (6 * cr + i) := by rw [show (6 : Int32) = nI 6 by decide, pk_mul, nI_add, Nat.mul_comm]
      have i2 : nI fr + nI i = nI (fr + i) := nI_add fr i
      by_cases big : fr < 2 ^ 30
      · have hb := bd_lt h i
        refine v_X1_isNamed_3 k1 g1 k2 kb ⟨fun z => absurd z (nI_ge (b := 6) (by omega) (by decide)), fun _ => ?_⟩
        rw [ix, i2, nI_clamp (show 6 * cr + i < 2 ^ 31 by omega), nI_clamp (show fr + i < 2 ^ 31 by omega), hv i (by omega), nI_1, nI_leI (by omega) (by omega)]
        have go : dg w i = bd (gi x bt) fr to i → GI mX1_isNamed 3 [some (.ref nb), some (.int (nI cr)), some (.ref bt), some (.int (nI fr)), some (.int (nI to)), some (.int (nI (i + 1))), none] [] KW x Q := fun e => ih (i + 1) (by omega) (fun j hj' => by
          by_cases c : j = i
          · rw [c]; exact e
          · exact hj j (by omega))
        refine ⟨fun z => ⟨vp_in_nI (by omega) (by decide), fun z2 => go ?_, fun z2 => no i (by omega) ?_⟩, fun z => ⟨vp_in_nI (by omega) (by omega), vp_in_nI (by omega) (by decide), ?_⟩⟩
        · unfold bd; rw [if_neg (by omega)]; exact (nI_z (by omega)).mp z2
        · unfold bd; rw [if_neg (by omega)]; exact fun e => z2 (by rw [e]; rfl)
        · obtain ⟨m, m1, m2, m3⟩ := h (fr + i) (by omega) (by omega)
          have eb : bd (gi x bt) fr to i = m - 96 := by
            unfold bd
            rw [if_pos (by omega), m3, nI_clamp (by omega)]
          rw [m3, let_v m1 m2, nI_eq (by omega) (by omega)]
          exact ⟨fun z2 => go (by rw [eb]; exact z2), fun z2 => no i (by omega) (by rw [eb]; exact z2)⟩
      · omega
  exact v_X1_isNamed_0 (key 6 0 (by omega) (fun j hj => by omega))
end
set_option maxHeartbeats 2000000 in
theorem v_X1_carrierNamed_0 {K : Sh} {x : Cn} {Q : Int32 → Cn → Prop} {b0 : Nat} {b1 : Nat} {l2 : Int32} {l3 : Int32}   (K0 : GI mX1_carrierNamed 3 [some (.ref b0), some (.ref b1), some (.int l2), some (.int l3), some (.int 0)] [] K x Q) : mSI mX1_carrierNamed [.ref b0, .ref b1, .int l2, .int l3] K x Q := by
  refine s_I (by decide) (by simp [Value.category]) (Nat.le_of_ble_eq_true rfl) ?_
  show mGM mX1_carrierNamed 0 [some (.ref b0), some (.ref b1), some (.int l2), some (.int l3), none] [] (hp K x) (PI K Q)
  refine r_iconst (pc := 0) (v := 0) dX1_carrierNamed_0 (by decide) ?_
  refine r_istore (pc := 1) dX1_carrierNamed_1 (by decide) ?_
  exact r_le (L' := [some (.ref b0), some (.ref b1), some (.int l2), some (.int l3), some (.int 0)]) ⟨rfl, ⟨rfl, ⟨rfl, ⟨rfl, ⟨rfl, trivial⟩⟩⟩⟩⟩ K0
set_option maxHeartbeats 2000000 in
theorem v_X1_carrierNamed_3 {K : Sh} {x : Cn} {Q : Int32 → Cn → Prop} {b0 : Nat} {b1 : Nat} {l2 : Int32} {l3 : Int32} {l4 : Int32}  (k_b0 : kk K b0 = some (1, 0)) (K0 : ((gi x b0 0) ≤ l4 → (Q (-1) x)) ∧ (¬ (gi x b0 0) ≤ l4 → (mSI mX1_isNamed [.ref b0, .int l4, .ref b1, .int l2, .int l3] K x (fun r_3 y_2 => (r_3 = 0 → (GI mX1_carrierNamed 3 [some (.ref b0), some (.ref b1), some (.int l2), some (.int l3), some (.int (l4 + 1))] [] K y_2 Q)) ∧ (¬ r_3 = 0 → (Q l4 y_2)))))) : GI mX1_carrierNamed 3 [some (.ref b0), some (.ref b1), some (.int l2), some (.int l3), some (.int l4)] [] K x Q := by
  show mGM mX1_carrierNamed 3 [some (.ref b0), some (.ref b1), some (.int l2), some (.int l3), some (.int l4)] [] (hp K x) (PI K Q)
  refine r_iload (pc := 3) dX1_carrierNamed_3 rfl ?_
  refine r_aload_n (pc := 5) dX1_carrierNamed_5 rfl ?_
  refine s_getI (pc := 6) dX1_carrierNamed_6 fl_X1_9 rfl k_b0 ?_
  refine r_icmp_ge (pc := 9) (tgt := 33) dX1_carrierNamed_9 (by decide) (fun q => ?_) (fun q => ?_)
  · have K0 := K0.1 q
    refine r_iconst (pc := 33) (v := (-1)) dX1_carrierNamed_33 (by decide) ?_
    exact s_iret rfl dX1_carrierNamed_34 K0
  · have K0 := K0.2 q
    refine r_aload_n (pc := 12) dX1_carrierNamed_12 rfl ?_
    refine r_iload (pc := 13) dX1_carrierNamed_13 rfl ?_
    refine r_aload_n (pc := 15) dX1_carrierNamed_15 rfl ?_
    refine r_iload_n (pc := 16) dX1_carrierNamed_16 rfl ?_
    refine r_iload_n (pc := 17) dX1_carrierNamed_17 rfl ?_
    refine s_VI (pc := 18) mX1_isNamed (ci := 1) (a := b0) (As := [.int l4, .ref b1, .int l2, .int l3]) dX1_carrierNamed_18 lk_X1_19 in_X1_isNamed mo_X1_isNamed ⟨by decide, rfl⟩ ⟨by decide, by decide⟩ (Nat.le_of_ble_eq_true rfl) k_b0 (mSI_mono K0 (fun r_3 y_2 K0 => ?_))
    refine r_if_eq (pc := 21) (tgt := 27) dX1_carrierNamed_21 (by decide) (fun q => ?_) (fun q => ?_)
    · have K0 := K0.1 q
      refine r_iinc (pc := 27) (v := l4 + 1) dX1_carrierNamed_27 rfl rfl (by decide) ?_
      refine r_goto (pc := 30) (L := [some (.ref b0), some (.ref b1), some (.int l2), some (.int l3), some (.int (l4 + 1))]) (tgt := 3) dX1_carrierNamed_30 (by decide) ?_
      exact r_le (L' := [some (.ref b0), some (.ref b1), some (.int l2), some (.int l3), some (.int (l4 + 1))]) ⟨rfl, ⟨rfl, ⟨rfl, ⟨rfl, ⟨rfl, trivial⟩⟩⟩⟩⟩ K0
    · have K0 := K0.2 q
      refine r_iload (pc := 24) dX1_carrierNamed_24 rfl ?_
      exact s_iret rfl dX1_carrierNamed_26 K0
section
theorem sp_X1_carrierNamed {x : Cn} {Q : Int32 → Cn → Prop} {T : TT} {C nb bt nB fr to : Nat} (k1 : kk KW nb = some (1, 0)) (g1 : gr x nb 1 = some (nb + 1)) (k2 : kk KW (nb + 1) = some (20, 48)) (kb : kk KW bt = some (21, nB)) (hC : C ≤ 8) (nm : NMr x nb T C) (h : ltr (gi x bt) fr to) (hto : to ≤ nB) (hft : fr ≤ to) (hnB : nB ≤ 1200) (k : Q (fnd T C (pkv (gi x bt) fr to)) x) : mSI mX1_carrierNamed [.ref nb, .ref bt, .int (nI fr), .int (nI to)] KW x Q := by
  refine v_X1_carrierNamed_0 (lp_gen (stN T (pkv (gi x bt) fr to)) (fun _ => -1) (fun c _ => GI mX1_carrierNamed 3 [some (.ref nb), some (.ref bt), some (.int (nI fr)), some (.int (nI to)), some (.int (nI c))] [] KW x Q) (fun r => Q r x) C (fun _ q => ?_) (fun c _ hc n1 n2 => ?_) C 0 () (by omega) k)
  · exact v_X1_carrierNamed_3 k1 ⟨fun _ => q, fun z => absurd (by rw [nm.1]; exact Int32.le_refl _) z⟩
  · obtain ⟨w, ⟨hw0, hw1⟩, hw2, hw3⟩ := nm.2 c hc
    have pl := pkv_lt h
    refine v_X1_carrierNamed_3 k1 ⟨fun z => absurd (by rw [nm.1] at z; exact z) (nI_ge hc (by omega)), fun _ => sp_X1_isNamed k1 g1 k2 kb (by omega) hw1 hw3 h hto hft hnB ⟨fun z => ?_, fun z => ?_⟩⟩
    · rw [nI_1]
      refine n1 () ?_
      unfold stN
      rw [if_neg (fun e => (b2i_z _).mp z ((nI_eq (by omega) (by omega)).mp (hw2.symm.trans e)))]
    · refine n2 _ ?_
      unfold stN
      rw [if_pos (by rw [hw2, b2i_nz z])]
end
set_option maxHeartbeats 2000000 in
theorem v_X8_findName_0 {K : Sh} {x : Cn} {Q : Int32 → Cn → Prop} {b0 : Nat} {l1 : Int32}   (K0 : GI mX8_findName 2 [some (.ref b0), some (.int l1), some (.int 0)] [] K x Q) : mSI mX8_findName [.ref b0, .int l1] K x Q := by
  refine s_I (by decide) (by simp [Value.category]) (Nat.le_of_ble_eq_true rfl) ?_
  show mGM mX8_findName 0 [some (.ref b0), some (.int l1), none] [] (hp K x) (PI K Q)
  refine r_iconst (pc := 0) (v := 0) dX8_findName_0 (by decide) ?_
  refine r_istore_n (pc := 1) dX8_findName_1 (by decide) ?_
  exact r_le (L' := [some (.ref b0), some (.int l1), some (.int 0)]) ⟨rfl, ⟨rfl, ⟨rfl, trivial⟩⟩⟩ K0
set_option maxHeartbeats 2000000 in
theorem v_X8_findName_2 {K : Sh} {x : Cn} {Q : Int32 → Cn → Prop} {b0 : Nat} {l1 : Int32} {l2 : Int32} {b0_3 : Nat} {n_b0_3 : Nat} (k_b0 : kk K b0 = some (8, 0)) (g_b0_3 : gr x b0 3 = some b0_3) (k_b0_3 : kk K b0_3 = some (20, n_b0_3)) (K0 : vp_in 1 n_b0_3 ∧ (((gi x b0_3 1) ≤ l2 → (Q (-1) x)) ∧ (¬ (gi x b0_3 1) ≤ l2 → (vp_in (54 + l2) n_b0_3 ∧ ((¬ (gi x b0_3 ((54 + l2) : Int32).toNatClampNeg) = l1 → (GI mX8_findName 2 [some (.ref b0), some (.int l1), some (.int (l2 + 1))] [] K x Q)) ∧ ((gi x b0_3 ((54 + l2) : Int32).toNatClampNeg) = l1 → (Q l2 x))))))) : GI mX8_findName 2 [some (.ref b0), some (.int l1), some (.int l2)] [] K x Q := by
  show mGM mX8_findName 2 [some (.ref b0), some (.int l1), some (.int l2)] [] (hp K x) (PI K Q)
  refine r_iload_n (pc := 2) dX8_findName_2 rfl ?_
  refine r_aload_n (pc := 3) dX8_findName_3 rfl ?_
  refine s_getR (pc := 4) dX8_findName_4 fl_X8_16 rfl k_b0 g_b0_3 ?_
  refine r_iconst (pc := 7) (v := 1) dX8_findName_7 (by decide) ?_
  obtain ⟨i_1, K0⟩ := K0
  refine s_iald (pc := 8) dX8_findName_8 k_b0_3 i_1 ?_
  refine r_icmp_ge (pc := 9) (tgt := 33) dX8_findName_9 (by decide) (fun q => ?_) (fun q => ?_)
  · have K0 := K0.1 q
    refine r_iconst (pc := 33) (v := (-1)) dX8_findName_33 (by decide) ?_
    exact s_iret rfl dX8_findName_34 K0
  · have K0 := K0.2 q
    refine r_aload_n (pc := 12) dX8_findName_12 rfl ?_
    refine s_getR (pc := 13) dX8_findName_13 fl_X8_16 rfl k_b0 g_b0_3 ?_
    refine r_bipush (pc := 16) (v := 54) dX8_findName_16 (by decide) ?_
    refine r_iload_n (pc := 18) dX8_findName_18 rfl ?_
    refine r_iadd (pc := 19) dX8_findName_19 ?_
    obtain ⟨i_3, K0⟩ := K0
    refine s_iald (pc := 20) dX8_findName_20 k_b0_3 i_3 ?_
    refine r_iload_n (pc := 21) dX8_findName_21 rfl ?_
    refine r_icmp_ne (pc := 22) (tgt := 27) dX8_findName_22 (by decide) (fun q => ?_) (fun q => ?_)
    · have K0 := K0.1 q
      refine r_iinc (pc := 27) (v := l2 + 1) dX8_findName_27 rfl rfl (by decide) ?_
      refine r_goto (pc := 30) (L := [some (.ref b0), some (.int l1), some (.int (l2 + 1))]) (tgt := 2) dX8_findName_30 (by decide) ?_
      exact r_le (L' := [some (.ref b0), some (.int l1), some (.int (l2 + 1))]) ⟨rfl, ⟨rfl, ⟨rfl, trivial⟩⟩⟩ K0
    · have K0 := K0.2 q
      refine r_iload_n (pc := 25) dX8_findName_25 rfl ?_
      exact s_iret rfl dX8_findName_26 K0
section
theorem sp_X8_findName {x : Cn} {Q : Int32 → Cn → Prop} {t C v : Nat} (M : MRf x t) (ht : kk KW t = some (20, 518)) (h1 : gi x t 1 = nI C) (hC : C ≤ 8) (k : Q (fnd (gi x t) C v) x) : mSI mX8_findName [.ref 717, .int (nI v)] KW x Q := by
  refine v_X8_findName_0 (lp_gen (stN (gi x t) v) (fun _ => -1) (fun c _ => GI mX8_findName 2 [some (.ref 717), some (.int (nI v)), some (.int (nI c))] [] KW x Q) (fun r => Q r x) C (fun _ q => ?_) (fun c _ hc n1 n2 => ?_) C 0 () (by omega) k)
  · exact v_X8_findName_2 km M.2.2.1 ht ⟨v0 (k := 1) (by decide) rfl rfl, fun _ => q, fun z => absurd (by rw [h1]; exact Int32.le_refl _) z⟩
  · refine v_X8_findName_2 km M.2.2.1 ht ⟨v0 (k := 1) (by decide) rfl rfl, fun z => absurd (by rw [h1] at z; exact z) (nI_ge hc (by omega)), fun _ => ?_⟩
    rw [show (54 : Int32) + nI c = nI (54 + c) from nI_add 54 c, nI_clamp (by omega), nI_1]
    refine ⟨vp_in_nI (by omega) (by decide), fun z => n1 () ?_, fun z => n2 _ ?_⟩
    · unfold stN; rw [if_neg z]
    · unfold stN; rw [if_pos z]
end
set_option maxHeartbeats 2000000 in
theorem v_X8_packed_0 {K : Sh} {x : Cn} {Q : Int32 → Cn → Prop} {b0 : Nat} {l1 : Int32} {l2 : Int32}   (K0 : GI mX8_packed 5 [some (.ref b0), some (.int l1), some (.int l2), some (.int 0), some (.int 0)] [] K x Q) : mSI mX8_packed [.ref b0, .int l1, .int l2] K x Q := by
  refine s_I (by decide) (by simp [Value.category]) (Nat.le_of_ble_eq_true rfl) ?_
  show mGM mX8_packed 0 [some (.ref b0), some (.int l1), some (.int l2), none, none] [] (hp K x) (PI K Q)
  refine r_iconst (pc := 0) (v := 0) dX8_packed_0 (by decide) ?_
  refine r_istore_n (pc := 1) dX8_packed_1 (by decide) ?_
  refine r_iconst (pc := 2) (L := [some (.ref b0), some (.int l1), some (.int l2), some (.int 0), none]) (v := 0) dX8_packed_2 (by decide) ?_
  refine r_istore (pc := 3) dX8_packed_3 (by decide) ?_
  exact r_le (L' := [some (.ref b0), some (.int l1), some (.int l2), some (.int 0), some (.int 0)]) ⟨rfl, ⟨rfl, ⟨rfl, ⟨rfl, ⟨rfl, trivial⟩⟩⟩⟩⟩ K0
set_option maxHeartbeats 2000000 in
theorem v_X8_packed_5 {K : Sh} {x : Cn} {Q : Int32 → Cn → Prop} {b0 : Nat} {l1 : Int32} {l2 : Int32} {l3 : Int32} {l4 : Int32} {b0_4 : Nat} {n_b0_4 : Nat} (k_b0 : kk K b0 = some (8, 0)) (g_b0_4 : gr x b0 4 = some b0_4) (k_b0_4 : kk K b0_4 = some (21, n_b0_4)) (K0 : (6 ≤ l4 → (Q l3 x)) ∧ (¬ 6 ≤ l4 → ((l2 ≤ (l1 + l4) → (GI mX8_packed 5 [some (.ref b0), some (.int l1), some (.int l2), some (.int ((27 * l3) + 0)), some (.int (l4 + 1))] [] K x Q)) ∧ (¬ l2 ≤ (l1 + l4) → (vp_in (l1 + l4) n_b0_4 ∧ (∀ r_4 : Int32, r_4 = ((27 * l3) + (((gi x b0_4 ((l1 + l4) : Int32).toNatClampNeg) - 97) + 1)) → (GI mX8_packed 5 [some (.ref b0), some (.int l1), some (.int l2), some (.int r_4), some (.int (l4 + 1))] [] K x Q))))))) : GI mX8_packed 5 [some (.ref b0), some (.int l1), some (.int l2), some (.int l3), some (.int l4)] [] K x Q := by
  show mGM mX8_packed 5 [some (.ref b0), some (.int l1), some (.int l2), some (.int l3), some (.int l4)] [] (hp K x) (PI K Q)
  refine r_iload (pc := 5) dX8_packed_5 rfl ?_
  refine r_bipush (pc := 7) (v := 6) dX8_packed_7 (by decide) ?_
  refine r_icmp_ge (pc := 9) (tgt := 50) dX8_packed_9 (by decide) (fun q => ?_) (fun q => ?_)
  · have K0 := K0.1 q
    refine r_iload_n (pc := 50) dX8_packed_50 rfl ?_
    exact s_iret rfl dX8_packed_51 K0
  · have K0 := K0.2 q
    refine r_bipush (pc := 12) (v := 27) dX8_packed_12 (by decide) ?_
    refine r_iload_n (pc := 14) dX8_packed_14 rfl ?_
    refine r_imul (pc := 15) dX8_packed_15 ?_
    refine r_iload_n (pc := 16) dX8_packed_16 rfl ?_
    refine r_iload (pc := 17) dX8_packed_17 rfl ?_
    refine r_iadd (pc := 19) dX8_packed_19 ?_
    refine r_iload_n (pc := 20) dX8_packed_20 rfl ?_
    refine r_icmp_ge (pc := 21) (tgt := 41) dX8_packed_21 (by decide) (fun q => ?_) (fun q => ?_)
    · have K0 := K0.1 q
      refine r_iconst (pc := 41) (v := 0) dX8_packed_41 (by decide) ?_
      refine r_iadd (pc := 42) dX8_packed_42 ?_
      refine r_istore_n (pc := 43) dX8_packed_43 (by decide) ?_
      refine r_iinc (pc := 44) (L := [some (.ref b0), some (.int l1), some (.int l2), some (.int ((27 * l3) + 0)), some (.int l4)]) (v := l4 + 1) dX8_packed_44 rfl rfl (by decide) ?_
      refine r_goto (pc := 47) (L := [some (.ref b0), some (.int l1), some (.int l2), some (.int ((27 * l3) + 0)), some (.int (l4 + 1))]) (tgt := 5) dX8_packed_47 (by decide) ?_
      exact r_le (L' := [some (.ref b0), some (.int l1), some (.int l2), some (.int ((27 * l3) + 0)), some (.int (l4 + 1))]) ⟨rfl, ⟨rfl, ⟨rfl, ⟨rfl, ⟨rfl, trivial⟩⟩⟩⟩⟩ K0
    · have K0 := K0.2 q
      refine r_aload_n (pc := 24) dX8_packed_24 rfl ?_
      refine s_getR (pc := 25) dX8_packed_25 fl_X8_19 rfl k_b0 g_b0_4 ?_
      refine r_iload_n (pc := 28) dX8_packed_28 rfl ?_
      refine r_iload (pc := 29) dX8_packed_29 rfl ?_
      refine r_iadd (pc := 31) dX8_packed_31 ?_
      obtain ⟨i_3, K0⟩ := K0
      refine s_bald (pc := 32) dX8_packed_32 k_b0_4 i_3 ?_
      refine r_bipush (pc := 33) (v := 97) dX8_packed_33 (by decide) ?_
      refine r_isub (pc := 35) dX8_packed_35 ?_
      refine r_iconst (pc := 36) (v := 1) dX8_packed_36 (by decide) ?_
      refine r_iadd (pc := 37) dX8_packed_37 ?_
      refine r_goto (pc := 38) (tgt := 42) dX8_packed_38 (by decide) ?_
      refine r_iadd (pc := 42) dX8_packed_42 ?_
      obtain ⟨r_4, w_5⟩ : ∃ z : Int32, z = ((27 * l3) + (((gi x b0_4 ((l1 + l4) : Int32).toNatClampNeg) - 97) + 1)) := ⟨_, rfl⟩
      rw [← w_5]
      have K0 := K0 r_4 w_5
      refine r_istore_n (pc := 43) dX8_packed_43 (by decide) ?_
      refine r_iinc (pc := 44) (L := [some (.ref b0), some (.int l1), some (.int l2), some (.int r_4), some (.int l4)]) (v := l4 + 1) dX8_packed_44 rfl rfl (by decide) ?_
      refine r_goto (pc := 47) (L := [some (.ref b0), some (.int l1), some (.int l2), some (.int r_4), some (.int (l4 + 1))]) (tgt := 5) dX8_packed_47 (by decide) ?_
      exact r_le (L' := [some (.ref b0), some (.int l1), some (.int l2), some (.int r_4), some (.int (l4 + 1))]) ⟨rfl, ⟨rfl, ⟨rfl, ⟨rfl, ⟨rfl, trivial⟩⟩⟩⟩⟩ K0
section
theorem sp_X8_packed {x : Cn} {Q : Int32 → Cn → Prop} {t fr to : Nat} (M : MRf x t) (h : ltr (gi x 720) fr to) (hto : to ≤ 1200) (hft : fr ≤ to) (k : Q (nI (pkv (gi x 720) fr to)) x) : mSI mX8_packed [.ref 717, .int (nI fr), .int (nI to)] KW x Q := by
  have key : ∀ r i, i + r = 6 → GI mX8_packed 5 [some (.ref 717), some (.int (nI fr)), some (.int (nI to)), some (.int (nI (pkn (gi x 720) fr to i))), some (.int (nI i))] [] KW x Q := by
    intro r
    induction r with
    | zero =>
      intro i hi
      have : i = 6 := by omega
      subst this
      exact v_X8_packed_5 km M.2.2.2.1 km720 ⟨fun _ => k, fun z => absurd (Int32.le_refl _) z⟩
    | succ r ih =>
      intro i hi
      have pn := pkn_lt h i (by omega)
      have p5 : 27 ^ i ≤ 27 ^ 5 := Nat.pow_le_pow_right (by decide) (by omega)
      have p6 : (27 : Nat) ^ 5 = 14348907 := by decide
      have i2 : nI fr + nI i = nI (fr + i) := nI_add fr i
      have m27 : (27 : Int32) * nI (pkn (gi x 720) fr to i) = nI (27 * pkn (gi x 720) fr to i) := pk_mul 27 _
      refine v_X8_packed_5 km M.2.2.2.1 km720 ⟨fun z => absurd z (nI_ge (b := 6) (by omega) (by decide)), fun _ => ?_⟩
      rw [i2, nI_1, nI_clamp (by omega), nI_leI (by omega) (by omega), m27]
      refine ⟨fun z => ?_, fun z => ⟨vp_in_nI (by omega) (by decide), fun q hq => ?_⟩⟩
      · have e : nI (27 * pkn (gi x 720) fr to i) + 0 = nI (pkn (gi x 720) fr to (i + 1)) := by
          show nI (27 * pkn (gi x 720) fr to i) + nI 0 = nI (27 * pkn (gi x 720) fr to i + bd (gi x 720) fr to i)
          rw [nI_add]
          congr 1
          unfold bd
          rw [if_neg (by omega)]
        rw [e]
        exact ih (i + 1) (by omega)
      · obtain ⟨m, m1, m2, m3⟩ := h (fr + i) (by omega) (by omega)
        have e : q = nI (pkn (gi x 720) fr to (i + 1)) := by
          show q = nI (27 * pkn (gi x 720) fr to i + bd (gi x 720) fr to i)
          rw [hq, m3, let_v m1 m2, nI_add]
          congr 1
          unfold bd
          rw [if_pos (by omega), m3, nI_clamp (by omega)]
        rw [e]
        exact ih (i + 1) (by omega)
  exact v_X8_packed_0 (key 6 0 (by omega))
end
set_option maxHeartbeats 2000000 in
theorem v_X7_find_0 {K : Sh} {x : Cn} {Q : Int32 → Cn → Prop} {b0 : Nat} {b0_2 : Nat} (k_b0 : kk K b0 = some (7, 0)) (g_b0_2 : gr x b0 2 = some b0_2) (k_b0_2 : kk K b0_2 = some (4, 0)) (K0 : (¬ (0 < gi (ui x b0 1 0) b0_2 0) → (Q (-2) (ui x b0 1 0))) ∧ ((0 < gi (ui x b0 1 0) b0_2 0) → (((1 ≤ (gi x b0 1) ∧ (gi x b0 1) ≤ 6) → (GI mX7_find 32 [some (.ref b0), some (.int (gi x b0 1)), some (.int 0)] [] K (ui x b0 1 0) Q)) ∧ (¬ (1 ≤ (gi x b0 1) ∧ (gi x b0 1) ≤ 6) → (Q (-2) (ui x b0 1 0)))))) : mSI mX7_find [.ref b0] K x Q := by
  refine s_I (by decide) (by simp [Value.category]) (Nat.le_of_ble_eq_true rfl) ?_
  show mGM mX7_find 0 [some (.ref b0), none, none] [] (hp K x) (PI K Q)
  refine r_aload_n (pc := 0) dX7_find_0 rfl ?_
  refine s_getI (pc := 1) dX7_find_1 fl_X7_13 rfl k_b0 ?_
  refine r_istore_n (pc := 4) dX7_find_4 (by decide) ?_
  refine r_aload_n (pc := 5) (L := [some (.ref b0), some (.int (gi x b0 1)), none]) dX7_find_5 rfl ?_
  refine r_iconst (pc := 6) (v := 0) dX7_find_6 (by decide) ?_
  refine s_putI (pc := 7) dX7_find_7 fl_X7_13 rfl rfl k_b0 ?_
  refine r_aload_n (pc := 10) dX7_find_10 rfl ?_
  refine s_VI (pc := 11) mX7_hasText (ci := 7) (a := b0) (As := []) dX7_find_11 lk_X7_121 in_X7_hasText mo_X7_hasText ⟨by decide, rfl⟩ ⟨by decide, by decide⟩ (Nat.le_of_ble_eq_true rfl) k_b0 (sp_X7_hasText k_b0 g_b0_2 k_b0_2 ?_)
  refine r_if_eq (pc := 14) (tgt := 27) dX7_find_14 (by decide) (fun q => ?_) (fun q => ?_)
  · have q := (b2i_z _).mp q
    have K0 := K0.1 q
    refine r_bipush (pc := 27) (v := (-2)) dX7_find_27 (by decide) ?_
    exact s_iret rfl dX7_find_29 K0
  · have q := b2i_nz q
    have K0 := K0.2 q
    refine r_iload_n (pc := 17) dX7_find_17 rfl ?_
    refine r_iconst (pc := 18) (v := 1) dX7_find_18 (by decide) ?_
    refine r_bipush (pc := 19) (v := 6) dX7_find_19 (by decide) ?_
    refine s_SI (pc := 21) mX7_isWithin (As := [.int (gi x b0 1), .int 1, .int 6]) dX7_find_21 lk_X7_113 st_X7_isWithin mo_X7_isWithin ⟨by decide, by decide⟩ (Nat.le_of_ble_eq_true rfl) (sp_X7_isWithin  ?_)
    refine r_if_ne (pc := 24) (tgt := 30) dX7_find_24 (by decide) (fun q => ?_) (fun q => ?_)
    · have q := b2i_nz q
      have K0 := K0.1 q
      refine r_iconst (pc := 30) (v := 0) dX7_find_30 (by decide) ?_
      refine r_istore_n (pc := 31) dX7_find_31 (by decide) ?_
      exact r_le (L' := [some (.ref b0), some (.int (gi x b0 1)), some (.int 0)]) ⟨rfl, ⟨rfl, ⟨rfl, trivial⟩⟩⟩ K0
    · have q := (b2i_z _).mp q
      have K0 := K0.2 q
      refine r_bipush (pc := 27) (v := (-2)) dX7_find_27 (by decide) ?_
      exact s_iret rfl dX7_find_29 K0
set_option maxHeartbeats 2000000 in
theorem v_X7_find_32 {K : Sh} {x : Cn} {Q : Int32 → Cn → Prop} {b0 : Nat} {l1 : Int32} {l2 : Int32} {b0_3 : Nat} {b0_0 : Nat} {n_b0_0 : Nat} (k_b0 : kk K b0 = some (7, 0)) (g_b0_3 : gr x b0 3 = some b0_3) (g_b0_0 : gr x b0 0 = some b0_0) (k_b0_3 : kk K b0_3 = some (1, 0)) (k_b0_0 : kk K b0_0 = some (21, n_b0_0)) (K0 : (l1 ≤ l2 → (mSI mX1_carrierNamed [.ref b0_3, .ref b0_0, .int 0, .int l1] K x (fun r_3 y_2 => Q r_3 y_2))) ∧ (¬ l1 ≤ l2 → (vp_in l2 n_b0_0 ∧ (((97 ≤ (gi x b0_0 (l2 : Int32).toNatClampNeg) ∧ (gi x b0_0 (l2 : Int32).toNatClampNeg) ≤ 122) → (GI mX7_find 32 [some (.ref b0), some (.int l1), some (.int (l2 + 1))] [] K x Q)) ∧ (¬ (97 ≤ (gi x b0_0 (l2 : Int32).toNatClampNeg) ∧ (gi x b0_0 (l2 : Int32).toNatClampNeg) ≤ 122) → (Q (-2) x)))))) : GI mX7_find 32 [some (.ref b0), some (.int l1), some (.int l2)] [] K x Q := by
  show mGM mX7_find 32 [some (.ref b0), some (.int l1), some (.int l2)] [] (hp K x) (PI K Q)
  refine r_iload_n (pc := 32) dX7_find_32 rfl ?_
  refine r_iload_n (pc := 33) dX7_find_33 rfl ?_
  refine r_icmp_ge (pc := 34) (tgt := 58) dX7_find_34 (by decide) (fun q => ?_) (fun q => ?_)
  · have K0 := K0.1 q
    refine r_aload_n (pc := 58) dX7_find_58 rfl ?_
    refine s_getR (pc := 59) dX7_find_59 fl_X7_27 rfl k_b0 g_b0_3 ?_
    refine r_aload_n (pc := 62) dX7_find_62 rfl ?_
    refine s_getR (pc := 63) dX7_find_63 fl_X7_9 rfl k_b0 g_b0_0 ?_
    refine r_iconst (pc := 66) (v := 0) dX7_find_66 (by decide) ?_
    refine r_iload_n (pc := 67) dX7_find_67 rfl ?_
    refine s_VI (pc := 68) mX1_carrierNamed (ci := 1) (a := b0_3) (As := [.ref b0_0, .int 0, .int l1]) dX7_find_68 lk_X7_128 in_X1_carrierNamed mo_X1_carrierNamed ⟨by decide, rfl⟩ ⟨by decide, by decide⟩ (Nat.le_of_ble_eq_true rfl) k_b0_3 (mSI_mono K0 (fun r_3 y_2 K0 => ?_))
    exact s_iret rfl dX7_find_71 K0
  · have K0 := K0.2 q
    refine r_aload_n (pc := 37) dX7_find_37 rfl ?_
    refine s_getR (pc := 38) dX7_find_38 fl_X7_9 rfl k_b0 g_b0_0 ?_
    refine r_iload_n (pc := 41) dX7_find_41 rfl ?_
    obtain ⟨i_4, K0⟩ := K0
    refine s_bald (pc := 42) dX7_find_42 k_b0_0 i_4 ?_
    refine s_SI (pc := 43) mX7_isLetter (As := [.int (gi x b0_0 (l2 : Int32).toNatClampNeg)]) dX7_find_43 lk_X7_125 st_X7_isLetter mo_X7_isLetter ⟨by decide, by decide⟩ (Nat.le_of_ble_eq_true rfl) (sp_X7_isLetter  ?_)
    refine r_if_ne (pc := 46) (tgt := 52) dX7_find_46 (by decide) (fun q => ?_) (fun q => ?_)
    · have q := b2i_nz q
      have K0 := K0.1 q
      refine r_iinc (pc := 52) (v := l2 + 1) dX7_find_52 rfl rfl (by decide) ?_
      refine r_goto (pc := 55) (L := [some (.ref b0), some (.int l1), some (.int (l2 + 1))]) (tgt := 32) dX7_find_55 (by decide) ?_
      exact r_le (L' := [some (.ref b0), some (.int l1), some (.int (l2 + 1))]) ⟨rfl, ⟨rfl, ⟨rfl, trivial⟩⟩⟩ K0
    · have q := (b2i_z _).mp q
      have K0 := K0.2 q
      refine r_bipush (pc := 49) (v := (-2)) dX7_find_49 (by decide) ?_
      exact s_iret rfl dX7_find_51 K0
set_option maxHeartbeats 2000000 in
theorem v_X8_find_0 {K : Sh} {x : Cn} {Q : Int32 → Cn → Prop} {b0 : Nat} {b0_1 : Nat} {n_b0_1 : Nat} (k_b0 : kk K b0 = some (8, 0)) (g_b0_1 : gr x b0 1 = some b0_1) (k_b0_1 : kk K b0_1 = some (20, n_b0_1)) (K0 : vp_in 0 n_b0_1 ∧ ((¬ (0 < gi (ui x b0 5 0) b0_1 0) → (GI mX8_find 37 [some (.ref b0), some (.int (gi x b0 5)), some (.int 0), some (.int 0)] [] K (ui x b0 5 0) Q)) ∧ ((0 < gi (ui x b0 5 0) b0_1 0) → ((¬ (1 ≤ (gi x b0 5) ∧ (gi x b0 5) ≤ 6) → (GI mX8_find 37 [some (.ref b0), some (.int (gi x b0 5)), some (.int 0), some (.int 0)] [] K (ui x b0 5 0) Q)) ∧ ((1 ≤ (gi x b0 5) ∧ (gi x b0 5) ≤ 6) → (GI mX8_find 37 [some (.ref b0), some (.int (gi x b0 5)), some (.int 1), some (.int 0)] [] K (ui x b0 5 0) Q)))))) : mSI mX8_find [.ref b0] K x Q := by
  refine s_I (by decide) (by simp [Value.category]) (Nat.le_of_ble_eq_true rfl) ?_
  show mGM mX8_find 0 [some (.ref b0), none, none, none] [] (hp K x) (PI K Q)
  refine r_aload_n (pc := 0) dX8_find_0 rfl ?_
  refine s_getI (pc := 1) dX8_find_1 fl_X8_94 rfl k_b0 ?_
  refine r_istore_n (pc := 4) dX8_find_4 (by decide) ?_
  refine r_aload_n (pc := 5) (L := [some (.ref b0), some (.int (gi x b0 5)), none, none]) dX8_find_5 rfl ?_
  refine r_iconst (pc := 6) (v := 0) dX8_find_6 (by decide) ?_
  refine s_putI (pc := 7) dX8_find_7 fl_X8_94 rfl rfl k_b0 ?_
  refine r_aload_n (pc := 10) dX8_find_10 rfl ?_
  obtain ⟨i_1, K0⟩ := K0
  refine s_VI (pc := 11) mX8_isThere (ci := 8) (a := b0) (As := []) dX8_find_11 lk_X8_49 in_X8_isThere mo_X8_isThere ⟨by decide, rfl⟩ ⟨by decide, by decide⟩ (Nat.le_of_ble_eq_true rfl) k_b0 (sp_X8_isThere k_b0 g_b0_1 k_b0_1 i_1 ?_)
  refine r_if_eq (pc := 14) (tgt := 33) dX8_find_14 (by decide) (fun q => ?_) (fun q => ?_)
  · have q := (b2i_z _).mp q
    have K0 := K0.1 q
    refine r_iconst (pc := 33) (v := 0) dX8_find_33 (by decide) ?_
    refine r_istore_n (pc := 34) dX8_find_34 (by decide) ?_
    refine r_iconst (pc := 35) (L := [some (.ref b0), some (.int (gi x b0 5)), some (.int 0), none]) (v := 0) dX8_find_35 (by decide) ?_
    refine r_istore_n (pc := 36) dX8_find_36 (by decide) ?_
    exact r_le (L' := [some (.ref b0), some (.int (gi x b0 5)), some (.int 0), some (.int 0)]) ⟨rfl, ⟨rfl, ⟨rfl, ⟨rfl, trivial⟩⟩⟩⟩ K0
  · have q := b2i_nz q
    have K0 := K0.2 q
    refine r_iload_n (pc := 17) dX8_find_17 rfl ?_
    refine r_i2l (pc := 18) dX8_find_18 ?_
    refine r_lconst (pc := 19) (v := 1) dX8_find_19 (by decide) ?_
    refine r_ldc2 (pc := 20) (v := 6) dX8_find_20 cn_X8_53 ?_
    refine s_SI (pc := 23) mX8_in (As := [.long (((gi x b0 5) : Int32).toInt64), .long 1, .long 6]) dX8_find_23 lk_X8_45 st_X8_in mo_X8_in ⟨by decide, by decide⟩ (Nat.le_of_ble_eq_true rfl) (sq_X8_in (v := (gi x b0 5)) (lo := 1) (hi := 6) rfl (by decide) (by decide) ?_)
    refine r_if_eq (pc := 26) (tgt := 33) dX8_find_26 (by decide) (fun q => ?_) (fun q => ?_)
    · have q := (b2i_z _).mp q
      have K0 := K0.1 q
      refine r_iconst (pc := 33) (v := 0) dX8_find_33 (by decide) ?_
      refine r_istore_n (pc := 34) dX8_find_34 (by decide) ?_
      refine r_iconst (pc := 35) (L := [some (.ref b0), some (.int (gi x b0 5)), some (.int 0), none]) (v := 0) dX8_find_35 (by decide) ?_
      refine r_istore_n (pc := 36) dX8_find_36 (by decide) ?_
      exact r_le (L' := [some (.ref b0), some (.int (gi x b0 5)), some (.int 0), some (.int 0)]) ⟨rfl, ⟨rfl, ⟨rfl, ⟨rfl, trivial⟩⟩⟩⟩ K0
    · have q := b2i_nz q
      have K0 := K0.2 q
      refine r_iconst (pc := 29) (v := 1) dX8_find_29 (by decide) ?_
      refine r_goto (pc := 30) (tgt := 34) dX8_find_30 (by decide) ?_
      refine r_istore_n (pc := 34) dX8_find_34 (by decide) ?_
      refine r_iconst (pc := 35) (L := [some (.ref b0), some (.int (gi x b0 5)), some (.int 1), none]) (v := 0) dX8_find_35 (by decide) ?_
      refine r_istore_n (pc := 36) dX8_find_36 (by decide) ?_
      exact r_le (L' := [some (.ref b0), some (.int (gi x b0 5)), some (.int 1), some (.int 0)]) ⟨rfl, ⟨rfl, ⟨rfl, ⟨rfl, trivial⟩⟩⟩⟩ K0
set_option maxHeartbeats 2000000 in
theorem v_X8_find_37 {K : Sh} {x : Cn} {Q : Int32 → Cn → Prop} {b0 : Nat} {l1 : Int32} {l2 : Int32} {l3 : Int32} {b0_4 : Nat} {n_b0_4 : Nat} (k_b0 : kk K b0 = some (8, 0)) (g_b0_4 : gr x b0 4 = some b0_4) (k_b0_4 : kk K b0_4 = some (21, n_b0_4)) (K0 : (l1 ≤ l3 → ((l2 = 0 → (Q (-2) x)) ∧ (¬ l2 = 0 → (mSI mX8_packed [.ref b0, .int 0, .int l1] K x (fun r_4 y_3 => mSI mX8_findName [.ref b0, .int r_4] K y_3 (fun r_6 y_5 => Q r_6 y_5)))))) ∧ (¬ l1 ≤ l3 → ((l2 = 0 → ((l2 = 0 → (Q (-2) x)) ∧ (¬ l2 = 0 → (mSI mX8_packed [.ref b0, .int 0, .int l1] K x (fun r_10 y_9 => mSI mX8_findName [.ref b0, .int r_10] K y_9 (fun r_12 y_11 => Q r_12 y_11)))))) ∧ (¬ l2 = 0 → (vp_in l3 n_b0_4 ∧ (∀ r_14 : Int32, r_14 = (b2i (97 ≤ (gi x b0_4 (l3 : Int32).toNatClampNeg) ∧ (gi x b0_4 (l3 : Int32).toNatClampNeg) ≤ 122)) → (GI mX8_find 37 [some (.ref b0), some (.int l1), some (.int r_14), some (.int (l3 + 1))] [] K x Q))))))) : GI mX8_find 37 [some (.ref b0), some (.int l1), some (.int l2), some (.int l3)] [] K x Q := by
  show mGM mX8_find 37 [some (.ref b0), some (.int l1), some (.int l2), some (.int l3)] [] (hp K x) (PI K Q)
  refine r_iload_n (pc := 37) dX8_find_37 rfl ?_
  refine r_iload_n (pc := 38) dX8_find_38 rfl ?_
  refine r_icmp_ge (pc := 39) (tgt := 69) dX8_find_39 (by decide) (fun q => ?_) (fun q => ?_)
  · have K0 := K0.1 q
    refine r_iload_n (pc := 69) dX8_find_69 rfl ?_
    refine r_if_eq (pc := 70) (tgt := 86) dX8_find_70 (by decide) (fun q => ?_) (fun q => ?_)
    · have K0 := K0.1 q
      refine r_bipush (pc := 86) (v := (-2)) dX8_find_86 (by decide) ?_
      exact s_iret rfl dX8_find_88 K0
    · have K0 := K0.2 q
      refine r_aload_n (pc := 73) dX8_find_73 rfl ?_
      refine r_aload_n (pc := 74) dX8_find_74 rfl ?_
      refine r_iconst (pc := 75) (v := 0) dX8_find_75 (by decide) ?_
      refine r_iload_n (pc := 76) dX8_find_76 rfl ?_
      refine s_VI (pc := 77) mX8_packed (ci := 8) (a := b0) (As := [.int 0, .int l1]) dX8_find_77 lk_X8_204 in_X8_packed mo_X8_packed ⟨by decide, rfl⟩ ⟨by decide, by decide⟩ (Nat.le_of_ble_eq_true rfl) k_b0 (mSI_mono K0 (fun r_4 y_3 K0 => ?_))
      refine s_VI (pc := 80) mX8_findName (ci := 8) (a := b0) (As := [.int r_4]) dX8_find_80 lk_X8_224 in_X8_findName mo_X8_findName ⟨by decide, rfl⟩ ⟨by decide, by decide⟩ (Nat.le_of_ble_eq_true rfl) k_b0 (mSI_mono K0 (fun r_6 y_5 K0 => ?_))
      refine r_goto (pc := 83) (tgt := 88) dX8_find_83 (by decide) ?_
      exact s_iret rfl dX8_find_88 K0
  · have K0 := K0.2 q
    refine r_iload_n (pc := 42) dX8_find_42 rfl ?_
    refine r_if_eq (pc := 43) (tgt := 69) dX8_find_43 (by decide) (fun q => ?_) (fun q => ?_)
    · have K0 := K0.1 q
      refine r_iload_n (pc := 69) dX8_find_69 rfl ?_
      refine r_if_eq (pc := 70) (tgt := 86) dX8_find_70 (by decide) (fun q => ?_) (fun q => ?_)
      · have K0 := K0.1 q
        refine r_bipush (pc := 86) (v := (-2)) dX8_find_86 (by decide) ?_
        exact s_iret rfl dX8_find_88 K0
      · have K0 := K0.2 q
        refine r_aload_n (pc := 73) dX8_find_73 rfl ?_
        refine r_aload_n (pc := 74) dX8_find_74 rfl ?_
        refine r_iconst (pc := 75) (v := 0) dX8_find_75 (by decide) ?_
        refine r_iload_n (pc := 76) dX8_find_76 rfl ?_
        refine s_VI (pc := 77) mX8_packed (ci := 8) (a := b0) (As := [.int 0, .int l1]) dX8_find_77 lk_X8_204 in_X8_packed mo_X8_packed ⟨by decide, rfl⟩ ⟨by decide, by decide⟩ (Nat.le_of_ble_eq_true rfl) k_b0 (mSI_mono K0 (fun r_10 y_9 K0 => ?_))
        refine s_VI (pc := 80) mX8_findName (ci := 8) (a := b0) (As := [.int r_10]) dX8_find_80 lk_X8_224 in_X8_findName mo_X8_findName ⟨by decide, rfl⟩ ⟨by decide, by decide⟩ (Nat.le_of_ble_eq_true rfl) k_b0 (mSI_mono K0 (fun r_12 y_11 K0 => ?_))
        refine r_goto (pc := 83) (tgt := 88) dX8_find_83 (by decide) ?_
        exact s_iret rfl dX8_find_88 K0
    · have K0 := K0.2 q
      refine r_aload_n (pc := 46) dX8_find_46 rfl ?_
      refine s_getR (pc := 47) dX8_find_47 fl_X8_19 rfl k_b0 g_b0_4 ?_
      refine r_iload_n (pc := 50) dX8_find_50 rfl ?_
      obtain ⟨i_13, K0⟩ := K0
      refine s_bald (pc := 51) dX8_find_51 k_b0_4 i_13 ?_
      refine r_i2l (pc := 52) dX8_find_52 ?_
      refine r_ldc2 (pc := 53) (v := 97) dX8_find_53 cn_X8_122 ?_
      refine r_ldc2 (pc := 56) (v := 122) dX8_find_56 cn_X8_124 ?_
      refine s_SI (pc := 59) mX8_in (As := [.long (((gi x b0_4 (l3 : Int32).toNatClampNeg) : Int32).toInt64), .long 97, .long 122]) dX8_find_59 lk_X8_45 st_X8_in mo_X8_in ⟨by decide, by decide⟩ (Nat.le_of_ble_eq_true rfl) (sq_X8_in (v := (gi x b0_4 (l3 : Int32).toNatClampNeg)) (lo := 97) (hi := 122) rfl (by decide) (by decide) ?_)
      obtain ⟨r_14, w_15⟩ : ∃ z : Int32, z = (b2i (97 ≤ (gi x b0_4 (l3 : Int32).toNatClampNeg) ∧ (gi x b0_4 (l3 : Int32).toNatClampNeg) ≤ 122)) := ⟨_, rfl⟩
      rw [← w_15]
      have K0 := K0 r_14 w_15
      refine r_istore_n (pc := 62) dX8_find_62 (by decide) ?_
      refine r_iinc (pc := 63) (L := [some (.ref b0), some (.int l1), some (.int r_14), some (.int l3)]) (v := l3 + 1) dX8_find_63 rfl rfl (by decide) ?_
      refine r_goto (pc := 66) (L := [some (.ref b0), some (.int l1), some (.int r_14), some (.int (l3 + 1))]) (tgt := 37) dX8_find_66 (by decide) ?_
      exact r_le (L' := [some (.ref b0), some (.int l1), some (.int r_14), some (.int (l3 + 1))]) ⟨rfl, ⟨rfl, ⟨rfl, ⟨rfl, trivial⟩⟩⟩⟩ K0
theorem eq_feed (a b c d e : Int32) : Both mX7_feed mX8_feed [.int a, .int b, .int c, .int d, .int e] := by
  intro x R
  obtain ⟨n, hn, t1, t2, t3⟩ := R.2.2.2.1
  have i20 : nI n + 20 = nI (n + 20) := nI_add n 20
  have hle : (nI n + 20 ≤ 1200) ↔ n + 20 ≤ 1200 := by rw [i20]; exact nI_leI (b := 1200) (by omega) (by decide)
  refine v_X7_feed_0 k0 ?_
  rw [t1, hle]
  refine ⟨fun z => ?_, fun z => v_X8_feed_0 km ⟨fun u => absurd (by rw [t2, hle] at u; exact u) z, fun _ => ⟨rfl, R⟩⟩⟩
  have c0 : CT x (gi x 720) n := ⟨t1, fun i hi => (t3 i hi).1⟩
  have r0 : RT x (gi x 720) n := ⟨t2, fun i hi => rfl⟩
  have cg : ∀ y : Cn, CTf x y → gr y 0 0 = some 1 := fun y fy => by unfold gr; rw [fy.1]; exact R.1.1
  refine sp_X7_putOnTape R.1.1 c0 (by omega) (fun y1 f1 w1 => sp_X7_putOnTape (cg y1 f1) w1 (by omega) (fun y2 f2 w2 => sp_X7_putOnTape (cg y2 (f1.tr f2)) w2 (by omega) (fun y3 f3 w3 => sp_X7_putOnTape (cg y3 (f1.tr (f2.tr f3))) w3 (by omega) (fun y4 f4 w4 => sp_X7_putOnTape (cg y4 (f1.tr (f2.tr (f3.tr f4)))) w4 (by omega) (fun y5 f5 w5 => ?_)))))
  have F5 : CTf x y5 := f1.tr (f2.tr (f3.tr (f4.tr f5)))
  rw [w5.1]
  have M5 : MRf y5 718 := R.2.1.keep F5.1
  have r5 : RT y5 (gi x 720) n := ⟨(F5.2 717 5 (by decide) (by omega)).trans t2, fun i hi => F5.2 720 i (by decide) (by omega)⟩
  refine v_X8_feed_0 km ⟨fun _ => ?_, fun u => absurd (by rw [r5.1, hle]; exact z) u⟩
  have mg : ∀ y : Cn, RTf y5 y → MRf y 718 := fun y fy => M5.keep fy.1
  refine sp_X8_puts4 M5 r5 (by omega) (fun z1 g1 v1 => sp_X8_puts4 (mg z1 g1) v1 (by omega) (fun z2 g2 v2 => sp_X8_puts4 (mg z2 (g1.tr g2)) v2 (by omega) (fun z3 g3 v3 => sp_X8_puts4 (mg z3 (g1.tr (g2.tr g3))) v3 (by omega) (fun z4 g4 v4 => sp_X8_puts4 (mg z4 (g1.tr (g2.tr (g3.tr g4)))) v4 (by omega) (fun z5 g5 v5 => ?_)))))
  have G5 : RTf y5 z5 := g1.tr (g2.tr (g3.tr (g4.tr g5)))
  rw [v5.1]
  refine ⟨rfl, R.tape (G5.1.trans F5.1) (fun a j a1 a2 a3 a4 => (G5.2 a j a3 a4).trans (F5.2 a j a1 a2)) ⟨n + 4 + 4 + 4 + 4 + 4, by omega, ?_, v5.1, fun i hi => ?_⟩⟩
  · rw [G5.2 0 1 (by decide) (by omega)]; exact w5.1
  · rw [G5.2 1 i (by decide) (by omega), w5.2 i hi, v5.2 i hi]
    exact ⟨rfl, uB_is (uB_is (uB_is (uB_is (uB_is (fun i hi => (t3 i hi).2))))) i hi⟩
theorem eq_find : Both mX7_find mX8_find [] := by
  intro x R
  obtain ⟨n, hn, t1, t2, t3⟩ := R.2.2.2.1
  obtain ⟨W, C, S, A, N, E, nm, -⟩ := R.sea
  have hm := E.nums
  have hC : C ≤ 8 := hm.2.2.2.2.2.1
  have t0 := (Rel.t2 E).1
  have tC := (Rel.t2 E).2.1
  have kn : kk KW 56 = some (1, 0) := by decide
  have er : (ui (ui x 0 1 0) 717 5 0).2 = x.2 := rfl
  have eq : ∀ a j, ¬ (a = 0 ∧ j = 1) → ¬ (a = 717 ∧ j = 5) → gi (ui (ui x 0 1 0) 717 5 0) a j = gi x a j := fun a j a2 a4 => by rw [gi_ui, if_neg a4, gi_ui, if_neg a2]
  have Rz : Rel (ui (ui x 0 1 0) 717 5 0) := R.tape er (fun a j a1 a2 a3 a4 => eq a j a2 a4) ⟨0, by decide, by rw [gi_ui, if_neg (by omega), gi_ui, if_pos ⟨rfl, rfl⟩]; rfl, by rw [gi_ui, if_pos ⟨rfl, rfl⟩]; rfl, fun i hi => absurd hi (Nat.not_lt_zero _)⟩
  have My : MRf (ui x 0 1 0) 718 := R.2.1.keep rfl
  have Mz : MRf (ui (ui x 0 1 0) 717 5 0) 718 := R.2.1.keep rfl
  have e5 : gi (ui x 0 1 0) 717 5 = nI n := by rw [gi_ui, if_neg (by omega)]; exact t2
  have tz : ∀ i, gi (ui (ui x 0 1 0) 717 5 0) 718 i = gi x 718 i := fun i => eq 718 i (by omega) (by omega)
  have bz : gi (ui (ui x 0 1 0) 717 5 0) 720 = gi x 720 := funext (fun i => eq 720 i (by omega) (by omega))
  have hin : (1 ≤ nI n ∧ nI n ≤ 6) ↔ (1 ≤ n ∧ n ≤ 6) := by
    rw [show (1 ≤ nI n) ↔ 1 ≤ n from nI_leI (a := 1) (by decide) (by omega), show (nI n ≤ 6) ↔ n ≤ 6 from nI_leI (b := 6) (by omega) (by decide)]
  -- the reference, when it is no name
  have bad : (¬ (0 < nI W) ∨ ¬ (1 ≤ n ∧ n ≤ 6)) → mSI mX8_find [.ref 717] KW (ui x 0 1 0) (fun r' z => -2 = r' ∧ Rel z) := by
    intro hb
    have g37 : GI mX8_find 37 [some (.ref 717), some (.int (nI n)), some (.int 0), some (.int 0)] [] KW (ui (ui x 0 1 0) 717 5 0) (fun r' z => -2 = r' ∧ Rel z) := v_X8_find_37 km Mz.2.2.2.1 km720 ⟨fun _ => ⟨fun _ => ⟨rfl, Rz⟩, fun u => absurd rfl u⟩, fun _ => ⟨fun _ => ⟨fun _ => ⟨rfl, Rz⟩, fun u => absurd rfl u⟩, fun u => absurd rfl u⟩⟩
    refine v_X8_find_0 km My.1 km1 ?_
    rw [e5, tz 0, t0, hin]
    exact ⟨v0 (k := 0) (by decide) rfl rfl, fun _ => g37, fun u1 => ⟨fun _ => g37, fun u2 => absurd u2 (hb.elim (fun z => absurd u1 z) id)⟩⟩
  refine v_X7_find_0 k0 R.1.2.1 (ks0 E.1) ?_
  rw [t1, show gi (ui x 0 1 0) 2 0 = nI W by rw [gi_ui, if_neg (by omega)]; exact hm.1, hin]
  refine ⟨fun z => bad (Or.inl z), fun z1 => ⟨fun z2 => ?_, fun z => bad (Or.inr z)⟩⟩
  have by1 : ∀ i, i < n → gi (ui x 0 1 0) 1 i = gi x 720 i := fun i hi => by rw [gi_ui, if_neg (by omega)]; exact (t3 i hi).1
  have cR : CRf (ui x 0 1 0) := R.1.keep rfl
  -- the reference's walk over the letters
  have ref : ∀ Q : Int32 → Cn → Prop, GI mX8_find 37 [some (.ref 717), some (.int (nI n)), some (.int 1), some (.int 0)] [] KW (ui (ui x 0 1 0) 717 5 0) Q → mSI mX8_find [.ref 717] KW (ui x 0 1 0) Q := by
    intro Q g
    refine v_X8_find_0 km My.1 km1 ?_
    rw [e5, tz 0, t0, hin]
    exact ⟨v0 (k := 0) (by decide) rfl rfl, fun u => absurd z1 u, fun _ => ⟨fun u => absurd z2 u, fun _ => g⟩⟩
  by_cases hl : ∀ i, i < n → (97 ≤ gi x 720 i ∧ gi x 720 i ≤ 122)
  · have lt : ltr (gi x 720) 0 n := fun i _ hi => by
      have := hl i hi
      obtain ⟨m, h1, h2⟩ := nI_of2 (M := 122) (n := 122) (by decide) (Int32.not_lt.mpr (Int32.le_trans (by decide) this.1)) this.2
      refine ⟨m, ?_, h1, h2⟩
      have g := this.1
      rw [h2] at g
      exact (nI_leI (a := 97) (by decide) (by omega)).mp g
    have lt1 : ltr (gi (ui x 0 1 0) 1) 0 n := fun i h0 hi => by rw [by1 i hi]; exact lt i h0 hi
    have pe : pkv (gi (ui x 0 1 0) 1) 0 n = pkv (gi x 720) 0 n := by
      have : ∀ i, bd (gi (ui x 0 1 0) 1) 0 n i = bd (gi x 720) 0 n i := fun i => by
        unfold bd
        by_cases c : 0 + i < n
        · rw [if_pos c, if_pos c, by1 _ c]
        · rw [if_neg c, if_neg c]
      rw [pkv_6, pkv_6, this, this, this, this, this, this]
    have key : ∀ r i, i + r = n → GI mX7_find 32 [some (.ref 0), some (.int (nI n)), some (.int (nI i))] [] KW (ui x 0 1 0) (fun r y => mSI mX8_find [.ref 717] KW y (fun r' z => r = r' ∧ Rel z)) := by
      intro r
      induction r with
      | zero =>
        intro i hi
        have : i = n := by omega
        subst this
        refine v_X7_find_32 k0 cR.2.2.1 cR.1 kn k1t ⟨fun _ => sp_X1_carrierNamed (T := gi x 718) (C := C) (fr := 0) kn cR.2.2.2.2.2.2.2.1 (by decide) k1t hC (nm.keep (by rw [gi_ui, if_neg (by omega)]) (fun j => by rw [gi_ui, if_neg (by omega)]) (fun _ _ => rfl)) lt1 (by omega) (by omega) (by decide) ?_, fun z => absurd (Int32.le_refl _) z⟩
        rw [pe]
        refine ref _ ?_
        have k2 : ∀ r j, j + r = i → GI mX8_find 37 [some (.ref 717), some (.int (nI i)), some (.int 1), some (.int (nI j))] [] KW (ui (ui x 0 1 0) 717 5 0) (fun r' z => fnd (gi x 718) C (pkv (gi x 720) 0 i) = r' ∧ Rel z) := by
          intro r
          induction r with
          | zero =>
            intro j hj
            have : j = i := by omega
            subst this
            refine v_X8_find_37 km Mz.2.2.2.1 km720 ⟨fun _ => ⟨fun u => absurd u (by decide), fun _ => sp_X8_packed (fr := 0) Mz (by rw [bz]; exact lt) (by omega) (by omega) (sp_X8_findName Mz km1 (by rw [tz]; exact tC) hC ⟨?_, Rz⟩)⟩, fun z => absurd (Int32.le_refl _) z⟩
            rw [bz, show gi (ui (ui x 0 1 0) 717 5 0) 718 = gi x 718 from funext tz]
          | succ r ih =>
            intro j hj
            refine v_X8_find_37 km Mz.2.2.2.1 km720 ⟨fun z => absurd z (nI_ge (by omega) (by omega)), fun _ => ⟨fun u => absurd u (by decide), fun _ => ⟨vp_in_nI (by omega) (by decide), fun q hq => ?_⟩⟩⟩
            rw [nI_clamp (by omega), bz, b2i_t (hl j (by omega))] at hq
            rw [hq, nI_1]
            exact ih (j + 1) (by omega)
        exact k2 i 0 (by omega)
      | succ r ih =>
        intro i hi
        refine v_X7_find_32 k0 cR.2.2.1 cR.1 kn k1t ⟨fun z => absurd z (nI_ge (by omega) (by omega)), fun _ => ⟨vp_in_nI (by omega) (by decide), ?_⟩⟩
        rw [nI_clamp (by omega), by1 i (by omega), nI_1]
        exact ⟨fun _ => ih (i + 1) (by omega), fun z => absurd (hl i (by omega)) z⟩
    exact key n 0 (by omega)
  · have fin : mSI mX8_find [.ref 717] KW (ui x 0 1 0) (fun r' z => -2 = r' ∧ Rel z) := by
      refine ref _ ?_
      have g0 : ∀ j, GI mX8_find 37 [some (.ref 717), some (.int (nI n)), some (.int 0), some (.int (nI j))] [] KW (ui (ui x 0 1 0) 717 5 0) (fun r' z => -2 = r' ∧ Rel z) := fun j => v_X8_find_37 km Mz.2.2.2.1 km720 ⟨fun _ => ⟨fun _ => ⟨rfl, Rz⟩, fun u => absurd rfl u⟩, fun _ => ⟨fun _ => ⟨fun _ => ⟨rfl, Rz⟩, fun u => absurd rfl u⟩, fun u => absurd rfl u⟩⟩
      have k2 : ∀ r j, j + r = n → (∀ i, i < j → (97 ≤ gi x 720 i ∧ gi x 720 i ≤ 122)) → GI mX8_find 37 [some (.ref 717), some (.int (nI n)), some (.int 1), some (.int (nI j))] [] KW (ui (ui x 0 1 0) 717 5 0) (fun r' z => -2 = r' ∧ Rel z) := by
        intro r
        induction r with
        | zero => intro j hj h; exact absurd (fun i hi => h i (by omega)) hl
        | succ r ih =>
          intro j hj h
          refine v_X8_find_37 km Mz.2.2.2.1 km720 ⟨fun z => absurd z (nI_ge (by omega) (by omega)), fun _ => ⟨fun u => absurd u (by decide), fun _ => ⟨vp_in_nI (by omega) (by decide), fun q hq => ?_⟩⟩⟩
          rw [nI_clamp (by omega), bz] at hq
          rw [nI_1]
          by_cases c : 97 ≤ gi x 720 j ∧ gi x 720 j ≤ 122
          · rw [b2i_t c] at hq
            rw [hq]
            refine ih (j + 1) (by omega) (fun i hi => ?_)
            by_cases ci : i = j
            · rw [ci]; exact c
            · exact h i (by omega)
          · rw [b2i_f c] at hq
            rw [hq]
            exact g0 (j + 1)
      exact k2 n 0 (by omega) (fun i hi => by omega)
    have key : ∀ r i, i + r = n → (∀ j, j < i → (97 ≤ gi x 720 j ∧ gi x 720 j ≤ 122)) → GI mX7_find 32 [some (.ref 0), some (.int (nI n)), some (.int (nI i))] [] KW (ui x 0 1 0) (fun r y => mSI mX8_find [.ref 717] KW y (fun r' z => r = r' ∧ Rel z)) := by
      intro r
      induction r with
      | zero => intro i hi h; exact absurd (fun j hj => h j (by omega)) hl
      | succ r ih =>
        intro i hi h
        refine v_X7_find_32 k0 cR.2.2.1 cR.1 kn k1t ⟨fun z => absurd z (nI_ge (by omega) (by omega)), fun _ => ⟨vp_in_nI (by omega) (by decide), ?_⟩⟩
        rw [nI_clamp (by omega), by1 i (by omega), nI_1]
        refine ⟨fun c => ih (i + 1) (by omega) (fun j hj => ?_), fun _ => fin⟩
        by_cases ci : j = i
        · rw [ci]; exact c
        · exact h j (by omega)
    exact key n 0 (by omega) (fun j hj => by omega)
end

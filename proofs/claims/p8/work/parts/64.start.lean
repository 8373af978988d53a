def mFp : List Nat := [9, 86, 95, 104, 110, 121, 131, 209, 216, 223, 230, 236, 246, 256, 263, 275, 282, 289, 296, 303, 310, 317, 324, 335, 343, 351, 359, 366, 376, 386, 394, 406, 417, 426, 435, 440, 448]
def mSr : List Nat := [538, 1223, 1248, 1249, 1250, 1260, 1265, 1266, 1271, 1276, 1277, 1393, 1432, 1441, 1442, 1462, 1463, 1464, 1465, 1466, 1467, 1468, 1469, 1470, 1471, 1472, 1473, 1923, 1936, 1937, 1938, 1943, 1948, 1949, 1950, 1951, 1952]
def mTm (q : String × Nat × String × List Int32) : Term := .string q.1 q.2.1
def mTv (q : String × Nat × String × List Int32) : Term := .field (mTm q) "java/lang/String" "value" "[B"
def mBlk (q : String × Nat × String × List Int32) : List Cond := Cond.exactly (mTm q) "java/lang/String" :: Cond.eq (.field (mTm q) "java/lang/String" "coder" "B") (.int 0) :: Cond.arrayOf (mTv q) .byte :: Cond.eq (.length (mTv q)) (.int (Int32.ofNat q.2.2.2.length)) :: (List.range q.2.2.2.length).map (fun j => Cond.eq (.elem (mTv q) (.int (Int32.ofNat j))) (.int (q.2.2.2.getD j 0)))
theorem mS_len : mS.length = 37 := by decide +kernel
theorem mBlk_all : (List.range 37).all (fun i => decide (((flatC (Cond.and given_1 narrow_1)).drop (mFp.getD i 0)).take (mBlk (mSq i)).length = mBlk (mSq i))) = true := by decide +kernel
theorem mSr_all : (List.range 37).all (fun i => decide (lw_tbl[mSr.getD i 0]? = some (Cond.stringRef (mSq i).1 (mSq i).2.1 (mSq i).2.2.1) ∧ (mSq i).2.2.2.length < 2 ^ 31)) = true := by decide +kernel
def mNp : List Nat := [159, 228, 339, 356, 363, 426, 453, 531, 587, 611, 630, 666, 673, 680, 698, 804, 1001, 1024, 1068, 1232, 1233]
theorem mNst_all : (List.range 21).all (fun i => decide (∃ q ∈ mNst[i]?, lw_tbl[mNp.getD i 0]? = some (Cond.methodLinkNest q.1 q.2.1 q.2.2.1 q.2.2.2))) = true := by decide +kernel
theorem mNst_len : mNst.length = 21 := by decide
theorem w_lc : Cond.laysStatic "java/lang/String" "COMPACT_STRINGS" "Z" ∈ lw_tbl := List.mem_of_getElem? (i := 548) (by decide +kernel)
theorem w_ls : Cond.laysStatic mFm.1 mFm.2.1 mFm.2.2 ∈ lw_tbl := List.mem_of_getElem? (i := 564) (by decide +kernel)
theorem w_ic : Cond.initialized "java/lang/String" ∈ lw_tbl := List.mem_of_getElem? (i := 135) (by decide +kernel)
theorem w_is : Cond.initialized mFm.1 ∈ lw_tbl := List.mem_of_getElem? (i := 137) (by decide +kernel)
theorem w_aoX4 : Cond.arrayOver (.object RX4) ∈ lw_tbl := List.mem_of_getElem? (i := 353) (by decide +kernel)
theorem w_aoX5 : Cond.arrayOver (.object RX5) ∈ lw_tbl := List.mem_of_getElem? (i := 155) (by decide +kernel)
theorem w_aoX0 : Cond.arrayOver (.object RX0) ∈ lw_tbl := List.mem_of_getElem? (i := 157) (by decide +kernel)
theorem f_cs : Cond.eq (.static "java/lang/String" "COMPACT_STRINGS" "Z") (.int 1) ∈ flatC (Cond.and given_1 narrow_1) := List.mem_of_getElem? (i := 4) (by decide +kernel)
theorem f_fm : Cond.isRef (.static mFm.1 mFm.2.1 mFm.2.2) ∈ flatC (Cond.and given_1 narrow_1) := List.mem_of_getElem? (i := 5) (by decide +kernel)
theorem all_r {n : Nat} {f : Nat → Bool} (h : (List.range n).all f = true) {i : Nat} (hi : i < n) : f i = true := List.all_eq_true.mp h i (List.mem_range.mpr hi)
theorem mSq_of {i : Nat} {q : String × Nat × String × List Int32} (h : mS[i]? = some q) : i < 37 ∧ mSq i = q := by
  have hl := (List.getElem?_eq_some_iff.mp h).1
  rw [mS_len] at hl
  refine ⟨hl, ?_⟩
  unfold mSq
  rw [List.getD_eq_getElem?_getD, h]
  rfl
theorem mBlk_in {i : Nat} (hi : i < 37) {w : Cond} (hw : w ∈ mBlk (mSq i)) : w ∈ flatC (Cond.and given_1 narrow_1) := by
  have h := of_decide_eq_true (all_r mBlk_all hi)
  rw [← h] at hw
  exact List.mem_of_mem_drop (List.mem_of_mem_take hw)
/-- String constants, links and statics at the start -/
theorem mSK_start {s : State} {args : Array Value} {A : Nat → Prop} (hts : ∀ w ∈ lw_tbl, w.before args s = true) (hgv : (Cond.and given_1 narrow_1).before args s = true) (hA : ∀ a : Nat, a < s.heap.size → ¬ A a) (b : Nat) : ∃ ad : Nat → Nat, mSK ad A s ∧ ad (mSB + 950) = b := by
  have hs := flat_of_before _ hgv
  have h0 : ∀ i : Nat, ∃ t : Nat × Nat, ∀ q : String × Nat × String × List Int32, mS[i]? = some q → vk_R q.1 q.2.1 q.2.2.1 t.1 s ∧ va_O "java/lang/String" t.1 A s s.heap ∧ va_OF "java/lang/String" "coder" "B" (.int 0) t.1 A s s.heap ∧ va_OF "java/lang/String" "value" "[B" (.ref t.2) t.1 A s s.heap ∧ va_T .byte t.2 q.2.2.2.length (fun j => .int (q.2.2.2.getD j 0)) A s s.heap := by
    intro i
    cases hq : mS[i]? with
    | none => exact ⟨(0, 0), fun q h => by cases h⟩
    | some q =>
      obtain ⟨hi, eq⟩ := mSq_of hq
      have hin : ∀ w ∈ mBlk q, w.before args s = true := fun w hw => hs w (mBlk_in hi (by rw [eq]; exact hw))
      obtain ⟨hr, hlen⟩ := of_decide_eq_true (all_r mSr_all hi)
      rw [eq] at hr hlen
      obtain ⟨a, c, cA, kA, q1, q2, q3, q4, q5, q6, -⟩ := Cond.exactly_spec (args := args) (first := s) (o := none) (s := s) (idx := []) (t := mTm q) (cls := "java/lang/String") (hin _ List.mem_cons_self)
      have m1 : Cond.eq (.field (mTm q) "java/lang/String" "coder" "B") (.int 0) ∈ mBlk q := List.mem_cons_of_mem _ List.mem_cons_self
      have m2 : Cond.arrayOf (mTv q) .byte ∈ mBlk q := List.mem_cons_of_mem _ (List.mem_cons_of_mem _ List.mem_cons_self)
      have m3 : Cond.eq (.length (mTv q)) (.int (Int32.ofNat q.2.2.2.length)) ∈ mBlk q := List.mem_cons_of_mem _ (List.mem_cons_of_mem _ (List.mem_cons_of_mem _ List.mem_cons_self))
      have m4 : ∀ j, j < q.2.2.2.length → Cond.eq (.elem (mTv q) (.int (Int32.ofNat j))) (.int (q.2.2.2.getD j 0)) ∈ mBlk q := fun j hj => List.mem_cons_of_mem _ (List.mem_cons_of_mem _ (List.mem_cons_of_mem _ (List.mem_cons_of_mem _ (List.mem_map.mpr ⟨j, List.mem_range.mpr hj, rfl⟩))))
      obtain ⟨t, ht, hT⟩ := va_Tof (f := fun j => .int (q.2.2.2.getD j 0)) (A := A) hlen (hin _ m2) (va_eqt (hin _ m3)) (fun j hj => va_eqt (hin _ (m4 j hj))) hA
      refine ⟨(a, t), fun q' h => ?_⟩
      cases h
      exact ⟨vk_R.of (hts _ (List.mem_of_getElem? hr)) q1, ⟨cA, q3, q5, by rw [q6]; exact q2, hA a (Array.getElem?_eq_some_iff.mp q3).1⟩, vk_OFof q1 (va_eqt (hin _ m1)) hA, vk_OFof q1 ht hA, hT⟩
  obtain ⟨f, hf⟩ := Classical.axiomOfChoice h0
  have hfm := va_Zqof (A := A) (hts _ w_ls) (hts _ w_is) (hs _ f_fm) hA
  obtain ⟨fm, hfm⟩ : ∃ fm : Nat, va_Z mFm.1 mFm.2.1 mFm.2.2 .null A s s.heap ∨ va_Z mFm.1 mFm.2.1 mFm.2.2 (.ref fm) A s s.heap := by
    rcases hfm with h | ⟨t, h⟩
    · exact ⟨0, Or.inl h⟩
    · exact ⟨t, Or.inr h⟩
  refine ⟨fun a => if a < mSB + 100 then (f (a - mSB)).1 else if a < mSB + 200 then (f (a - (mSB + 100))).2 else if a < mSB + 901 then fm else b, ⟨va_Zof (hts _ w_lc) (hts _ w_ic) (va_eqt (hs _ f_cs)) hA, fun q hq => ?_, fun i q hq => ?_, ?_, va_AO.of (hts _ w_aoX4), va_AO.of (hts _ w_aoX5), va_AO.of (hts _ w_aoX0)⟩, ?_⟩
  · obtain ⟨i, hi⟩ := List.getElem?_of_mem hq
    have hl := (List.getElem?_eq_some_iff.mp hi).1
    rw [mNst_len] at hl
    obtain ⟨q', h1, h2⟩ := of_decide_eq_true (all_r mNst_all hl)
    rw [hi] at h1
    cases h1
    exact va_Nw.of rfl (hts _ (List.mem_of_getElem? h2))
  · have hi := (mSq_of hq).1
    have e1 : (if mSB + i < mSB + 100 then (f (mSB + i - mSB)).1 else if mSB + i < mSB + 200 then (f (mSB + i - (mSB + 100))).2 else if mSB + i < mSB + 901 then fm else b) = (f i).1 := by
      rw [if_pos (by omega), show mSB + i - mSB = i by omega]
    have e2 : (if mSB + 100 + i < mSB + 100 then (f (mSB + 100 + i - mSB)).1 else if mSB + 100 + i < mSB + 200 then (f (mSB + 100 + i - (mSB + 100))).2 else if mSB + 100 + i < mSB + 901 then fm else b) = (f i).2 := by
      rw [if_neg (by omega), if_pos (by omega), show mSB + 100 + i - (mSB + 100) = i by omega]
    simp only [e1, e2]
    exact hf i q hq
  · have e3 : (if mSB + 900 < mSB + 100 then (f (mSB + 900 - mSB)).1 else if mSB + 900 < mSB + 200 then (f (mSB + 900 - (mSB + 100))).2 else if mSB + 900 < mSB + 901 then fm else b) = fm := by
      rw [if_neg (by omega), if_neg (by omega), if_pos (by omega)]
    simp only [e3]
    exact hfm
  · show (if mSB + 950 < mSB + 100 then (f (mSB + 950 - mSB)).1 else if mSB + 950 < mSB + 200 then (f (mSB + 950 - (mSB + 100))).2 else if mSB + 950 < mSB + 901 then fm else b) = b
    rw [if_neg (by omega), if_neg (by omega), if_neg (by omega)]
/-- the classes at the start -/
theorem mK_start {s : State} {args : Array Value} (hts : ∀ w ∈ lw_tbl, w.before args s = true) : ∃ D : va_G, va_K D vwCl [] s := by
  have hm : ∀ w ∈ mTb, w.before args s = true := fun w hw => hts w (List.mem_filter.mp hw).1
  have hi : ∀ k, k < 9 → Cond.instantiable (mCn k) (mNF k) ∈ mTb := by
    intro k hk
    rcases (show k = 0 ∨ k = 1 ∨ k = 2 ∨ k = 3 ∨ k = 4 ∨ k = 5 ∨ k = 6 ∨ k = 7 ∨ k = 8 by omega) with rfl | rfl | rfl | rfl | rfl | rfl | rfl | rfl | rfl
    · exact it_0
    · exact it_1
    · exact it_2
    · exact it_3
    · exact it_4
    · exact it_5
    · exact it_6
    · exact it_7
    · exact it_8
  have h0 : ∀ k : Nat, ∃ t : ClassId × (Nat → Nat), k < 9 → u_Kn s (mCn k) (mTt k) (mNF k) t.1 t.2 := by
    intro k
    by_cases hk : k < 9
    · obtain ⟨c, i, h⟩ := u_known (ws := mTb) hm (mIn hk) (hm _ (hi k hk))
      exact ⟨(c, i), fun _ => h⟩
    · exact ⟨(0, fun _ => 0), fun h => absurd h hk⟩
  obtain ⟨f, hf⟩ := Classical.axiomOfChoice h0
  refine ⟨(fun k => (f k).1, fun k => (f k).2), fun k q hq => ?_, fun k q h => by simp at h⟩
  have hk : k < 9 := (List.getElem?_eq_some_iff.mp hq).1
  have := mCl_at hk
  rw [hq] at this
  cases this
  exact hf k hk
/-! the state behind both constructors -/
def x0 : Cn := (fun _ _ => 0, fun _ _ => none)
theorem x0_ok : Okx 0 x0 := ⟨fun _ _ _ => ⟨rfl, rfl⟩, fun _ _ _ h => by cases h⟩
def xS : Cn := moC (clC x0)
theorem xS_i (a k : Nat) : gi xS a k = if a = 717 ∧ k = 12 then -1 else if a = 0 ∧ k = 8 then -1 else if a = 59 ∧ k = 4 then -1 else 0 := rfl
theorem xS_z {a k : Nat} (h : ¬ (a = 717 ∧ k = 12)) (h1 : ¬ (a = 0 ∧ k = 8)) (h2 : ¬ (a = 59 ∧ k = 4)) : gi xS a k = 0 := by rw [xS_i, if_neg h, if_neg h1, if_neg h2]
theorem SRf_of {x : Cn} {q : Nat} (h : (gr x q 5 = some (q + 1) ∧ gr x q 6 = some (q + 2) ∧ gr x q 7 = some (q + 3) ∧ gr x q 8 = some (q + 4) ∧ gr x q 9 = some (q + 5)) ∧ (∀ s, s < 24 → gr x (q + 3) s = some (q + 6 + s) ∧ gr x (q + 4) s = some (q + 30 + s))) : SRf x q := by
  obtain ⟨⟨h5, h6, h7, h8, h9⟩, hs⟩ := h
  refine ⟨h5, h6, h7, h8, h9, fun s hl => ⟨s, hl, (hs s hl).1⟩, fun s t h1 h2 e => ?_, fun s hl => ⟨s, hl, (hs s hl).2⟩, fun s t h1 h2 e => ?_⟩
  · rw [(hs s h1).1, (hs t h2).1] at e
    have := Option.some.inj e
    omega
  · rw [(hs s h1).2, (hs t h2).2] at e
    have := Option.some.inj e
    omega
theorem xS_2 : SRf xS 2 := SRf_of (by decide +kernel)
theorem xS_60 : SRf xS 60 := SRf_of (by decide +kernel)
theorem xS_118 : SRf xS 118 := SRf_of (by decide +kernel)
theorem xS_p : ∀ j, j < 10 → SRf xS (177 + 54 * j) := fun j hj => SRf_of ((show ∀ j, j < 10 → (gr xS (177 + 54 * j) 5 = some (177 + 54 * j + 1) ∧ gr xS (177 + 54 * j) 6 = some (177 + 54 * j + 2) ∧ gr xS (177 + 54 * j) 7 = some (177 + 54 * j + 3) ∧ gr xS (177 + 54 * j) 8 = some (177 + 54 * j + 4) ∧ gr xS (177 + 54 * j) 9 = some (177 + 54 * j + 5)) ∧ (∀ s, s < 24 → gr xS (177 + 54 * j + 3) s = some (177 + 54 * j + 6 + s) ∧ gr xS (177 + 54 * j + 4) s = some (177 + 54 * j + 30 + s)) by decide +kernel) j hj)
theorem xS_58 : ∀ i, i < 10 → gr xS 58 i = some (177 + 54 * i) := by decide +kernel
theorem xS_c : CRf xS := by
  refine ⟨by decide +kernel, by decide +kernel, by decide +kernel, by decide +kernel, by decide +kernel, by decide +kernel, by decide +kernel, by decide +kernel, by decide +kernel, by decide +kernel, Or.inl (by decide +kernel), by decide +kernel, by decide +kernel, by decide +kernel, by decide +kernel, by decide +kernel, by decide +kernel, xS_60, xS_118, xS_p, fun i hi => ⟨i, hi, xS_58 i hi⟩, fun i j hi hj e => ?_⟩
  rw [xS_58 i hi, xS_58 j hj] at e
  have := Option.some.inj e
  omega
theorem xS_m : MRf xS 718 := by
  refine ⟨by decide +kernel, by decide +kernel, by decide +kernel, by decide +kernel, by decide +kernel, by decide +kernel, by decide +kernel, by decide +kernel, by decide +kernel⟩
theorem xS_718 (k : Nat) : gi xS 718 k = 0 := xS_z (by omega) (by omega) (by omega)
theorem xS_rel : Rel xS := by
  refine ⟨xS_c, xS_m, ⟨trivial, trivial⟩, ⟨0, by decide, xS_z (by omega) (by omega) (by omega), xS_z (by omega) (by omega) (by omega), fun i hi => absurd hi (by omega)⟩, ⟨0, by decide, xS_z (by omega) (by omega) (by omega), xS_z (by omega) (by omega) (by omega), fun i hi => absurd hi (by omega)⟩, 0, 0, 0, 0, 0, ⟨Or.inl rfl, xS_2, ⟨?_, ?_, ?_, ?_, ?_, fun h hh => ⟨?_, ?_⟩, fun s p hs _ => absurd hs (by omega), fun s p hs _ => absurd hs (by omega)⟩, ⟨xS_718 _, Or.inl ⟨rfl, rfl⟩, by decide, xS_718 _, by decide, xS_718 _, by decide, xS_718 _, by decide, xS_718 _, by decide, fun h hh => ⟨0, 0, by decide, by decide, xS_718 _, xS_718 _⟩, fun s hs => absurd hs (by omega), fun s hs => absurd hs (by omega)⟩⟩, ⟨xS_z (by omega) (by omega) (by omega), fun c hc => absurd hc (by omega)⟩, ⟨0, by decide, xS_z (by omega) (by omega) (by omega), xS_z (by omega) (by omega) (by omega), fun j hj => absurd hj (by omega)⟩⟩
  all_goals (rw [xS_718, xS_z (by omega) (by omega) (by omega)])
theorem xS_f : gi xS 0 7 = gi xS 717 11 ∧ gi xS 0 8 = gi xS 717 12 := ⟨rfl, rfl⟩

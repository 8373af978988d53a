theorem w_ls : Cond.laysStatic mFm.1 mFm.2.1 mFm.2.2 ∈ lw_tbl := List.mem_append_right _ (lw_t2 200 rfl)
theorem w_ic : Cond.initialized "java/lang/String" ∈ lw_tbl := List.mem_append_right _ (lw_t1 11 rfl)
theorem w_is : Cond.initialized mFm.1 ∈ lw_tbl := List.mem_append_right _ (lw_t1 13 rfl)
theorem w_aoX4 : Cond.arrayOver (.object RX4) ∈ lw_tbl := List.mem_append_right _ (lw_t1 229 rfl)
theorem w_aoX5 : Cond.arrayOver (.object RX5) ∈ lw_tbl := List.mem_append_right _ (lw_t1 31 rfl)
theorem w_aoX0 : Cond.arrayOver (.object RX0) ∈ lw_tbl := List.mem_append_right _ (lw_t1 33 rfl)
theorem f_cs : Cond.eq (.static "java/lang/String" "COMPACT_STRINGS" "Z") (.int 1) ∈ flatC (Cond.and given_1 narrow_1) := List.mem_of_getElem? (i := 4) (by decide +kernel)
theorem f_fm : Cond.isRef (.static mFm.1 mFm.2.1 mFm.2.2) ∈ flatC (Cond.and given_1 narrow_1) := List.mem_of_getElem? (i := 5) (by decide +kernel)
theorem all_r {n : Nat} {f : Nat → Bool} (h : (List.range n).all f = true) {i : Nat} (hi : i < n) : f i = true := List.all_eq_true.mp h i (List.mem_range.mpr hi)
theorem mSq_of {i : Nat} {q : String × Nat × String × List Int32} (h : mS[i]? = some q) : i < 37 ∧ mSq i = q := by
  have hl := (List.getElem?_eq_some_iff.mp h).1
  rw [mS_len] at hl
  refine ⟨hl, ?_⟩
  unfold mSq
  rw [List.getD_eq_getElem?_getD, h]
  rfl
theorem mBlk_in {i : Nat} (hi : i < 37) {w : Cond} (hw : w ∈ mBlk (mSq i)) : w ∈ flatC (Cond.and given_1 narrow_1) := by
  have h := of_decide_eq_true (all_r mBlk_all hi)
  rw [← h] at hw
  exact List.mem_of_mem_drop (List.mem_of_mem_take hw)
/-- String constants, links and statics at the start -/
theorem mSK_start {s : State} {args : Array Value} {A : Nat → Prop} (hts : ∀ w ∈ lw_tbl, w.before args s = true) (hgv : (Cond.and given_1 narrow_1).before args s = true) (hA : ∀ a : Nat, a < s.heap.size → ¬ A a) (b : Nat) : ∃ ad : Nat → Nat, mSK ad A s ∧ ad (mSB + 950) = b := by
  have hs := flat_of_before _ hgv
  have h0 : ∀ i : Nat, ∃ t : Nat × Nat, ∀ q : String × Nat × String × List Int32, mS[i]? = some q → vk_R q.1 q.2.1 q.2.2.1 t.1 s ∧ va_O "java/lang/String" t.1 A s s.heap ∧ va_OF "java/lang/String" "coder" "B" (.int 0) t.1 A s s.heap ∧ va_OF "java/lang/String" "value" "[B" (.ref t.2) t.1 A s s.heap ∧ va_T .byte t.2 q.2.2.2.length (fun j => .int (q.2.2.2.getD j 0)) A s s.heap := by
    intro i
    cases hq : mS[i]? with
    | none => exact ⟨(0, 0), fun q h => by cases h⟩
    | some q =>
      obtain ⟨hi, eq⟩ := mSq_of hq
      have hin : ∀ w ∈ mBlk q, w.before args s = true := fun w hw => hs w (mBlk_in hi (by rw [eq]; exact hw))
      obtain ⟨hr, hlen⟩ := of_decide_eq_true (all_r mSr_all hi)
      rw [eq] at hr hlen
      obtain ⟨a, c, cA, kA, q1, q2, q3, q4, q5, q6, -⟩ := Cond.exactly_spec (args := args) (first := s) (o := none) (s := s) (idx := []) (t := mTm q) (cls := "java/lang/String") (hin _ List.mem_cons_self)
      have m1 : Cond.eq (.field (mTm q) "java/lang/String" "coder" "B") (.int 0) ∈ mBlk q := List.mem_cons_of_mem _ List.mem_cons_self
      have m2 : Cond.arrayOf (mTv q) .byte ∈ mBlk q := List.mem_cons_of_mem _ (List.mem_cons_of_mem _ List.mem_cons_self)
      have m3 : Cond.eq (.length (mTv q)) (.int (Int32.ofNat q.2.2.2.length)) ∈ mBlk q := List.mem_cons_of_mem _ (List.mem_cons_of_mem _ (List.mem_cons_of_mem _ List.mem_cons_self))
      have m4 : ∀ j, j < q.2.2.2.length → Cond.eq (.elem (mTv q) (.int (Int32.ofNat j))) (.int (q.2.2.2.getD j 0)) ∈ mBlk q := fun j hj => List.mem_cons_of_mem _ (List.mem_cons_of_mem _ (List.mem_cons_of_mem _ (List.mem_cons_of_mem _ (List.mem_map.mpr ⟨j, List.mem_range.mpr hj, rfl⟩))))
      obtain ⟨t, ht, hT⟩ := va_Tof (f := fun j => .int (q.2.2.2.getD j 0)) (A := A) hlen (hin _ m2) (va_eqt (hin _ m3)) (fun j hj => va_eqt (hin _ (m4 j hj))) hA
      refine ⟨(a, t), fun q' h => ?_⟩
      cases h
      exact ⟨vk_R.of (hts _ (List.mem_append_right _ (mCk_sub (List.mem_of_getElem? hr)))) q1, ⟨cA, q3, q5, by rw [q6]; exact q2, hA a (Array.getElem?_eq_some_iff.mp q3).1⟩, vk_OFof q1 (va_eqt (hin _ m1)) hA, vk_OFof q1 ht hA, hT⟩
  obtain ⟨f, hf⟩ := Classical.axiomOfChoice h0
  have hfm := va_Zqof (A := A) (hts _ w_ls) (hts _ w_is) (hs _ f_fm) hA
  obtain ⟨fm, hfm⟩ : ∃ fm : Nat, va_Z mFm.1 mFm.2.1 mFm.2.2 .null A s s.heap ∨ va_Z mFm.1 mFm.2.1 mFm.2.2 (.ref fm) A s s.heap := by
    rcases hfm with h | ⟨t, h⟩
    · exact ⟨0, Or.inl h⟩
    · exact ⟨t, Or.inr h⟩
  refine ⟨fun a => if a < mSB + 100 then (f (a - mSB)).1 else if a < mSB + 200 then (f (a - (mSB + 100))).2 else if a < mSB + 901 then fm else b, ⟨va_Zof (hts _ w_lc) (hts _ w_ic) (va_eqt (hs _ f_cs)) hA, fun q hq => ?_, fun i q hq => ?_, ?_, va_AO.of (hts _ w_aoX4), va_AO.of (hts _ w_aoX5), va_AO.of (hts _ w_aoX0)⟩, ?_⟩
  · obtain ⟨i, hi⟩ := List.getElem?_of_mem hq
    have hl := (List.getElem?_eq_some_iff.mp hi).1
    rw [mNst_len] at hl
    obtain ⟨q', h1, h2⟩ := of_decide_eq_true (all_r mNst_all hl)
    rw [hi] at h1
    cases h1
    exact va_Nw.of rfl (hts _ (List.mem_append_right _ (mCk_sub (List.mem_of_getElem? h2))))
  · have hi := (mSq_of hq).1
    have e1 : (if mSB + i < mSB + 100 then (f (mSB + i - mSB)).1 else if mSB + i < mSB + 200 then (f (mSB + i - (mSB + 100))).2 else if mSB + i < mSB + 901 then fm else b) = (f i).1 := by
      rw [if_pos (by omega), show mSB + i - mSB = i by omega]
    have e2 : (if mSB + 100 + i < mSB + 100 then (f (mSB + 100 + i - mSB)).1 else if mSB + 100 + i < mSB + 200 then (f (mSB + 100 + i - (mSB + 100))).2 else if mSB + 100 + i < mSB + 901 then fm else b) = (f i).2 := by
      rw [if_neg (by omega), if_pos (by omega), show mSB + 100 + i - (mSB + 100) = i by omega]
    simp only [e1, e2]
    exact hf i q hq
  · have e3 : (if mSB + 900 < mSB + 100 then (f (mSB + 900 - mSB)).1 else if mSB + 900 < mSB + 200 then (f (mSB + 900 - (mSB + 100))).2 else if mSB + 900 < mSB + 901 then fm else b) = fm := by
      rw [if_neg (by omega), if_neg (by omega), if_pos (by omega)]
    simp only [e3]
    exact hfm
  · show (if mSB + 950 < mSB + 100 then (f (mSB + 950 - mSB)).1 else if mSB + 950 < mSB + 200 then (f (mSB + 950 - (mSB + 100))).2 else if mSB + 950 < mSB + 901 then fm else b) = b
    rw [if_neg (by omega), if_neg (by omega), if_neg (by omega)]
